abbrev cX0_find : ByteArray := prog_2_method_2_code
def yX0_find : MethodName := ⟨RX0, "find", "(LPaidBySigns$Hire;II)Z"⟩
abbrev cX0_fillFelt : ByteArray := prog_2_method_3_code
def yX0_fillFelt : MethodName := ⟨RX0, "fillFelt", "(LPaidBySigns$Hire;)V"⟩
abbrev cX0_fillLine : ByteArray := prog_2_method_4_code
def yX0_fillLine : MethodName := ⟨RX0, "fillLine", "(LPaidBySigns$Hire;II)V"⟩
abbrev cX0_place : ByteArray := prog_2_method_5_code
def yX0_place : MethodName := ⟨RX0, "place", "(II)V"⟩
abbrev cX0_canBeCheaper : ByteArray := prog_2_method_6_code
def yX0_canBeCheaper : MethodName := ⟨RX0, "canBeCheaper", "(II)Z"⟩
abbrev cX0_firstCoin : ByteArray := prog_2_method_7_code
def yX0_firstCoin : MethodName := ⟨RX0, "firstCoin", "(I)I"⟩
abbrev cX0_lastCoin : ByteArray := prog_2_method_8_code
def yX0_lastCoin : MethodName := ⟨RX0, "lastCoin", "(I)I"⟩
abbrev cX0_isShort : ByteArray := prog_2_method_9_code
def yX0_isShort : MethodName := ⟨RX0, "isShort", "(III)Z"⟩
abbrev cX1_forget : ByteArray := prog_3_method_2_code
def yX1_forget : MethodName := ⟨RX1, "forget", "()V"⟩
abbrev cX1_canTell : ByteArray := prog_3_method_3_code
def yX1_canTell : MethodName := ⟨RX1, "canTell", "(I)Z"⟩
abbrev cX1_canCorrect : ByteArray := prog_3_method_4_code
def yX1_canCorrect : MethodName := ⟨RX1, "canCorrect", "(II)Z"⟩
abbrev cX1_write : ByteArray := prog_3_method_5_code
def yX1_write : MethodName := ⟨RX1, "write", "(II)I"⟩
abbrev cX1_correct : ByteArray := prog_3_method_6_code
def yX1_correct : MethodName := ⟨RX1, "correct", "(III)I"⟩
abbrev cX1_productOf : ByteArray := prog_3_method_7_code
def yX1_productOf : MethodName := ⟨RX1, "productOf", "(LPaidBySigns$Hire;II)J"⟩
abbrev cX1_signKnown : ByteArray := prog_3_method_8_code
def yX1_signKnown : MethodName := ⟨RX1, "signKnown", "(II)I"⟩
abbrev cX2_forget : ByteArray := prog_4_method_2_code
def yX2_forget : MethodName := ⟨RX2, "forget", "()V"⟩
abbrev cX2_copy : ByteArray := prog_4_method_3_code
def yX2_copy : MethodName := ⟨RX2, "copy", "(LPaidBySigns$Fraction;)V"⟩
abbrev cX2_become : ByteArray := prog_4_method_4_code
def yX2_become : MethodName := ⟨RX2, "become", "(JJ)V"⟩
abbrev cX2_add : ByteArray := prog_4_method_5_code
def yX2_add : MethodName := ⟨RX2, "add", "(JJ)V"⟩
abbrev cX2_isBelow : ByteArray := prog_4_method_6_code
def yX2_isBelow : MethodName := ⟨RX2, "isBelow", "(LPaidBySigns$Fraction;LPaidBySigns$Fraction;)Z"⟩
abbrev cX2_commonPart : ByteArray := prog_4_method_7_code
def yX2_commonPart : MethodName := ⟨RX2, "commonPart", "(JJ)J"⟩
abbrev cX3_feltOf : ByteArray := prog_5_method_3_code
def yX3_feltOf : MethodName := ⟨RX3, "feltOf", "(I)I"⟩
abbrev cX3_wageOf : ByteArray := prog_5_method_4_code
def yX3_wageOf : MethodName := ⟨RX3, "wageOf", "(JJLPaidBySigns$Fraction;)V"⟩
abbrev cX3_worthAt : ByteArray := prog_5_method_5_code
def yX3_worthAt : MethodName := ⟨RX3, "worthAt", "(I[I)I"⟩
abbrev cX3_leftAt : ByteArray := prog_5_method_6_code
def yX3_leftAt : MethodName := ⟨RX3, "leftAt", "(I[I)I"⟩
abbrev cX3_doneAt : ByteArray := prog_5_method_7_code
def yX3_doneAt : MethodName := ⟨RX3, "doneAt", "([I)I"⟩
abbrev cX3_lackOf : ByteArray := prog_5_method_8_code
def yX3_lackOf : MethodName := ⟨RX3, "lackOf", "(II)I"⟩
abbrev cX3_broughtBy : ByteArray := prog_5_method_9_code
def yX3_broughtBy : MethodName := ⟨RX3, "broughtBy", "(I)I"⟩
abbrev cX3_chanceFrom : ByteArray := prog_5_method_10_code
def yX3_chanceFrom : MethodName := ⟨RX3, "chanceFrom", "(II)I"⟩
abbrev cX4_findCost : ByteArray := prog_6_method_2_code
def yX4_findCost : MethodName := ⟨RX4, "findCost", "(LPaidBySigns$Hire;I)Z"⟩
abbrev cX4_findWages : ByteArray := prog_6_method_3_code
def yX4_findWages : MethodName := ⟨RX4, "findWages", "(LPaidBySigns$Hire;I)Z"⟩
abbrev cX4_findMerged : ByteArray := prog_6_method_4_code
def yX4_findMerged : MethodName := ⟨RX4, "findMerged", "(LPaidBySigns$Hire;III)Z"⟩
abbrev cX4_costInto : ByteArray := prog_6_method_5_code
def yX4_costInto : MethodName := ⟨RX4, "costInto", "(LPaidBySigns$Fraction;)V"⟩
abbrev cX4_wageInto : ByteArray := prog_6_method_6_code
def yX4_wageInto : MethodName := ⟨RX4, "wageInto", "(LPaidBySigns$Fraction;I)V"⟩
abbrev cX4_find : ByteArray := prog_6_method_7_code
def yX4_find : MethodName := ⟨RX4, "find", "(LPaidBySigns$Hire;IIII)Z"⟩
abbrev cX4_chanceOf : ByteArray := prog_6_method_8_code
def yX4_chanceOf : MethodName := ⟨RX4, "chanceOf", "(II)I"⟩
abbrev cX4_listColumns : ByteArray := prog_6_method_9_code
def yX4_listColumns : MethodName := ⟨RX4, "listColumns", "()V"⟩
abbrev cX4_listSteps : ByteArray := prog_6_method_10_code
def yX4_listSteps : MethodName := ⟨RX4, "listSteps", "(I)V"⟩
abbrev cX4_fillGoals : ByteArray := prog_6_method_11_code
def yX4_fillGoals : MethodName := ⟨RX4, "fillGoals", "(I)V"⟩
abbrev cX4_partsOf : ByteArray := prog_6_method_12_code
def yX4_partsOf : MethodName := ⟨RX4, "partsOf", "(I)I"⟩
abbrev cX4_fillLines : ByteArray := prog_6_method_13_code
def yX4_fillLines : MethodName := ⟨RX4, "fillLines", "(I)V"⟩
abbrev cX4_fillRooms : ByteArray := prog_6_method_14_code
def yX4_fillRooms : MethodName := ⟨RX4, "fillRooms", "(I)V"⟩
abbrev cX4_readWages : ByteArray := prog_6_method_15_code
def yX4_readWages : MethodName := ⟨RX4, "readWages", "()V"⟩
abbrev cX5_settle : ByteArray := prog_7_method_2_code
def yX5_settle : MethodName := ⟨RX5, "settle", "(LPaidBySigns$Hire;IIII)Z"⟩
abbrev cX5_settleWatched : ByteArray := prog_7_method_3_code
def yX5_settleWatched : MethodName := ⟨RX5, "settleWatched", "(LPaidBySigns$Hire;II)Z"⟩
abbrev cX5_meanInto : ByteArray := prog_7_method_4_code
def yX5_meanInto : MethodName := ⟨RX5, "meanInto", "(LPaidBySigns$Fraction;LPaidBySigns$Hire;II)V"⟩
abbrev cX5_start : ByteArray := prog_7_method_5_code
def yX5_start : MethodName := ⟨RX5, "start", "()V"⟩
abbrev cX5_need : ByteArray := prog_7_method_6_code
def yX5_need : MethodName := ⟨RX5, "need", "(JJ)V"⟩
abbrev cX5_isMet : ByteArray := prog_7_method_7_code
def yX5_isMet : MethodName := ⟨RX5, "isMet", "()Z"⟩
abbrev cX6_forget : ByteArray := prog_8_method_2_code
def yX6_forget : MethodName := ⟨RX6, "forget", "()V"⟩
abbrev cX6_changePress : ByteArray := prog_8_method_3_code
def yX6_changePress : MethodName := ⟨RX6, "changePress", "(II)I"⟩
abbrev cX6_changeElse : ByteArray := prog_8_method_4_code
def yX6_changeElse : MethodName := ⟨RX6, "changeElse", "(I)I"⟩
abbrev cX6_changeMix : ByteArray := prog_8_method_5_code
def yX6_changeMix : MethodName := ⟨RX6, "changeMix", "(II)I"⟩
abbrev cX6_boundInto : ByteArray := prog_8_method_6_code
def yX6_boundInto : MethodName := ⟨RX6, "boundInto", "(LPaidBySigns$Fraction;LPaidBySigns$Hire;I)Z"⟩
abbrev cX6_pressedAt : ByteArray := prog_8_method_7_code
def yX6_pressedAt : MethodName := ⟨RX6, "pressedAt", "(LPaidBySigns$Hire;II)J"⟩
abbrev cX6_leastOf : ByteArray := prog_8_method_8_code
def yX6_leastOf : MethodName := ⟨RX6, "leastOf", "(LPaidBySigns$Hire;JJ)J"⟩
abbrev cX6_isRuledOut : ByteArray := prog_8_method_9_code
def yX6_isRuledOut : MethodName := ⟨RX6, "isRuledOut", "(LPaidBySigns$Hire;I)Z"⟩
abbrev cX6_mixedChance : ByteArray := prog_8_method_10_code
def yX6_mixedChance : MethodName := ⟨RX6, "mixedChance", "(LPaidBySigns$Hire;II)I"⟩
abbrev cX7_append : ByteArray := prog_9_method_2_code
def yX7_append : MethodName := ⟨RX7, "append", "(I)V"⟩
abbrev cX7_readText : ByteArray := prog_9_method_3_code
def yX7_readText : MethodName := ⟨RX7, "readText", "()Z"⟩
abbrev cX7_fail : ByteArray := prog_9_method_4_code
def yX7_fail : MethodName := ⟨RX7, "fail", "(I)Z"⟩
abbrev cX7_readWhole : ByteArray := prog_9_method_5_code
def yX7_readWhole : MethodName := ⟨RX7, "readWhole", "()Z"⟩
abbrev cX7_readSigns : ByteArray := prog_9_method_6_code
def yX7_readSigns : MethodName := ⟨RX7, "readSigns", "()Z"⟩
abbrev cX7_readSign : ByteArray := prog_9_method_7_code
def yX7_readSign : MethodName := ⟨RX7, "readSign", "()Z"⟩
abbrev cX7_readWorks : ByteArray := prog_9_method_8_code
def yX7_readWorks : MethodName := ⟨RX7, "readWorks", "()Z"⟩
abbrev cX7_readWork : ByteArray := prog_9_method_9_code
def yX7_readWork : MethodName := ⟨RX7, "readWork", "()Z"⟩
abbrev cX7_readChances : ByteArray := prog_9_method_10_code
def yX7_readChances : MethodName := ⟨RX7, "readChances", "([I)Z"⟩
abbrev cX7_readRests : ByteArray := prog_9_method_11_code
def yX7_readRests : MethodName := ⟨RX7, "readRests", "()Z"⟩
abbrev cX7_readNumberOnce : ByteArray := prog_9_method_12_code
def yX7_readNumberOnce : MethodName := ⟨RX7, "readNumberOnce", "(Z)Z"⟩
abbrev cX7_readFeel : ByteArray := prog_9_method_13_code
def yX7_readFeel : MethodName := ⟨RX7, "readFeel", "()Z"⟩
abbrev cX7_readStep : ByteArray := prog_9_method_14_code
def yX7_readStep : MethodName := ⟨RX7, "readStep", "(I)Z"⟩
abbrev cX7_isNumber : ByteArray := prog_9_method_15_code
def yX7_isNumber : MethodName := ⟨RX7, "isNumber", "(II)Z"⟩
abbrev cX7_passSemicolon : ByteArray := prog_9_method_16_code
def yX7_passSemicolon : MethodName := ⟨RX7, "passSemicolon", "()Z"⟩
abbrev cX7_passWord : ByteArray := prog_9_method_17_code
def yX7_passWord : MethodName := ⟨RX7, "passWord", "(Ljava/lang/String;)Z"⟩
abbrev cX7_passName : ByteArray := prog_9_method_18_code
def yX7_passName : MethodName := ⟨RX7, "passName", "(I)Z"⟩
abbrev cX7_isSameRun : ByteArray := prog_9_method_19_code
def yX7_isSameRun : MethodName := ⟨RX7, "isSameRun", "(II)Z"⟩
abbrev cX7_isWord : ByteArray := prog_9_method_20_code
def yX7_isWord : MethodName := ⟨RX7, "isWord", "(Ljava/lang/String;)Z"⟩
abbrev cX7_advance : ByteArray := prog_9_method_21_code
def yX7_advance : MethodName := ⟨RX7, "advance", "()V"⟩
abbrev cX7_takeRun : ByteArray := prog_9_method_22_code
def yX7_takeRun : MethodName := ⟨RX7, "takeRun", "()V"⟩
abbrev cX7_kindOf : ByteArray := prog_9_method_23_code
def yX7_kindOf : MethodName := ⟨RX7, "kindOf", "(B)I"⟩
abbrev cX8_start : ByteArray := prog_10_method_2_code
def yX8_start : MethodName := ⟨RX8, "start", "(III)V"⟩
abbrev cX8_solve : ByteArray := prog_10_method_3_code
def yX8_solve : MethodName := ⟨RX8, "solve", "()Z"⟩
abbrev cX8_lineBelowZero : ByteArray := prog_10_method_4_code
def yX8_lineBelowZero : MethodName := ⟨RX8, "lineBelowZero", "()I"⟩
abbrev cX8_columnFor : ByteArray := prog_10_method_5_code
def yX8_columnFor : MethodName := ⟨RX8, "columnFor", "(I)I"⟩
abbrev cX8_compareRatios : ByteArray := prog_10_method_6_code
def yX8_compareRatios : MethodName := ⟨RX8, "compareRatios", "(III)I"⟩
abbrev cX8_pivot : ByteArray := prog_10_method_7_code
def yX8_pivot : MethodName := ⟨RX8, "pivot", "(II)V"⟩
abbrev cX8_changeLine : ByteArray := prog_10_method_8_code
def yX8_changeLine : MethodName := ⟨RX8, "changeLine", "([J[JIJ)V"⟩
abbrev cX9_feed : ByteArray := prog_1_method_2_code
def yX9_feed : MethodName := ⟨RX9, "feed", "(IIIII)I"⟩
abbrev cX9_end : ByteArray := prog_1_method_3_code
def yX9_end : MethodName := ⟨RX9, "end", "(I)I"⟩
abbrev cX9_hire : ByteArray := prog_1_method_4_code
def yX9_hire : MethodName := ⟨RX9, "hire", "()I"⟩
abbrev cX9_fault : ByteArray := prog_1_method_5_code
def yX9_fault : MethodName := ⟨RX9, "fault", "(I)I"⟩
abbrev cX9_told : ByteArray := prog_1_method_6_code
def yX9_told : MethodName := ⟨RX9, "told", "(I)I"⟩
abbrev cX9_chance : ByteArray := prog_1_method_7_code
def yX9_chance : MethodName := ⟨RX9, "chance", "(II)I"⟩
abbrev cX9_feeling : ByteArray := prog_1_method_8_code
def yX9_feeling : MethodName := ⟨RX9, "feeling", "(I)I"⟩
abbrev cX9_wage : ByteArray := prog_1_method_9_code
def yX9_wage : MethodName := ⟨RX9, "wage", "(II)I"⟩
abbrev cX9_worth : ByteArray := prog_1_method_10_code
def yX9_worth : MethodName := ⟨RX9, "worth", "(I)I"⟩
abbrev cX9_leaves : ByteArray := prog_1_method_11_code
def yX9_leaves : MethodName := ⟨RX9, "leaves", "(I)I"⟩
abbrev cX9_does : ByteArray := prog_1_method_12_code
def yX9_does : MethodName := ⟨RX9, "does", "()I"⟩
abbrev cX9_comes : ByteArray := prog_1_method_13_code
def yX9_comes : MethodName := ⟨RX9, "comes", "()I"⟩
abbrev cX9_upper : ByteArray := prog_1_method_14_code
def yX9_upper : MethodName := ⟨RX9, "upper", "()J"⟩
abbrev cX9_lower : ByteArray := prog_1_method_15_code
def yX9_lower : MethodName := ⟨RX9, "lower", "()J"⟩
abbrev cX9_make : ByteArray := prog_1_method_16_code
def yX9_make : MethodName := ⟨RX9, "make", "(I)I"⟩
abbrev cX9_wages : ByteArray := prog_1_method_17_code
def yX9_wages : MethodName := ⟨RX9, "wages", "(IZ)J"⟩
abbrev cX9_seen : ByteArray := prog_1_method_18_code
def yX9_seen : MethodName := ⟨RX9, "seen", "(I)I"⟩
abbrev cX9_best : ByteArray := prog_1_method_19_code
def yX9_best : MethodName := ⟨RX9, "best", "()I"⟩
abbrev cX9_merged : ByteArray := prog_1_method_20_code
def yX9_merged : MethodName := ⟨RX9, "merged", "(III)I"⟩
abbrev cX9_coins : ByteArray := prog_1_method_21_code
def yX9_coins : MethodName := ⟨RX9, "coins", "(II)I"⟩
abbrev cX9_bar : ByteArray := prog_1_method_22_code
def yX9_bar : MethodName := ⟨RX9, "bar", "(I)I"⟩
abbrev cX9_crew : ByteArray := prog_1_method_23_code
def yX9_crew : MethodName := ⟨RX9, "crew", "(II)I"⟩
abbrev cX9_watch : ByteArray := prog_1_method_24_code
def yX9_watch : MethodName := ⟨RX9, "watch", "(II)I"⟩
abbrev cX9_press : ByteArray := prog_1_method_25_code
def yX9_press : MethodName := ⟨RX9, "press", "(II)I"⟩
abbrev cX9_by : ByteArray := prog_1_method_26_code
def yX9_by : MethodName := ⟨RX9, "by", "(I)I"⟩
abbrev cX9_proves : ByteArray := prog_1_method_27_code
def yX9_proves : MethodName := ⟨RX9, "proves", "(I)I"⟩
abbrev cX9_mix : ByteArray := prog_1_method_28_code
def yX9_mix : MethodName := ⟨RX9, "mix", "(II)I"⟩
abbrev cX9_same : ByteArray := prog_1_method_29_code
def yX9_same : MethodName := ⟨RX9, "same", "(I)I"⟩
abbrev cX9_edge : ByteArray := prog_1_method_30_code
def yX9_edge : MethodName := ⟨RX9, "edge", "(III)I"⟩
abbrev cX9_ratio : ByteArray := prog_1_method_31_code
def yX9_ratio : MethodName := ⟨RX9, "ratio", "(II)I"⟩
abbrev cX9_rises : ByteArray := prog_1_method_32_code
def yX9_rises : MethodName := ⟨RX9, "rises", "(I)I"⟩
abbrev cX9_see : ByteArray := prog_1_method_33_code
def yX9_see : MethodName := ⟨RX9, "see", "(II)I"⟩
abbrev cX9_right : ByteArray := prog_1_method_34_code
def yX9_right : MethodName := ⟨RX9, "right", "(III)I"⟩
abbrev cX9_odds : ByteArray := prog_1_method_35_code
def yX9_odds : MethodName := ⟨RX9, "odds", "(II)I"⟩
abbrev cX9_guess : ByteArray := prog_1_method_36_code
def yX9_guess : MethodName := ⟨RX9, "guess", "(I)I"⟩
abbrev cX9_count : ByteArray := prog_1_method_37_code
def yX9_count : MethodName := ⟨RX9, "count", "(I)I"⟩
abbrev cX9_toldOfOne : ByteArray := prog_1_method_38_code
def yX9_toldOfOne : MethodName := ⟨RX9, "toldOfOne", "(I)I"⟩
abbrev cX9_isSign : ByteArray := prog_1_method_39_code
def yX9_isSign : MethodName := ⟨RX9, "isSign", "(I)Z"⟩
abbrev cX9_isPair : ByteArray := prog_1_method_40_code
def yX9_isPair : MethodName := ⟨RX9, "isPair", "(II)Z"⟩
abbrev cX9_isWork : ByteArray := prog_1_method_41_code
def yX9_isWork : MethodName := ⟨RX9, "isWork", "(I)Z"⟩
abbrev cX9_isStep : ByteArray := prog_1_method_42_code
def yX9_isStep : MethodName := ⟨RX9, "isStep", "(I)Z"⟩
abbrev cX9_bestWork : ByteArray := prog_1_method_43_code
def yX9_bestWork : MethodName := ⟨RX9, "bestWork", "()I"⟩
def RJ6 : String := "java/lang/Integer"
abbrev cJ6_compare_7cf53 : ByteArray := prog_13_method_40_code
def yJ6_compare_7cf53 : MethodName := ⟨RJ6, "compare", "(II)I"⟩
def RJ0 : String := "java/lang/String"
abbrev cJ0_length_8abf5 : ByteArray := prog_15_method_54_code
def yJ0_length_8abf5 : MethodName := ⟨RJ0, "length", "()I"⟩
abbrev cJ0_charAt_5068e : ByteArray := prog_15_method_56_code
def yJ0_charAt_5068e : MethodName := ⟨RJ0, "charAt", "(I)C"⟩
abbrev cJ0_coder_7d493 : ByteArray := prog_15_method_152_code
def yJ0_coder_7d493 : MethodName := ⟨RJ0, "coder", "()B"⟩
abbrev cJ0_isLatin1_aae02 : ByteArray := prog_15_method_154_code
def yJ0_isLatin1_aae02 : MethodName := ⟨RJ0, "isLatin1", "()Z"⟩
abbrev cJ0_checkIndex_df160 : ByteArray := prog_15_method_155_code
def yJ0_checkIndex_df160 : MethodName := ⟨RJ0, "checkIndex", "(II)V"⟩
def RJ1 : String := "java/lang/StringLatin1"
abbrev cJ1_charAt_3b067 : ByteArray := prog_16_method_2_code
def yJ1_charAt_3b067 : MethodName := ⟨RJ1, "charAt", "([BI)C"⟩
def RJ2 : String := "java/lang/StringUTF16"
abbrev cJ2_getChar_3b067 : ByteArray := prog_17_method_5_code
def yJ2_getChar_3b067 : MethodName := ⟨RJ2, "getChar", "([BI)C"⟩
abbrev cJ2_length_9d52b : ByteArray := prog_17_method_6_code
def yJ2_length_9d52b : MethodName := ⟨RJ2, "length", "([B)I"⟩
abbrev cJ2_charAt_3b067 : ByteArray := prog_17_method_83_code
def yJ2_charAt_3b067 : MethodName := ⟨RJ2, "charAt", "([BI)C"⟩
abbrev cJ2_checkIndex_2214a : ByteArray := prog_17_method_91_code
def yJ2_checkIndex_2214a : MethodName := ⟨RJ2, "checkIndex", "(I[B)V"⟩
def RJ7 : String := "java/util/Arrays"
abbrev cJ7_fill_d0a16 : ByteArray := prog_19_method_101_code
def yJ7_fill_d0a16 : MethodName := ⟨RJ7, "fill", "([JJ)V"⟩
abbrev cJ7_fill_53178 : ByteArray := prog_19_method_103_code
def yJ7_fill_53178 : MethodName := ⟨RJ7, "fill", "([II)V"⟩
def RJ3 : String := "jdk/internal/util/Preconditions"
abbrev cJ3_checkIndex_8e157 : ByteArray := prog_20_method_11_code
def yJ3_checkIndex_8e157 : MethodName := ⟨RJ3, "checkIndex", "(IILjava/util/function/BiFunction;)I"⟩
def wsX3_feltOf : List Cond := .code yX3_feltOf cX3_feltOf 6 (some .int) :: ([.fieldLink RX3 48 "PaidBySigns$Hire" "rates" "I", .fieldLink RX3 26 "PaidBySigns$Hire" "mark" "[I", .methodLink RX3 51 Lib.Math.min.name, .static Lib.Math.min.name, .initialized "java/lang/Math", .code Lib.Math.min.name Lib.Math.min.code 2 (some .int), .fieldLink RX3 23 "PaidBySigns$Hire" "rate" "[I"] ++ wsX30)
def wsX1_canTell : List Cond := .code yX1_canTell cX1_canTell 2 (some .boolean) :: ([.fieldLink RX1 18 "PaidBySigns$Diary" "latestStep" "I"] ++ wsX10)
def wsX1_canCorrect : List Cond := .code yX1_canCorrect cX1_canCorrect 3 (some .boolean) :: ([.fieldLink RX1 9 "PaidBySigns$Diary" "seen" "I", .fieldLink RX1 21 "PaidBySigns$Diary" "seenStep" "[I"] ++ wsX10)
def wsX6_changeElse : List Cond := .code yX6_changeElse cX6_changeElse 3 (some .int) :: ([.fieldLink RX6 19 "PaidBySigns$Proofs" "pressOfElse" "I"] ++ wsX60)
def wsX7_append : List Cond := .code yX7_append cX7_append 3 none :: ([.fieldLink RX7 9 "PaidBySigns$Reader" "length" "I", .fieldLink RX7 28 "PaidBySigns$Reader" "text" "[B"] ++ wsX70)
def wsX7_advance : List Cond := .code yX7_advance cX7_advance 1 none :: ([.fieldLink RX7 32 "PaidBySigns$Reader" "next" "I", .fieldLink RX7 9 "PaidBySigns$Reader" "length" "I", .fieldLink RX7 28 "PaidBySigns$Reader" "text" "[B", .fieldLink RX7 38 "PaidBySigns$Reader" "start" "I", .fieldLink RX7 35 "PaidBySigns$Reader" "token" "I", .methodLink RX7 180 yX7_kindOf, .static yX7_kindOf, .initialized RX7, .code yX7_kindOf cX7_kindOf 1 (some .int), .methodLink RX7 184 yX7_takeRun, .instanceMethod yX7_takeRun, .selects RX7 yX7_takeRun yX7_takeRun, .code yX7_takeRun cX7_takeRun 2 none] ++ wsX70)
def wsX7_isWord_r1 : List Cond := [Cond.fieldLink RX7 35 "PaidBySigns$Reader" "token" "I", Cond.fieldLink RX7 32 "PaidBySigns$Reader" "next" "I", Cond.fieldLink RX7 38 "PaidBySigns$Reader" "start" "I", Cond.fieldLink RX7 28 "PaidBySigns$Reader" "text" "[B", Cond.methodLink RX7 171 yJ0_length_8abf5, Cond.instanceMethod yJ0_length_8abf5, Cond.selects RJ0 yJ0_length_8abf5 yJ0_length_8abf5, Cond.initialized RJ0, Cond.code yJ0_length_8abf5 cJ0_length_8abf5 1 (some .int), Cond.fieldLink RJ0 9 "java/lang/String" "value" "[B", Cond.methodLink RJ0 335 yJ0_coder_7d493, Cond.instanceMethod yJ0_coder_7d493, Cond.selects RJ0 yJ0_coder_7d493 yJ0_coder_7d493, Cond.code yJ0_coder_7d493 cJ0_coder_7d493 1 (some .byte), Cond.fieldLink RJ0 38 "java/lang/String" "COMPACT_STRINGS" "Z", Cond.fieldLink RJ0 15 "java/lang/String" "coder" "B", Cond.methodLink RX7 176 yJ0_charAt_5068e, Cond.instanceMethod yJ0_charAt_5068e, Cond.selects RJ0 yJ0_charAt_5068e yJ0_charAt_5068e, Cond.code yJ0_charAt_5068e cJ0_charAt_5068e 2 (some .char), Cond.methodLink RJ0 492 yJ0_isLatin1_aae02, Cond.instanceMethod yJ0_isLatin1_aae02, Cond.selects RJ0 yJ0_isLatin1_aae02 yJ0_isLatin1_aae02, Cond.code yJ0_isLatin1_aae02 cJ0_isLatin1_aae02 1 (some .boolean)]
def wsX7_isWord_r2 : List Cond := [Cond.methodLink RJ0 495 yJ1_charAt_3b067, Cond.static yJ1_charAt_3b067, Cond.initialized RJ1, Cond.code yJ1_charAt_3b067 cJ1_charAt_3b067 2 (some .char), Cond.methodLink RJ1 9 yJ0_checkIndex_df160, Cond.static yJ0_checkIndex_df160, Cond.code yJ0_checkIndex_df160 cJ0_checkIndex_df160 2 none, Cond.fieldLink RJ0 1053 "jdk/internal/util/Preconditions" "SIOOBE_FORMATTER" "Ljava/util/function/BiFunction;", Cond.methodLink RJ0 1059 yJ3_checkIndex_8e157, Cond.static yJ3_checkIndex_8e157, Cond.initialized RJ3, Cond.code yJ3_checkIndex_8e157 cJ3_checkIndex_8e157 3 (some .int), Cond.methodLink RJ0 498 yJ2_charAt_3b067, Cond.static yJ2_charAt_3b067, Cond.initialized RJ2, Cond.code yJ2_charAt_3b067 cJ2_charAt_3b067 2 (some .char), Cond.methodLink RJ2 67 yJ2_checkIndex_2214a, Cond.static yJ2_checkIndex_2214a, Cond.code yJ2_checkIndex_2214a cJ2_checkIndex_2214a 2 none, Cond.methodLink RJ2 48 yJ2_length_9d52b, Cond.static yJ2_length_9d52b, Cond.code yJ2_length_9d52b cJ2_length_9d52b 1 (some .int), Cond.methodLink RJ2 414 yJ0_checkIndex_df160, Cond.methodLink RJ2 71 yJ2_getChar_3b067]
def wsX7_isWord_r3 : List Cond := [Cond.static yJ2_getChar_3b067, Cond.code yJ2_getChar_3b067 cJ2_getChar_3b067 2 (some .char), Cond.fieldLink RJ2 44 "java/lang/StringUTF16" "$assertionsDisabled" "Z", Cond.fieldLink RJ2 59 "java/lang/StringUTF16" "HI_BYTE_SHIFT" "I", Cond.fieldLink RJ2 63 "java/lang/StringUTF16" "LO_BYTE_SHIFT" "I"]
def wsX7_isWord : List Cond := .code yX7_isWord cX7_isWord 3 (some .boolean) :: ((wsX7_isWord_r1 ++ (wsX7_isWord_r2 ++ wsX7_isWord_r3)) ++ wsX70)
def wsX7_fail : List Cond := .code yX7_fail cX7_fail 2 (some .boolean) :: ([.fieldLink RX7 15 "PaidBySigns$Reader" "faultKind" "I", .fieldLink RX7 38 "PaidBySigns$Reader" "start" "I", .fieldLink RX7 18 "PaidBySigns$Reader" "faultPlace" "I"] ++ wsX70)
def wsX7_readWhole_r1 : List Cond := [Cond.fieldLink RX7 24 "PaidBySigns$Reader" "into" "LPaidBySigns$Hire;", Cond.fieldLink RX7 41 "PaidBySigns$Reader" "value" "I", Cond.fieldLink RX7 90 "PaidBySigns$Hire" "whole" "I", Cond.methodLink RX7 82 yX7_isWord, Cond.instanceMethod yX7_isWord, Cond.selects RX7 yX7_isWord yX7_isWord, Cond.initialized RX7, Cond.code yX7_isWord cX7_isWord 3 (some .boolean), Cond.fieldLink RX7 35 "PaidBySigns$Reader" "token" "I", Cond.fieldLink RX7 32 "PaidBySigns$Reader" "next" "I", Cond.fieldLink RX7 38 "PaidBySigns$Reader" "start" "I", Cond.fieldLink RX7 28 "PaidBySigns$Reader" "text" "[B", Cond.methodLink RX7 171 yJ0_length_8abf5, Cond.instanceMethod yJ0_length_8abf5, Cond.selects RJ0 yJ0_length_8abf5 yJ0_length_8abf5, Cond.initialized RJ0, Cond.code yJ0_length_8abf5 cJ0_length_8abf5 1 (some .int), Cond.fieldLink RJ0 9 "java/lang/String" "value" "[B", Cond.methodLink RJ0 335 yJ0_coder_7d493, Cond.instanceMethod yJ0_coder_7d493, Cond.selects RJ0 yJ0_coder_7d493 yJ0_coder_7d493, Cond.code yJ0_coder_7d493 cJ0_coder_7d493 1 (some .byte), Cond.fieldLink RJ0 38 "java/lang/String" "COMPACT_STRINGS" "Z", Cond.fieldLink RJ0 15 "java/lang/String" "coder" "B"]
def wsX7_readWhole_r2 : List Cond := [Cond.methodLink RX7 176 yJ0_charAt_5068e, Cond.instanceMethod yJ0_charAt_5068e, Cond.selects RJ0 yJ0_charAt_5068e yJ0_charAt_5068e, Cond.code yJ0_charAt_5068e cJ0_charAt_5068e 2 (some .char), Cond.methodLink RJ0 492 yJ0_isLatin1_aae02, Cond.instanceMethod yJ0_isLatin1_aae02, Cond.selects RJ0 yJ0_isLatin1_aae02 yJ0_isLatin1_aae02, Cond.code yJ0_isLatin1_aae02 cJ0_isLatin1_aae02 1 (some .boolean), Cond.methodLink RJ0 495 yJ1_charAt_3b067, Cond.static yJ1_charAt_3b067, Cond.initialized RJ1, Cond.code yJ1_charAt_3b067 cJ1_charAt_3b067 2 (some .char), Cond.methodLink RJ1 9 yJ0_checkIndex_df160, Cond.static yJ0_checkIndex_df160, Cond.code yJ0_checkIndex_df160 cJ0_checkIndex_df160 2 none, Cond.fieldLink RJ0 1053 "jdk/internal/util/Preconditions" "SIOOBE_FORMATTER" "Ljava/util/function/BiFunction;", Cond.methodLink RJ0 1059 yJ3_checkIndex_8e157, Cond.static yJ3_checkIndex_8e157, Cond.initialized RJ3, Cond.code yJ3_checkIndex_8e157 cJ3_checkIndex_8e157 3 (some .int), Cond.methodLink RJ0 498 yJ2_charAt_3b067, Cond.static yJ2_charAt_3b067, Cond.initialized RJ2, Cond.code yJ2_charAt_3b067 cJ2_charAt_3b067 2 (some .char)]
def wsX7_readWhole_r3 : List Cond := [Cond.methodLink RJ2 67 yJ2_checkIndex_2214a, Cond.static yJ2_checkIndex_2214a, Cond.code yJ2_checkIndex_2214a cJ2_checkIndex_2214a 2 none, Cond.methodLink RJ2 48 yJ2_length_9d52b, Cond.static yJ2_length_9d52b, Cond.code yJ2_length_9d52b cJ2_length_9d52b 1 (some .int), Cond.methodLink RJ2 414 yJ0_checkIndex_df160, Cond.methodLink RJ2 71 yJ2_getChar_3b067, Cond.static yJ2_getChar_3b067, Cond.code yJ2_getChar_3b067 cJ2_getChar_3b067 2 (some .char), Cond.fieldLink RJ2 44 "java/lang/StringUTF16" "$assertionsDisabled" "Z", Cond.fieldLink RJ2 59 "java/lang/StringUTF16" "HI_BYTE_SHIFT" "I", Cond.fieldLink RJ2 63 "java/lang/StringUTF16" "LO_BYTE_SHIFT" "I", Cond.methodLink RX7 64 yX7_advance, Cond.instanceMethod yX7_advance, Cond.selects RX7 yX7_advance yX7_advance, Cond.code yX7_advance cX7_advance 1 none, Cond.fieldLink RX7 9 "PaidBySigns$Reader" "length" "I", Cond.methodLink RX7 180 yX7_kindOf, Cond.static yX7_kindOf, Cond.code yX7_kindOf cX7_kindOf 1 (some .int), Cond.methodLink RX7 184 yX7_takeRun, Cond.instanceMethod yX7_takeRun, Cond.selects RX7 yX7_takeRun yX7_takeRun]
def wsX7_readWhole_r4 : List Cond := [Cond.code yX7_takeRun cX7_takeRun 2 none, Cond.methodLink RX7 86 yX7_isNumber, Cond.instanceMethod yX7_isNumber, Cond.selects RX7 yX7_isNumber yX7_isNumber, Cond.code yX7_isNumber cX7_isNumber 4 (some .boolean), Cond.methodLink RX7 100 yX7_fail, Cond.instanceMethod yX7_fail, Cond.selects RX7 yX7_fail yX7_fail, Cond.code yX7_fail cX7_fail 2 (some .boolean), Cond.fieldLink RX7 15 "PaidBySigns$Reader" "faultKind" "I", Cond.fieldLink RX7 18 "PaidBySigns$Reader" "faultPlace" "I", Cond.methodLink RX7 92 yX7_passSemicolon, Cond.instanceMethod yX7_passSemicolon, Cond.selects RX7 yX7_passSemicolon yX7_passSemicolon, Cond.code yX7_passSemicolon cX7_passSemicolon 1 (some .boolean)]
def wsX7_readWhole : List Cond := .code yX7_readWhole cX7_readWhole 1 (some .boolean) :: ((wsX7_readWhole_r1 ++ (wsX7_readWhole_r2 ++ (wsX7_readWhole_r3 ++ wsX7_readWhole_r4))) ++ wsX70 ++ wsX30)
def wsX7_readSigns_r1 : List Cond := [Cond.fieldLink RX7 24 "PaidBySigns$Reader" "into" "LPaidBySigns$Hire;", Cond.fieldLink RX7 95 "PaidBySigns$Hire" "signs" "I", Cond.methodLink RX7 82 yX7_isWord, Cond.instanceMethod yX7_isWord, Cond.selects RX7 yX7_isWord yX7_isWord, Cond.initialized RX7, Cond.code yX7_isWord cX7_isWord 3 (some .boolean), Cond.fieldLink RX7 35 "PaidBySigns$Reader" "token" "I", Cond.fieldLink RX7 32 "PaidBySigns$Reader" "next" "I", Cond.fieldLink RX7 38 "PaidBySigns$Reader" "start" "I", Cond.fieldLink RX7 28 "PaidBySigns$Reader" "text" "[B", Cond.methodLink RX7 171 yJ0_length_8abf5, Cond.instanceMethod yJ0_length_8abf5, Cond.selects RJ0 yJ0_length_8abf5 yJ0_length_8abf5, Cond.initialized RJ0, Cond.code yJ0_length_8abf5 cJ0_length_8abf5 1 (some .int), Cond.fieldLink RJ0 9 "java/lang/String" "value" "[B", Cond.methodLink RJ0 335 yJ0_coder_7d493, Cond.instanceMethod yJ0_coder_7d493, Cond.selects RJ0 yJ0_coder_7d493 yJ0_coder_7d493, Cond.code yJ0_coder_7d493 cJ0_coder_7d493 1 (some .byte), Cond.fieldLink RJ0 38 "java/lang/String" "COMPACT_STRINGS" "Z", Cond.fieldLink RJ0 15 "java/lang/String" "coder" "B", Cond.methodLink RX7 176 yJ0_charAt_5068e]
def wsX7_readSigns_r2 : List Cond := [Cond.instanceMethod yJ0_charAt_5068e, Cond.selects RJ0 yJ0_charAt_5068e yJ0_charAt_5068e, Cond.code yJ0_charAt_5068e cJ0_charAt_5068e 2 (some .char), Cond.methodLink RJ0 492 yJ0_isLatin1_aae02, Cond.instanceMethod yJ0_isLatin1_aae02, Cond.selects RJ0 yJ0_isLatin1_aae02 yJ0_isLatin1_aae02, Cond.code yJ0_isLatin1_aae02 cJ0_isLatin1_aae02 1 (some .boolean), Cond.methodLink RJ0 495 yJ1_charAt_3b067, Cond.static yJ1_charAt_3b067, Cond.initialized RJ1, Cond.code yJ1_charAt_3b067 cJ1_charAt_3b067 2 (some .char), Cond.methodLink RJ1 9 yJ0_checkIndex_df160, Cond.static yJ0_checkIndex_df160, Cond.code yJ0_checkIndex_df160 cJ0_checkIndex_df160 2 none, Cond.fieldLink RJ0 1053 "jdk/internal/util/Preconditions" "SIOOBE_FORMATTER" "Ljava/util/function/BiFunction;", Cond.methodLink RJ0 1059 yJ3_checkIndex_8e157, Cond.static yJ3_checkIndex_8e157, Cond.initialized RJ3, Cond.code yJ3_checkIndex_8e157 cJ3_checkIndex_8e157 3 (some .int), Cond.methodLink RJ0 498 yJ2_charAt_3b067, Cond.static yJ2_charAt_3b067, Cond.initialized RJ2, Cond.code yJ2_charAt_3b067 cJ2_charAt_3b067 2 (some .char), Cond.methodLink RJ2 67 yJ2_checkIndex_2214a]
def wsX7_readSigns_r3 : List Cond := [Cond.static yJ2_checkIndex_2214a, Cond.code yJ2_checkIndex_2214a cJ2_checkIndex_2214a 2 none, Cond.methodLink RJ2 48 yJ2_length_9d52b, Cond.static yJ2_length_9d52b, Cond.code yJ2_length_9d52b cJ2_length_9d52b 1 (some .int), Cond.methodLink RJ2 414 yJ0_checkIndex_df160, Cond.methodLink RJ2 71 yJ2_getChar_3b067, Cond.static yJ2_getChar_3b067, Cond.code yJ2_getChar_3b067 cJ2_getChar_3b067 2 (some .char), Cond.fieldLink RJ2 44 "java/lang/StringUTF16" "$assertionsDisabled" "Z", Cond.fieldLink RJ2 59 "java/lang/StringUTF16" "HI_BYTE_SHIFT" "I", Cond.fieldLink RJ2 63 "java/lang/StringUTF16" "LO_BYTE_SHIFT" "I", Cond.methodLink RX7 100 yX7_fail, Cond.instanceMethod yX7_fail, Cond.selects RX7 yX7_fail yX7_fail, Cond.code yX7_fail cX7_fail 2 (some .boolean), Cond.fieldLink RX7 15 "PaidBySigns$Reader" "faultKind" "I", Cond.fieldLink RX7 18 "PaidBySigns$Reader" "faultPlace" "I", Cond.methodLink RX7 104 yX7_readSign, Cond.instanceMethod yX7_readSign, Cond.selects RX7 yX7_readSign yX7_readSign, Cond.code yX7_readSign cX7_readSign 1 (some .boolean), Cond.fieldLink RX7 115 "PaidBySigns$Hire" "brings" "[I", Cond.fieldLink RX7 41 "PaidBySigns$Reader" "value" "I"]
def wsX7_readSigns_r4 : List Cond := [Cond.methodLink RX7 64 yX7_advance, Cond.instanceMethod yX7_advance, Cond.selects RX7 yX7_advance yX7_advance, Cond.code yX7_advance cX7_advance 1 none, Cond.fieldLink RX7 9 "PaidBySigns$Reader" "length" "I", Cond.methodLink RX7 180 yX7_kindOf, Cond.static yX7_kindOf, Cond.code yX7_kindOf cX7_kindOf 1 (some .int), Cond.methodLink RX7 184 yX7_takeRun, Cond.instanceMethod yX7_takeRun, Cond.selects RX7 yX7_takeRun yX7_takeRun, Cond.code yX7_takeRun cX7_takeRun 2 none, Cond.methodLink RX7 107 yX7_passName, Cond.instanceMethod yX7_passName, Cond.selects RX7 yX7_passName yX7_passName, Cond.code yX7_passName cX7_passName 3 (some .boolean), Cond.fieldLink RX7 44 "PaidBySigns$Reader" "nameStart" "[I", Cond.fieldLink RX7 48 "PaidBySigns$Reader" "nameEnd" "[I", Cond.methodLink RX7 168 yX7_isSameRun, Cond.instanceMethod yX7_isSameRun, Cond.selects RX7 yX7_isSameRun yX7_isSameRun, Cond.code yX7_isSameRun cX7_isSameRun 4 (some .boolean), Cond.methodLink RX7 112 yX7_passWord, Cond.instanceMethod yX7_passWord]
def wsX7_readSigns_r5 : List Cond := [Cond.selects RX7 yX7_passWord yX7_passWord, Cond.code yX7_passWord cX7_passWord 2 (some .boolean), Cond.methodLink RX7 86 yX7_isNumber, Cond.instanceMethod yX7_isNumber, Cond.selects RX7 yX7_isNumber yX7_isNumber, Cond.code yX7_isNumber cX7_isNumber 4 (some .boolean), Cond.methodLink RX7 92 yX7_passSemicolon, Cond.instanceMethod yX7_passSemicolon, Cond.selects RX7 yX7_passSemicolon yX7_passSemicolon, Cond.code yX7_passSemicolon cX7_passSemicolon 1 (some .boolean)]
def wsX7_readSigns : List Cond := .code yX7_readSigns cX7_readSigns 1 (some .boolean) :: ((wsX7_readSigns_r1 ++ (wsX7_readSigns_r2 ++ (wsX7_readSigns_r3 ++ (wsX7_readSigns_r4 ++ wsX7_readSigns_r5)))) ++ wsX70 ++ wsX30)
def wsX7_readText_r1 : List Cond := [Cond.fieldLink RX7 32 "PaidBySigns$Reader" "next" "I", Cond.fieldLink RX7 24 "PaidBySigns$Reader" "into" "LPaidBySigns$Hire;", Cond.fieldLink RX7 51 "PaidBySigns$Reader" "hasElse" "Z", Cond.fieldLink RX7 55 "PaidBySigns$Reader" "hasLeast" "Z", Cond.fieldLink RX7 58 "PaidBySigns$Reader" "hasFeel" "Z", Cond.fieldLink RX7 15 "PaidBySigns$Reader" "faultKind" "I", Cond.fieldLink RX7 18 "PaidBySigns$Reader" "faultPlace" "I", Cond.methodLink RX7 61 yX3_clear, Cond.instanceMethod yX3_clear, Cond.selects RX3 yX3_clear yX3_clear, Cond.initialized RX3, Cond.code yX3_clear cX3_clear 1 none, Cond.fieldLink RX3 32 "PaidBySigns$Hire" "signs" "I", Cond.fieldLink RX3 36 "PaidBySigns$Hire" "works" "I", Cond.fieldLink RX3 39 "PaidBySigns$Hire" "whole" "I", Cond.fieldLink RX3 42 "PaidBySigns$Hire" "otherwise" "I", Cond.fieldLink RX3 45 "PaidBySigns$Hire" "least" "I", Cond.fieldLink RX3 48 "PaidBySigns$Hire" "rates" "I", Cond.fieldLink RX3 23 "PaidBySigns$Hire" "rate" "[I", Cond.methodLink RX7 64 yX7_advance, Cond.instanceMethod yX7_advance, Cond.selects RX7 yX7_advance yX7_advance, Cond.initialized RX7, Cond.code yX7_advance cX7_advance 1 none]
def wsX7_readText_r2 : List Cond := [Cond.fieldLink RX7 9 "PaidBySigns$Reader" "length" "I", Cond.fieldLink RX7 28 "PaidBySigns$Reader" "text" "[B", Cond.fieldLink RX7 38 "PaidBySigns$Reader" "start" "I", Cond.fieldLink RX7 35 "PaidBySigns$Reader" "token" "I", Cond.methodLink RX7 180 yX7_kindOf, Cond.static yX7_kindOf, Cond.code yX7_kindOf cX7_kindOf 1 (some .int), Cond.methodLink RX7 184 yX7_takeRun, Cond.instanceMethod yX7_takeRun, Cond.selects RX7 yX7_takeRun yX7_takeRun, Cond.code yX7_takeRun cX7_takeRun 2 none, Cond.methodLink RX7 67 yX7_readWhole, Cond.instanceMethod yX7_readWhole, Cond.selects RX7 yX7_readWhole yX7_readWhole, Cond.code yX7_readWhole cX7_readWhole 1 (some .boolean), Cond.fieldLink RX7 41 "PaidBySigns$Reader" "value" "I", Cond.fieldLink RX7 90 "PaidBySigns$Hire" "whole" "I", Cond.methodLink RX7 82 yX7_isWord, Cond.instanceMethod yX7_isWord, Cond.selects RX7 yX7_isWord yX7_isWord, Cond.code yX7_isWord cX7_isWord 3 (some .boolean), Cond.methodLink RX7 171 yJ0_length_8abf5, Cond.instanceMethod yJ0_length_8abf5, Cond.selects RJ0 yJ0_length_8abf5 yJ0_length_8abf5]
def wsX7_readText_r3 : List Cond := [Cond.initialized RJ0, Cond.code yJ0_length_8abf5 cJ0_length_8abf5 1 (some .int), Cond.fieldLink RJ0 9 "java/lang/String" "value" "[B", Cond.methodLink RJ0 335 yJ0_coder_7d493, Cond.instanceMethod yJ0_coder_7d493, Cond.selects RJ0 yJ0_coder_7d493 yJ0_coder_7d493, Cond.code yJ0_coder_7d493 cJ0_coder_7d493 1 (some .byte), Cond.fieldLink RJ0 38 "java/lang/String" "COMPACT_STRINGS" "Z", Cond.fieldLink RJ0 15 "java/lang/String" "coder" "B", Cond.methodLink RX7 176 yJ0_charAt_5068e, Cond.instanceMethod yJ0_charAt_5068e, Cond.selects RJ0 yJ0_charAt_5068e yJ0_charAt_5068e, Cond.code yJ0_charAt_5068e cJ0_charAt_5068e 2 (some .char), Cond.methodLink RJ0 492 yJ0_isLatin1_aae02, Cond.instanceMethod yJ0_isLatin1_aae02, Cond.selects RJ0 yJ0_isLatin1_aae02 yJ0_isLatin1_aae02, Cond.code yJ0_isLatin1_aae02 cJ0_isLatin1_aae02 1 (some .boolean), Cond.methodLink RJ0 495 yJ1_charAt_3b067, Cond.static yJ1_charAt_3b067, Cond.initialized RJ1, Cond.code yJ1_charAt_3b067 cJ1_charAt_3b067 2 (some .char), Cond.methodLink RJ1 9 yJ0_checkIndex_df160, Cond.static yJ0_checkIndex_df160, Cond.code yJ0_checkIndex_df160 cJ0_checkIndex_df160 2 none]
def wsX7_readText_r4 : List Cond := [Cond.fieldLink RJ0 1053 "jdk/internal/util/Preconditions" "SIOOBE_FORMATTER" "Ljava/util/function/BiFunction;", Cond.methodLink RJ0 1059 yJ3_checkIndex_8e157, Cond.static yJ3_checkIndex_8e157, Cond.initialized RJ3, Cond.code yJ3_checkIndex_8e157 cJ3_checkIndex_8e157 3 (some .int), Cond.methodLink RJ0 498 yJ2_charAt_3b067, Cond.static yJ2_charAt_3b067, Cond.initialized RJ2, Cond.code yJ2_charAt_3b067 cJ2_charAt_3b067 2 (some .char), Cond.methodLink RJ2 67 yJ2_checkIndex_2214a, Cond.static yJ2_checkIndex_2214a, Cond.code yJ2_checkIndex_2214a cJ2_checkIndex_2214a 2 none, Cond.methodLink RJ2 48 yJ2_length_9d52b, Cond.static yJ2_length_9d52b, Cond.code yJ2_length_9d52b cJ2_length_9d52b 1 (some .int), Cond.methodLink RJ2 414 yJ0_checkIndex_df160, Cond.methodLink RJ2 71 yJ2_getChar_3b067, Cond.static yJ2_getChar_3b067, Cond.code yJ2_getChar_3b067 cJ2_getChar_3b067 2 (some .char), Cond.fieldLink RJ2 44 "java/lang/StringUTF16" "$assertionsDisabled" "Z", Cond.fieldLink RJ2 59 "java/lang/StringUTF16" "HI_BYTE_SHIFT" "I", Cond.fieldLink RJ2 63 "java/lang/StringUTF16" "LO_BYTE_SHIFT" "I", Cond.methodLink RX7 86 yX7_isNumber, Cond.instanceMethod yX7_isNumber]
def wsX7_readText_r5 : List Cond := [Cond.selects RX7 yX7_isNumber yX7_isNumber, Cond.code yX7_isNumber cX7_isNumber 4 (some .boolean), Cond.methodLink RX7 100 yX7_fail, Cond.instanceMethod yX7_fail, Cond.selects RX7 yX7_fail yX7_fail, Cond.code yX7_fail cX7_fail 2 (some .boolean), Cond.methodLink RX7 92 yX7_passSemicolon, Cond.instanceMethod yX7_passSemicolon, Cond.selects RX7 yX7_passSemicolon yX7_passSemicolon, Cond.code yX7_passSemicolon cX7_passSemicolon 1 (some .boolean), Cond.methodLink RX7 71 yX7_readSigns, Cond.instanceMethod yX7_readSigns, Cond.selects RX7 yX7_readSigns yX7_readSigns, Cond.code yX7_readSigns cX7_readSigns 1 (some .boolean), Cond.fieldLink RX7 95 "PaidBySigns$Hire" "signs" "I", Cond.methodLink RX7 104 yX7_readSign, Cond.instanceMethod yX7_readSign, Cond.selects RX7 yX7_readSign yX7_readSign, Cond.code yX7_readSign cX7_readSign 1 (some .boolean), Cond.fieldLink RX7 115 "PaidBySigns$Hire" "brings" "[I", Cond.methodLink RX7 107 yX7_passName, Cond.instanceMethod yX7_passName, Cond.selects RX7 yX7_passName yX7_passName, Cond.code yX7_passName cX7_passName 3 (some .boolean)]
def wsX7_readText_r6 : List Cond := [Cond.fieldLink RX7 44 "PaidBySigns$Reader" "nameStart" "[I", Cond.fieldLink RX7 48 "PaidBySigns$Reader" "nameEnd" "[I", Cond.methodLink RX7 168 yX7_isSameRun, Cond.instanceMethod yX7_isSameRun, Cond.selects RX7 yX7_isSameRun yX7_isSameRun, Cond.code yX7_isSameRun cX7_isSameRun 4 (some .boolean), Cond.methodLink RX7 112 yX7_passWord, Cond.instanceMethod yX7_passWord, Cond.selects RX7 yX7_passWord yX7_passWord, Cond.code yX7_passWord cX7_passWord 2 (some .boolean), Cond.methodLink RX7 74 yX7_readWorks, Cond.instanceMethod yX7_readWorks, Cond.selects RX7 yX7_readWorks yX7_readWorks, Cond.code yX7_readWorks cX7_readWorks 1 (some .boolean), Cond.fieldLink RX7 117 "PaidBySigns$Hire" "works" "I", Cond.methodLink RX7 122 yX7_readWork, Cond.instanceMethod yX7_readWork, Cond.selects RX7 yX7_readWork yX7_readWork, Cond.code yX7_readWork cX7_readWork 1 (some .boolean), Cond.fieldLink RX7 127 "PaidBySigns$Hire" "costs" "[I", Cond.fieldLink RX7 131 "PaidBySigns$Hire" "chances" "[[I", Cond.methodLink RX7 134 yX7_readChances, Cond.instanceMethod yX7_readChances, Cond.selects RX7 yX7_readChances yX7_readChances]
def wsX7_readText_r7 : List Cond := [Cond.code yX7_readChances cX7_readChances 4 (some .boolean), Cond.methodLink RX7 77 yX7_readRests, Cond.instanceMethod yX7_readRests, Cond.selects RX7 yX7_readRests yX7_readRests, Cond.code yX7_readRests cX7_readRests 3 (some .boolean), Cond.fieldLink RX7 144 "PaidBySigns$Hire" "otherwise" "I", Cond.fieldLink RX7 149 "PaidBySigns$Hire" "least" "I", Cond.methodLink RX7 140 yX7_readNumberOnce, Cond.instanceMethod yX7_readNumberOnce, Cond.selects RX7 yX7_readNumberOnce yX7_readNumberOnce, Cond.code yX7_readNumberOnce cX7_readNumberOnce 2 (some .boolean), Cond.methodLink RX7 153 yX7_readFeel, Cond.instanceMethod yX7_readFeel, Cond.selects RX7 yX7_readFeel yX7_readFeel, Cond.code yX7_readFeel cX7_readFeel 1 (some .boolean), Cond.fieldLink RX7 156 "PaidBySigns$Hire" "rate" "[I", Cond.fieldLink RX7 159 "PaidBySigns$Hire" "rates" "I", Cond.methodLink RX7 162 yX7_readStep, Cond.instanceMethod yX7_readStep, Cond.selects RX7 yX7_readStep yX7_readStep, Cond.code yX7_readStep cX7_readStep 3 (some .boolean), Cond.fieldLink RX7 165 "PaidBySigns$Hire" "mark" "[I"]
def wsX7_readText : List Cond := .code yX7_readText cX7_readText 1 (some .boolean) :: ((wsX7_readText_r1 ++ (wsX7_readText_r2 ++ (wsX7_readText_r3 ++ (wsX7_readText_r4 ++ (wsX7_readText_r5 ++ (wsX7_readText_r6 ++ wsX7_readText_r7)))))) ++ wsX70 ++ wsX30)
def wsX9_feed : List Cond := .code yX9_feed cX9_feed 6 (some .int) :: ([.fieldLink RX9 10 "PaidBySigns" "reader" "LPaidBySigns$Reader;", .fieldLink RX9 86 "PaidBySigns$Reader" "length" "I", .methodLink RX9 90 yX7_append, .instanceMethod yX7_append, .selects RX7 yX7_append yX7_append, .initialized RX7, .code yX7_append cX7_append 3 none, .fieldLink RX7 9 "PaidBySigns$Reader" "length" "I", .fieldLink RX7 28 "PaidBySigns$Reader" "text" "[B"] ++ wsX90 ++ wsX70)
def wsX9_end : List Cond := .code yX9_end cX9_end 2 (some .int) :: ([.fieldLink RX9 10 "PaidBySigns" "reader" "LPaidBySigns$Reader;", .fieldLink RX9 86 "PaidBySigns$Reader" "length" "I"] ++ wsX90 ++ wsX70)
def wsX9_hire_r1 : List Cond := [Cond.fieldLink RX9 10 "PaidBySigns" "reader" "LPaidBySigns$Reader;", Cond.fieldLink RX9 86 "PaidBySigns$Reader" "length" "I", Cond.fieldLink RX9 19 "PaidBySigns" "hire" "LPaidBySigns$Hire;", Cond.fieldLink RX9 98 "PaidBySigns$Reader" "into" "LPaidBySigns$Hire;", Cond.fieldLink RX9 23 "PaidBySigns" "hand" "[I", Cond.fieldLink RX9 101 "PaidBySigns$Hire" "least" "I", Cond.fieldLink RX9 30 "PaidBySigns" "latest" "LPaidBySigns$Fraction;", Cond.fieldLink RX9 47 "PaidBySigns" "hasWages" "Z", Cond.fieldLink RX9 75 "PaidBySigns" "proofs" "LPaidBySigns$Proofs;", Cond.fieldLink RX9 82 "PaidBySigns" "diary" "LPaidBySigns$Diary;", Cond.fieldLink RX9 115 "PaidBySigns$Hire" "works" "I", Cond.methodLink RX9 94 yX7_readText, Cond.instanceMethod yX7_readText, Cond.selects RX7 yX7_readText yX7_readText, Cond.initialized RX7, Cond.code yX7_readText cX7_readText 1 (some .boolean), Cond.fieldLink RX7 32 "PaidBySigns$Reader" "next" "I", Cond.fieldLink RX7 24 "PaidBySigns$Reader" "into" "LPaidBySigns$Hire;", Cond.fieldLink RX7 51 "PaidBySigns$Reader" "hasElse" "Z", Cond.fieldLink RX7 55 "PaidBySigns$Reader" "hasLeast" "Z", Cond.fieldLink RX7 58 "PaidBySigns$Reader" "hasFeel" "Z", Cond.fieldLink RX7 15 "PaidBySigns$Reader" "faultKind" "I", Cond.fieldLink RX7 18 "PaidBySigns$Reader" "faultPlace" "I", Cond.methodLink RX7 61 yX3_clear]
def wsX9_hire_r2 : List Cond := [Cond.instanceMethod yX3_clear, Cond.selects RX3 yX3_clear yX3_clear, Cond.initialized RX3, Cond.code yX3_clear cX3_clear 1 none, Cond.fieldLink RX3 32 "PaidBySigns$Hire" "signs" "I", Cond.fieldLink RX3 36 "PaidBySigns$Hire" "works" "I", Cond.fieldLink RX3 39 "PaidBySigns$Hire" "whole" "I", Cond.fieldLink RX3 42 "PaidBySigns$Hire" "otherwise" "I", Cond.fieldLink RX3 45 "PaidBySigns$Hire" "least" "I", Cond.fieldLink RX3 48 "PaidBySigns$Hire" "rates" "I", Cond.fieldLink RX3 23 "PaidBySigns$Hire" "rate" "[I", Cond.methodLink RX7 64 yX7_advance, Cond.instanceMethod yX7_advance, Cond.selects RX7 yX7_advance yX7_advance, Cond.code yX7_advance cX7_advance 1 none, Cond.fieldLink RX7 9 "PaidBySigns$Reader" "length" "I", Cond.fieldLink RX7 28 "PaidBySigns$Reader" "text" "[B", Cond.fieldLink RX7 38 "PaidBySigns$Reader" "start" "I", Cond.fieldLink RX7 35 "PaidBySigns$Reader" "token" "I", Cond.methodLink RX7 180 yX7_kindOf, Cond.static yX7_kindOf, Cond.code yX7_kindOf cX7_kindOf 1 (some .int), Cond.methodLink RX7 184 yX7_takeRun, Cond.instanceMethod yX7_takeRun]
def wsX9_hire_r3 : List Cond := [Cond.selects RX7 yX7_takeRun yX7_takeRun, Cond.code yX7_takeRun cX7_takeRun 2 none, Cond.methodLink RX7 67 yX7_readWhole, Cond.instanceMethod yX7_readWhole, Cond.selects RX7 yX7_readWhole yX7_readWhole, Cond.code yX7_readWhole cX7_readWhole 1 (some .boolean), Cond.fieldLink RX7 41 "PaidBySigns$Reader" "value" "I", Cond.fieldLink RX7 90 "PaidBySigns$Hire" "whole" "I", Cond.methodLink RX7 82 yX7_isWord, Cond.instanceMethod yX7_isWord, Cond.selects RX7 yX7_isWord yX7_isWord, Cond.code yX7_isWord cX7_isWord 3 (some .boolean), Cond.methodLink RX7 171 yJ0_length_8abf5, Cond.instanceMethod yJ0_length_8abf5, Cond.selects RJ0 yJ0_length_8abf5 yJ0_length_8abf5, Cond.initialized RJ0, Cond.code yJ0_length_8abf5 cJ0_length_8abf5 1 (some .int), Cond.fieldLink RJ0 9 "java/lang/String" "value" "[B", Cond.methodLink RJ0 335 yJ0_coder_7d493, Cond.instanceMethod yJ0_coder_7d493, Cond.selects RJ0 yJ0_coder_7d493 yJ0_coder_7d493, Cond.code yJ0_coder_7d493 cJ0_coder_7d493 1 (some .byte), Cond.fieldLink RJ0 38 "java/lang/String" "COMPACT_STRINGS" "Z", Cond.fieldLink RJ0 15 "java/lang/String" "coder" "B"]
def wsX9_hire_r4 : List Cond := [Cond.methodLink RX7 176 yJ0_charAt_5068e, Cond.instanceMethod yJ0_charAt_5068e, Cond.selects RJ0 yJ0_charAt_5068e yJ0_charAt_5068e, Cond.code yJ0_charAt_5068e cJ0_charAt_5068e 2 (some .char), Cond.methodLink RJ0 492 yJ0_isLatin1_aae02, Cond.instanceMethod yJ0_isLatin1_aae02, Cond.selects RJ0 yJ0_isLatin1_aae02 yJ0_isLatin1_aae02, Cond.code yJ0_isLatin1_aae02 cJ0_isLatin1_aae02 1 (some .boolean), Cond.methodLink RJ0 495 yJ1_charAt_3b067, Cond.static yJ1_charAt_3b067, Cond.initialized RJ1, Cond.code yJ1_charAt_3b067 cJ1_charAt_3b067 2 (some .char), Cond.methodLink RJ1 9 yJ0_checkIndex_df160, Cond.static yJ0_checkIndex_df160, Cond.code yJ0_checkIndex_df160 cJ0_checkIndex_df160 2 none, Cond.fieldLink RJ0 1053 "jdk/internal/util/Preconditions" "SIOOBE_FORMATTER" "Ljava/util/function/BiFunction;", Cond.methodLink RJ0 1059 yJ3_checkIndex_8e157, Cond.static yJ3_checkIndex_8e157, Cond.initialized RJ3, Cond.code yJ3_checkIndex_8e157 cJ3_checkIndex_8e157 3 (some .int), Cond.methodLink RJ0 498 yJ2_charAt_3b067, Cond.static yJ2_charAt_3b067, Cond.initialized RJ2, Cond.code yJ2_charAt_3b067 cJ2_charAt_3b067 2 (some .char)]
def wsX9_hire_r5 : List Cond := [Cond.methodLink RJ2 67 yJ2_checkIndex_2214a, Cond.static yJ2_checkIndex_2214a, Cond.code yJ2_checkIndex_2214a cJ2_checkIndex_2214a 2 none, Cond.methodLink RJ2 48 yJ2_length_9d52b, Cond.static yJ2_length_9d52b, Cond.code yJ2_length_9d52b cJ2_length_9d52b 1 (some .int), Cond.methodLink RJ2 414 yJ0_checkIndex_df160, Cond.methodLink RJ2 71 yJ2_getChar_3b067, Cond.static yJ2_getChar_3b067, Cond.code yJ2_getChar_3b067 cJ2_getChar_3b067 2 (some .char), Cond.fieldLink RJ2 44 "java/lang/StringUTF16" "$assertionsDisabled" "Z", Cond.fieldLink RJ2 59 "java/lang/StringUTF16" "HI_BYTE_SHIFT" "I", Cond.fieldLink RJ2 63 "java/lang/StringUTF16" "LO_BYTE_SHIFT" "I", Cond.methodLink RX7 86 yX7_isNumber, Cond.instanceMethod yX7_isNumber, Cond.selects RX7 yX7_isNumber yX7_isNumber, Cond.code yX7_isNumber cX7_isNumber 4 (some .boolean), Cond.methodLink RX7 100 yX7_fail, Cond.instanceMethod yX7_fail, Cond.selects RX7 yX7_fail yX7_fail, Cond.code yX7_fail cX7_fail 2 (some .boolean), Cond.methodLink RX7 92 yX7_passSemicolon, Cond.instanceMethod yX7_passSemicolon, Cond.selects RX7 yX7_passSemicolon yX7_passSemicolon]
def wsX9_hire_r6 : List Cond := [Cond.code yX7_passSemicolon cX7_passSemicolon 1 (some .boolean), Cond.methodLink RX7 71 yX7_readSigns, Cond.instanceMethod yX7_readSigns, Cond.selects RX7 yX7_readSigns yX7_readSigns, Cond.code yX7_readSigns cX7_readSigns 1 (some .boolean), Cond.fieldLink RX7 95 "PaidBySigns$Hire" "signs" "I", Cond.methodLink RX7 104 yX7_readSign, Cond.instanceMethod yX7_readSign, Cond.selects RX7 yX7_readSign yX7_readSign, Cond.code yX7_readSign cX7_readSign 1 (some .boolean), Cond.fieldLink RX7 115 "PaidBySigns$Hire" "brings" "[I", Cond.methodLink RX7 107 yX7_passName, Cond.instanceMethod yX7_passName, Cond.selects RX7 yX7_passName yX7_passName, Cond.code yX7_passName cX7_passName 3 (some .boolean), Cond.fieldLink RX7 44 "PaidBySigns$Reader" "nameStart" "[I", Cond.fieldLink RX7 48 "PaidBySigns$Reader" "nameEnd" "[I", Cond.methodLink RX7 168 yX7_isSameRun, Cond.instanceMethod yX7_isSameRun, Cond.selects RX7 yX7_isSameRun yX7_isSameRun, Cond.code yX7_isSameRun cX7_isSameRun 4 (some .boolean), Cond.methodLink RX7 112 yX7_passWord, Cond.instanceMethod yX7_passWord, Cond.selects RX7 yX7_passWord yX7_passWord]
def wsX9_hire_r7 : List Cond := [Cond.code yX7_passWord cX7_passWord 2 (some .boolean), Cond.methodLink RX7 74 yX7_readWorks, Cond.instanceMethod yX7_readWorks, Cond.selects RX7 yX7_readWorks yX7_readWorks, Cond.code yX7_readWorks cX7_readWorks 1 (some .boolean), Cond.fieldLink RX7 117 "PaidBySigns$Hire" "works" "I", Cond.methodLink RX7 122 yX7_readWork, Cond.instanceMethod yX7_readWork, Cond.selects RX7 yX7_readWork yX7_readWork, Cond.code yX7_readWork cX7_readWork 1 (some .boolean), Cond.fieldLink RX7 127 "PaidBySigns$Hire" "costs" "[I", Cond.fieldLink RX7 131 "PaidBySigns$Hire" "chances" "[[I", Cond.methodLink RX7 134 yX7_readChances, Cond.instanceMethod yX7_readChances, Cond.selects RX7 yX7_readChances yX7_readChances, Cond.code yX7_readChances cX7_readChances 4 (some .boolean), Cond.methodLink RX7 77 yX7_readRests, Cond.instanceMethod yX7_readRests, Cond.selects RX7 yX7_readRests yX7_readRests, Cond.code yX7_readRests cX7_readRests 3 (some .boolean), Cond.fieldLink RX7 144 "PaidBySigns$Hire" "otherwise" "I", Cond.fieldLink RX7 149 "PaidBySigns$Hire" "least" "I", Cond.methodLink RX7 140 yX7_readNumberOnce, Cond.instanceMethod yX7_readNumberOnce]
def wsX9_hire_r8 : List Cond := [Cond.selects RX7 yX7_readNumberOnce yX7_readNumberOnce, Cond.code yX7_readNumberOnce cX7_readNumberOnce 2 (some .boolean), Cond.methodLink RX7 153 yX7_readFeel, Cond.instanceMethod yX7_readFeel, Cond.selects RX7 yX7_readFeel yX7_readFeel, Cond.code yX7_readFeel cX7_readFeel 1 (some .boolean), Cond.fieldLink RX7 156 "PaidBySigns$Hire" "rate" "[I", Cond.fieldLink RX7 159 "PaidBySigns$Hire" "rates" "I", Cond.methodLink RX7 162 yX7_readStep, Cond.instanceMethod yX7_readStep, Cond.selects RX7 yX7_readStep yX7_readStep, Cond.code yX7_readStep cX7_readStep 3 (some .boolean), Cond.fieldLink RX7 165 "PaidBySigns$Hire" "mark" "[I", Cond.methodLink RX9 104 yJ7_fill_53178, Cond.static yJ7_fill_53178, Cond.initialized RJ7, Cond.code yJ7_fill_53178 cJ7_fill_53178 4 none, Cond.methodLink RX9 110 yX2_forget, Cond.instanceMethod yX2_forget, Cond.selects RX2 yX2_forget yX2_forget, Cond.initialized RX2, Cond.code yX2_forget cX2_forget 1 none, Cond.constantLong RX2 9 (-2000000000), Cond.fieldLink RX2 11 "PaidBySigns$Fraction" "upper" "J"]
def wsX9_hire_r9 : List Cond := [Cond.fieldLink RX2 17 "PaidBySigns$Fraction" "lower" "J", Cond.methodLink RX9 113 yX6_forget, Cond.instanceMethod yX6_forget, Cond.selects RX6 yX6_forget yX6_forget, Cond.initialized RX6, Cond.code yX6_forget cX6_forget 1 none, Cond.fieldLink RX6 9 "PaidBySigns$Proofs" "lowerNumber" "I", Cond.fieldLink RX6 19 "PaidBySigns$Proofs" "pressOfElse" "I", Cond.fieldLink RX6 15 "PaidBySigns$Proofs" "press" "[I", Cond.fieldLink RX6 22 "PaidBySigns$Proofs" "mixed" "[I", Cond.methodLink RX6 25 yJ7_fill_53178, Cond.methodLink RX9 114 yX1_forget, Cond.instanceMethod yX1_forget, Cond.selects RX1 yX1_forget yX1_forget, Cond.initialized RX1, Cond.code yX1_forget cX1_forget 1 none, Cond.fieldLink RX1 9 "PaidBySigns$Diary" "seen" "I", Cond.fieldLink RX1 15 "PaidBySigns$Diary" "rights" "I", Cond.fieldLink RX1 18 "PaidBySigns$Diary" "latestStep" "I"]
def wsX9_hire : List Cond := .code yX9_hire cX9_hire 3 (some .int) :: ((wsX9_hire_r1 ++ (wsX9_hire_r2 ++ (wsX9_hire_r3 ++ (wsX9_hire_r4 ++ (wsX9_hire_r5 ++ (wsX9_hire_r6 ++ (wsX9_hire_r7 ++ (wsX9_hire_r8 ++ wsX9_hire_r9)))))))) ++ wsX90 ++ wsX70 ++ wsX30 ++ wsX20 ++ wsX60 ++ wsX10)
def wsX9_fault : List Cond := .code yX9_fault cX9_fault 2 (some .int) :: ([.fieldLink RX9 10 "PaidBySigns" "reader" "LPaidBySigns$Reader;", .fieldLink RX9 118 "PaidBySigns$Reader" "faultKind" "I", .fieldLink RX9 121 "PaidBySigns$Reader" "faultPlace" "I"] ++ wsX90 ++ wsX70)
def wsX9_toldOfOne : List Cond := .code yX9_toldOfOne cX9_toldOfOne 2 (some .int) :: ([.fieldLink RX9 19 "PaidBySigns" "hire" "LPaidBySigns$Hire;", .fieldLink RX9 124 "PaidBySigns$Hire" "signs" "I", .fieldLink RX9 269 "PaidBySigns$Hire" "brings" "[I", .fieldLink RX9 115 "PaidBySigns$Hire" "works" "I", .fieldLink RX9 187 "PaidBySigns$Hire" "costs" "[I", .fieldLink RX9 133 "PaidBySigns$Hire" "rates" "I", .fieldLink RX9 301 "PaidBySigns$Hire" "rate" "[I", .fieldLink RX9 304 "PaidBySigns$Hire" "mark" "[I"] ++ wsX90 ++ wsX30)
def wsX9_told : List Cond := .code yX9_told cX9_told 2 (some .int) :: ([.fieldLink RX9 19 "PaidBySigns" "hire" "LPaidBySigns$Hire;", .fieldLink RX9 124 "PaidBySigns$Hire" "signs" "I", .fieldLink RX9 115 "PaidBySigns$Hire" "works" "I", .fieldLink RX9 127 "PaidBySigns$Hire" "whole" "I", .fieldLink RX9 130 "PaidBySigns$Hire" "otherwise" "I", .fieldLink RX9 101 "PaidBySigns$Hire" "least" "I", .fieldLink RX9 133 "PaidBySigns$Hire" "rates" "I", .methodLink RX9 136 yX9_toldOfOne, .instanceMethod yX9_toldOfOne, .selects RX9 yX9_toldOfOne yX9_toldOfOne, .initialized RX9, .code yX9_toldOfOne cX9_toldOfOne 2 (some .int), .fieldLink RX9 269 "PaidBySigns$Hire" "brings" "[I", .fieldLink RX9 187 "PaidBySigns$Hire" "costs" "[I", .fieldLink RX9 301 "PaidBySigns$Hire" "rate" "[I", .fieldLink RX9 304 "PaidBySigns$Hire" "mark" "[I"] ++ wsX90 ++ wsX30)
def wsX9_isWork : List Cond := .code yX9_isWork cX9_isWork 2 (some .boolean) :: ([.fieldLink RX9 19 "PaidBySigns" "hire" "LPaidBySigns$Hire;", .fieldLink RX9 115 "PaidBySigns$Hire" "works" "I"] ++ wsX90 ++ wsX30)
def wsX9_isSign : List Cond := .code yX9_isSign cX9_isSign 2 (some .boolean) :: ([.fieldLink RX9 19 "PaidBySigns" "hire" "LPaidBySigns$Hire;", .fieldLink RX9 124 "PaidBySigns$Hire" "signs" "I"] ++ wsX90 ++ wsX30)
def wsX9_chance : List Cond := .code yX9_chance cX9_chance 3 (some .int) :: ([.fieldLink RX9 19 "PaidBySigns" "hire" "LPaidBySigns$Hire;", .fieldLink RX9 147 "PaidBySigns$Hire" "chances" "[[I", .methodLink RX9 140 yX9_isWork, .instanceMethod yX9_isWork, .selects RX9 yX9_isWork yX9_isWork, .initialized RX9, .code yX9_isWork cX9_isWork 2 (some .boolean), .fieldLink RX9 115 "PaidBySigns$Hire" "works" "I", .methodLink RX9 144 yX9_isSign, .instanceMethod yX9_isSign, .selects RX9 yX9_isSign yX9_isSign, .code yX9_isSign cX9_isSign 2 (some .boolean), .fieldLink RX9 124 "PaidBySigns$Hire" "signs" "I"] ++ wsX90 ++ wsX30)
def wsX9_feeling : List Cond := .code yX9_feeling cX9_feeling 2 (some .int) :: ([.fieldLink RX9 19 "PaidBySigns" "hire" "LPaidBySigns$Hire;", .methodLink RX9 151 yX3_feltOf, .instanceMethod yX3_feltOf, .selects RX3 yX3_feltOf yX3_feltOf, .initialized RX3, .code yX3_feltOf cX3_feltOf 6 (some .int), .fieldLink RX3 48 "PaidBySigns$Hire" "rates" "I", .fieldLink RX3 26 "PaidBySigns$Hire" "mark" "[I", .methodLink RX3 51 Lib.Math.min.name, .static Lib.Math.min.name, .initialized "java/lang/Math", .code Lib.Math.min.name Lib.Math.min.code 2 (some .int), .fieldLink RX3 23 "PaidBySigns$Hire" "rate" "[I"] ++ wsX90 ++ wsX30)
def wsX9_wage : List Cond := .code yX9_wage cX9_wage 4 (some .int) :: ([.fieldLink RX9 19 "PaidBySigns" "hire" "LPaidBySigns$Hire;", .fieldLink RX9 101 "PaidBySigns$Hire" "least" "I", .fieldLink RX9 23 "PaidBySigns" "hand" "[I", .methodLink RX9 144 yX9_isSign, .instanceMethod yX9_isSign, .selects RX9 yX9_isSign yX9_isSign, .initialized RX9, .code yX9_isSign cX9_isSign 2 (some .boolean), .fieldLink RX9 124 "PaidBySigns$Hire" "signs" "I"] ++ wsX90 ++ wsX30)
def wsX9_worth_r1 : List Cond := [Cond.fieldLink RX9 19 "PaidBySigns" "hire" "LPaidBySigns$Hire;", Cond.fieldLink RX9 23 "PaidBySigns" "hand" "[I", Cond.constant RX9 158 (-2000000000), Cond.methodLink RX9 140 yX9_isWork, Cond.instanceMethod yX9_isWork, Cond.selects RX9 yX9_isWork yX9_isWork, Cond.initialized RX9, Cond.code yX9_isWork cX9_isWork 2 (some .boolean), Cond.fieldLink RX9 115 "PaidBySigns$Hire" "works" "I", Cond.methodLink RX9 154 yX3_worthAt, Cond.instanceMethod yX3_worthAt, Cond.selects RX3 yX3_worthAt yX3_worthAt, Cond.initialized RX3, Cond.code yX3_worthAt cX3_worthAt 5 (some .int), Cond.fieldLink RX3 39 "PaidBySigns$Hire" "whole" "I", Cond.fieldLink RX3 15 "PaidBySigns$Hire" "costs" "[I", Cond.fieldLink RX3 32 "PaidBySigns$Hire" "signs" "I", Cond.fieldLink RX3 20 "PaidBySigns$Hire" "chances" "[[I", Cond.methodLink RX3 63 yX3_feltOf, Cond.instanceMethod yX3_feltOf, Cond.selects RX3 yX3_feltOf yX3_feltOf, Cond.code yX3_feltOf cX3_feltOf 6 (some .int), Cond.fieldLink RX3 48 "PaidBySigns$Hire" "rates" "I", Cond.fieldLink RX3 26 "PaidBySigns$Hire" "mark" "[I"]
def wsX9_worth_r2 : List Cond := [Cond.methodLink RX3 51 Lib.Math.min.name, Cond.static Lib.Math.min.name, Cond.initialized "java/lang/Math", Cond.code Lib.Math.min.name Lib.Math.min.code 2 (some .int), Cond.fieldLink RX3 23 "PaidBySigns$Hire" "rate" "[I"]
def wsX9_worth : List Cond := .code yX9_worth cX9_worth 2 (some .int) :: ((wsX9_worth_r1 ++ wsX9_worth_r2) ++ wsX90 ++ wsX30)
def wsX9_leaves : List Cond := .code yX9_leaves cX9_leaves 2 (some .int) :: ([.fieldLink RX9 19 "PaidBySigns" "hire" "LPaidBySigns$Hire;", .fieldLink RX9 23 "PaidBySigns" "hand" "[I", .constant RX9 158 (-2000000000), .methodLink RX9 140 yX9_isWork, .instanceMethod yX9_isWork, .selects RX9 yX9_isWork yX9_isWork, .initialized RX9, .code yX9_isWork cX9_isWork 2 (some .boolean), .fieldLink RX9 115 "PaidBySigns$Hire" "works" "I", .methodLink RX9 159 yX3_leftAt, .instanceMethod yX3_leftAt, .selects RX3 yX3_leftAt yX3_leftAt, .initialized RX3, .code yX3_leftAt cX3_leftAt 5 (some .int), .fieldLink RX3 32 "PaidBySigns$Hire" "signs" "I", .fieldLink RX3 20 "PaidBySigns$Hire" "chances" "[[I", .fieldLink RX3 9 "PaidBySigns$Hire" "brings" "[I"] ++ wsX90 ++ wsX30)
def wsX9_does_r1 : List Cond := [Cond.fieldLink RX9 19 "PaidBySigns" "hire" "LPaidBySigns$Hire;", Cond.fieldLink RX9 115 "PaidBySigns$Hire" "works" "I", Cond.fieldLink RX9 23 "PaidBySigns" "hand" "[I", Cond.methodLink RX9 162 yX3_doneAt, Cond.instanceMethod yX3_doneAt, Cond.selects RX3 yX3_doneAt yX3_doneAt, Cond.initialized RX3, Cond.code yX3_doneAt cX3_doneAt 5 (some .int), Cond.fieldLink RX3 36 "PaidBySigns$Hire" "works" "I", Cond.methodLink RX3 67 yX3_worthAt, Cond.instanceMethod yX3_worthAt, Cond.selects RX3 yX3_worthAt yX3_worthAt, Cond.code yX3_worthAt cX3_worthAt 5 (some .int), Cond.fieldLink RX3 39 "PaidBySigns$Hire" "whole" "I", Cond.fieldLink RX3 15 "PaidBySigns$Hire" "costs" "[I", Cond.fieldLink RX3 32 "PaidBySigns$Hire" "signs" "I", Cond.fieldLink RX3 20 "PaidBySigns$Hire" "chances" "[[I", Cond.methodLink RX3 63 yX3_feltOf, Cond.instanceMethod yX3_feltOf, Cond.selects RX3 yX3_feltOf yX3_feltOf, Cond.code yX3_feltOf cX3_feltOf 6 (some .int), Cond.fieldLink RX3 48 "PaidBySigns$Hire" "rates" "I", Cond.fieldLink RX3 26 "PaidBySigns$Hire" "mark" "[I", Cond.methodLink RX3 51 Lib.Math.min.name]
def wsX9_does_r2 : List Cond := [Cond.static Lib.Math.min.name, Cond.initialized "java/lang/Math", Cond.code Lib.Math.min.name Lib.Math.min.code 2 (some .int), Cond.fieldLink RX3 23 "PaidBySigns$Hire" "rate" "[I", Cond.methodLink RX3 71 yJ6_compare_7cf53, Cond.static yJ6_compare_7cf53, Cond.initialized RJ6, Cond.code yJ6_compare_7cf53 cJ6_compare_7cf53 2 (some .int), Cond.methodLink RX3 76 yX3_leftAt, Cond.instanceMethod yX3_leftAt, Cond.selects RX3 yX3_leftAt yX3_leftAt, Cond.code yX3_leftAt cX3_leftAt 5 (some .int), Cond.fieldLink RX3 9 "PaidBySigns$Hire" "brings" "[I"]
def wsX9_does : List Cond := .code yX9_does cX9_does 1 (some .int) :: ((wsX9_does_r1 ++ wsX9_does_r2) ++ wsX90 ++ wsX30)
def wsX9_comes_r1 : List Cond := [Cond.fieldLink RX9 19 "PaidBySigns" "hire" "LPaidBySigns$Hire;", Cond.fieldLink RX9 115 "PaidBySigns$Hire" "works" "I", Cond.fieldLink RX9 23 "PaidBySigns" "hand" "[I", Cond.fieldLink RX9 127 "PaidBySigns$Hire" "whole" "I", Cond.fieldLink RX9 130 "PaidBySigns$Hire" "otherwise" "I", Cond.methodLink RX9 162 yX3_doneAt, Cond.instanceMethod yX3_doneAt, Cond.selects RX3 yX3_doneAt yX3_doneAt, Cond.initialized RX3, Cond.code yX3_doneAt cX3_doneAt 5 (some .int), Cond.fieldLink RX3 36 "PaidBySigns$Hire" "works" "I", Cond.methodLink RX3 67 yX3_worthAt, Cond.instanceMethod yX3_worthAt, Cond.selects RX3 yX3_worthAt yX3_worthAt, Cond.code yX3_worthAt cX3_worthAt 5 (some .int), Cond.fieldLink RX3 39 "PaidBySigns$Hire" "whole" "I", Cond.fieldLink RX3 15 "PaidBySigns$Hire" "costs" "[I", Cond.fieldLink RX3 32 "PaidBySigns$Hire" "signs" "I", Cond.fieldLink RX3 20 "PaidBySigns$Hire" "chances" "[[I", Cond.methodLink RX3 63 yX3_feltOf, Cond.instanceMethod yX3_feltOf, Cond.selects RX3 yX3_feltOf yX3_feltOf, Cond.code yX3_feltOf cX3_feltOf 6 (some .int), Cond.fieldLink RX3 48 "PaidBySigns$Hire" "rates" "I"]
def wsX9_comes_r2 : List Cond := [Cond.fieldLink RX3 26 "PaidBySigns$Hire" "mark" "[I", Cond.methodLink RX3 51 Lib.Math.min.name, Cond.static Lib.Math.min.name, Cond.initialized "java/lang/Math", Cond.code Lib.Math.min.name Lib.Math.min.code 2 (some .int), Cond.fieldLink RX3 23 "PaidBySigns$Hire" "rate" "[I", Cond.methodLink RX3 71 yJ6_compare_7cf53, Cond.static yJ6_compare_7cf53, Cond.initialized RJ6, Cond.code yJ6_compare_7cf53 cJ6_compare_7cf53 2 (some .int), Cond.methodLink RX3 76 yX3_leftAt, Cond.instanceMethod yX3_leftAt, Cond.selects RX3 yX3_leftAt yX3_leftAt, Cond.code yX3_leftAt cX3_leftAt 5 (some .int), Cond.fieldLink RX3 9 "PaidBySigns$Hire" "brings" "[I", Cond.methodLink RX9 154 yX3_worthAt]
def wsX9_comes : List Cond := .code yX9_comes cX9_comes 2 (some .int) :: ((wsX9_comes_r1 ++ wsX9_comes_r2) ++ wsX90 ++ wsX30)
def wsX9_upper : List Cond := .code yX9_upper cX9_upper 1 (some .long) :: ([.fieldLink RX9 30 "PaidBySigns" "latest" "LPaidBySigns$Fraction;", .fieldLink RX9 166 "PaidBySigns$Fraction" "upper" "J"] ++ wsX90 ++ wsX20)
def wsX9_lower : List Cond := .code yX9_lower cX9_lower 1 (some .long) :: ([.fieldLink RX9 30 "PaidBySigns" "latest" "LPaidBySigns$Fraction;", .fieldLink RX9 170 "PaidBySigns$Fraction" "lower" "J"] ++ wsX90 ++ wsX20)
def wsX9_make_r1 : List Cond := [Cond.fieldLink RX9 54 "PaidBySigns" "cheapest" "LPaidBySigns$LeastCost;", Cond.fieldLink RX9 19 "PaidBySigns" "hire" "LPaidBySigns$Hire;", Cond.fieldLink RX9 30 "PaidBySigns" "latest" "LPaidBySigns$Fraction;", Cond.fieldLink RX9 124 "PaidBySigns$Hire" "signs" "I", Cond.fieldLink RX9 34 "PaidBySigns" "trial" "LPaidBySigns$Fraction;", Cond.fieldLink RX9 40 "PaidBySigns" "wageUpper" "[J", Cond.fieldLink RX9 166 "PaidBySigns$Fraction" "upper" "J", Cond.fieldLink RX9 44 "PaidBySigns" "wageLower" "[J", Cond.fieldLink RX9 170 "PaidBySigns$Fraction" "lower" "J", Cond.fieldLink RX9 47 "PaidBySigns" "hasWages" "Z", Cond.methodLink RX9 140 yX9_isWork, Cond.instanceMethod yX9_isWork, Cond.selects RX9 yX9_isWork yX9_isWork, Cond.initialized RX9, Cond.code yX9_isWork cX9_isWork 2 (some .boolean), Cond.fieldLink RX9 115 "PaidBySigns$Hire" "works" "I", Cond.methodLink RX9 173 yX4_findWages, Cond.instanceMethod yX4_findWages, Cond.selects RX4 yX4_findWages yX4_findWages, Cond.initialized RX4, Cond.code yX4_findWages cX4_findWages 3 (some .boolean), Cond.fieldLink RX4 63 "PaidBySigns$Hire" "signs" "I", Cond.methodLink RX4 59 yX4_find, Cond.instanceMethod yX4_find]
def wsX9_make_r2 : List Cond := [Cond.selects RX4 yX4_find yX4_find, Cond.code yX4_find cX4_find 6 (some .boolean), Cond.fieldLink RX4 46 "PaidBySigns$LeastCost" "hire" "LPaidBySigns$Hire;", Cond.fieldLink RX4 50 "PaidBySigns$LeastCost" "work" "I", Cond.fieldLink RX4 53 "PaidBySigns$LeastCost" "keptSign" "I", Cond.fieldLink RX4 56 "PaidBySigns$LeastCost" "joinedSign" "I", Cond.fieldLink RX4 22 "PaidBySigns$LeastCost" "table" "LPaidBySigns$Table;", Cond.fieldLink RX4 88 "PaidBySigns$Hire" "works" "I", Cond.fieldLink RX4 40 "PaidBySigns$LeastCost" "rooms" "I", Cond.fieldLink RX4 36 "PaidBySigns$LeastCost" "columns" "I", Cond.methodLink RX4 85 yX4_listColumns, Cond.instanceMethod yX4_listColumns, Cond.selects RX4 yX4_listColumns yX4_listColumns, Cond.code yX4_listColumns cX4_listColumns 2 none, Cond.methodLink RX4 66 yX4_chanceOf, Cond.instanceMethod yX4_chanceOf, Cond.selects RX4 yX4_chanceOf yX4_chanceOf, Cond.code yX4_chanceOf cX4_chanceOf 3 (some .int), Cond.fieldLink RX4 112 "PaidBySigns$Hire" "chances" "[[I", Cond.methodLink RX4 116 yX4_listSteps, Cond.instanceMethod yX4_listSteps, Cond.selects RX4 yX4_listSteps yX4_listSteps, Cond.code yX4_listSteps cX4_listSteps 5 none, Cond.fieldLink RX4 79 "PaidBySigns$Hire" "least" "I"]
def wsX9_make_r3 : List Cond := [Cond.fieldLink RX4 119 "PaidBySigns$Hire" "rates" "I", Cond.fieldLink RX4 122 "PaidBySigns$Hire" "mark" "[I", Cond.fieldLink RX4 26 "PaidBySigns$LeastCost" "columnSign" "[I", Cond.fieldLink RX4 30 "PaidBySigns$LeastCost" "columnRate" "[I", Cond.fieldLink RX4 125 "PaidBySigns$Hire" "rate" "[I", Cond.fieldLink RX4 33 "PaidBySigns$LeastCost" "columnRoom" "[I", Cond.methodLink RX4 91 yX8_start, Cond.instanceMethod yX8_start, Cond.selects RX8 yX8_start yX8_start, Cond.initialized RX8, Cond.code yX8_start cX8_start 5 none, Cond.methodLink RX8 23 Lib.Math.min.name, Cond.static Lib.Math.min.name, Cond.initialized "java/lang/Math", Cond.code Lib.Math.min.name Lib.Math.min.code 2 (some .int), Cond.fieldLink RX8 29 "PaidBySigns$Table" "goals" "I", Cond.fieldLink RX8 33 "PaidBySigns$Table" "lines" "I", Cond.fieldLink RX8 36 "PaidBySigns$Table" "columns" "I", Cond.fieldLink RX8 39 "PaidBySigns$Table" "base" "J", Cond.fieldLink RX8 13 "PaidBySigns$Table" "entry" "[[J", Cond.fieldLink RX8 16 "PaidBySigns$Table" "lineName" "[I", Cond.fieldLink RX8 20 "PaidBySigns$Table" "columnName" "[I", Cond.methodLink RX8 43 yJ7_fill_d0a16, Cond.static yJ7_fill_d0a16]
def wsX9_make_r4 : List Cond := [Cond.initialized RJ7, Cond.code yJ7_fill_d0a16 cJ7_fill_d0a16 5 none, Cond.methodLink RX4 95 yX4_fillGoals, Cond.instanceMethod yX4_fillGoals, Cond.selects RX4 yX4_fillGoals yX4_fillGoals, Cond.code yX4_fillGoals cX4_fillGoals 5 none, Cond.fieldLink RX4 132 "PaidBySigns$Table" "entry" "[[J", Cond.methodLink RX4 128 yX4_partsOf, Cond.instanceMethod yX4_partsOf, Cond.selects RX4 yX4_partsOf yX4_partsOf, Cond.code yX4_partsOf cX4_partsOf 2 (some .int), Cond.methodLink RX4 99 yX4_fillLines, Cond.instanceMethod yX4_fillLines, Cond.selects RX4 yX4_fillLines yX4_fillLines, Cond.code yX4_fillLines cX4_fillLines 6 none, Cond.fieldLink RX4 70 "PaidBySigns$Hire" "whole" "I", Cond.methodLink RX4 136 yX3_lackOf, Cond.instanceMethod yX3_lackOf, Cond.selects RX3 yX3_lackOf yX3_lackOf, Cond.initialized RX3, Cond.code yX3_lackOf cX3_lackOf 3 (some .int), Cond.fieldLink RX3 15 "PaidBySigns$Hire" "costs" "[I", Cond.fieldLink RX3 42 "PaidBySigns$Hire" "otherwise" "I", Cond.fieldLink RX3 45 "PaidBySigns$Hire" "least" "I"]
def wsX9_make_r5 : List Cond := [Cond.methodLink RX3 63 yX3_feltOf, Cond.instanceMethod yX3_feltOf, Cond.selects RX3 yX3_feltOf yX3_feltOf, Cond.code yX3_feltOf cX3_feltOf 6 (some .int), Cond.fieldLink RX3 48 "PaidBySigns$Hire" "rates" "I", Cond.fieldLink RX3 26 "PaidBySigns$Hire" "mark" "[I", Cond.methodLink RX3 51 Lib.Math.min.name, Cond.fieldLink RX3 23 "PaidBySigns$Hire" "rate" "[I", Cond.methodLink RX4 102 yX4_fillRooms, Cond.instanceMethod yX4_fillRooms, Cond.selects RX4 yX4_fillRooms yX4_fillRooms, Cond.code yX4_fillRooms cX4_fillRooms 4 none, Cond.methodLink RX4 105 yX8_solve, Cond.instanceMethod yX8_solve, Cond.selects RX8 yX8_solve yX8_solve, Cond.code yX8_solve cX8_solve 4 (some .boolean), Cond.constant RX8 49 (1000000), Cond.methodLink RX8 50 yX8_lineBelowZero, Cond.instanceMethod yX8_lineBelowZero, Cond.selects RX8 yX8_lineBelowZero yX8_lineBelowZero, Cond.code yX8_lineBelowZero cX8_lineBelowZero 3 (some .int), Cond.methodLink RX8 54 yX8_columnFor, Cond.instanceMethod yX8_columnFor, Cond.selects RX8 yX8_columnFor yX8_columnFor]
def wsX9_make_r6 : List Cond := [Cond.code yX8_columnFor cX8_columnFor 5 (some .int), Cond.methodLink RX8 62 yX8_compareRatios, Cond.instanceMethod yX8_compareRatios, Cond.selects RX8 yX8_compareRatios yX8_compareRatios, Cond.code yX8_compareRatios cX8_compareRatios 13 (some .int), Cond.methodLink RX8 58 yX8_pivot, Cond.instanceMethod yX8_pivot, Cond.selects RX8 yX8_pivot yX8_pivot, Cond.code yX8_pivot cX8_pivot 7 none, Cond.methodLink RX8 66 yX8_changeLine, Cond.instanceMethod yX8_changeLine, Cond.selects RX8 yX8_changeLine yX8_changeLine, Cond.code yX8_changeLine cX8_changeLine 9 none, Cond.methodLink RX4 109 yX4_readWages, Cond.instanceMethod yX4_readWages, Cond.selects RX4 yX4_readWages yX4_readWages, Cond.code yX4_readWages cX4_readWages 3 none, Cond.fieldLink RX4 9 "PaidBySigns$LeastCost" "above" "[J", Cond.constantLong RX4 145 (60), Cond.fieldLink RX4 147 "PaidBySigns$Table" "base" "J", Cond.fieldLink RX4 15 "PaidBySigns$LeastCost" "aboveLower" "J", Cond.fieldLink RX4 150 "PaidBySigns$Table" "goals" "I", Cond.fieldLink RX4 153 "PaidBySigns$Table" "lines" "I", Cond.fieldLink RX4 156 "PaidBySigns$Table" "lineName" "[I"]
def wsX9_make_r7 : List Cond := [Cond.methodLink RX4 139 yJ7_fill_d0a16, Cond.methodLink RX9 177 yX4_costInto, Cond.instanceMethod yX4_costInto, Cond.selects RX4 yX4_costInto yX4_costInto, Cond.code yX4_costInto cX4_costInto 5 none, Cond.methodLink RX4 73 yX2_become, Cond.instanceMethod yX2_become, Cond.selects RX2 yX2_become yX2_become, Cond.initialized RX2, Cond.code yX2_become cX2_become 7 none, Cond.methodLink RX2 20 Lib.MathLoose.abs_long.x, Cond.static Lib.MathLoose.abs_long.x, Cond.code Lib.MathLoose.abs_long.x Lib.MathLoose.abs_long.code 2 (some .long), Cond.fieldLink RX2 11 "PaidBySigns$Fraction" "upper" "J", Cond.fieldLink RX2 17 "PaidBySigns$Fraction" "lower" "J", Cond.methodLink RX2 26 yX2_commonPart, Cond.static yX2_commonPart, Cond.code yX2_commonPart cX2_commonPart 11 (some .long), Cond.methodLink RX2 30 yX2_forget, Cond.instanceMethod yX2_forget, Cond.selects RX2 yX2_forget yX2_forget, Cond.code yX2_forget cX2_forget 1 none, Cond.constantLong RX2 9 (-2000000000), Cond.methodLink RX4 82 yX2_add]
def wsX9_make_r8 : List Cond := [Cond.instanceMethod yX2_add, Cond.selects RX2 yX2_add yX2_add, Cond.code yX2_add cX2_add 5 none, Cond.methodLink RX2 33 yX2_become, Cond.methodLink RX9 181 yX4_wageInto, Cond.instanceMethod yX4_wageInto, Cond.selects RX4 yX4_wageInto yX4_wageInto, Cond.code yX4_wageInto cX4_wageInto 3 none]
def wsX9_make : List Cond := .code yX9_make cX9_make 3 (some .int) :: ((wsX9_make_r1 ++ (wsX9_make_r2 ++ (wsX9_make_r3 ++ (wsX9_make_r4 ++ (wsX9_make_r5 ++ (wsX9_make_r6 ++ (wsX9_make_r7 ++ wsX9_make_r8))))))) ++ wsX90 ++ wsX30 ++ wsX20 ++ wsX40 ++ wsX80)
def wsX9_wages : List Cond := .code yX9_wages cX9_wages 3 (some .long) :: ([.fieldLink RX9 47 "PaidBySigns" "hasWages" "Z", .constantLong RX9 185 (-1), .fieldLink RX9 44 "PaidBySigns" "wageLower" "[J", .fieldLink RX9 40 "PaidBySigns" "wageUpper" "[J", .methodLink RX9 144 yX9_isSign, .instanceMethod yX9_isSign, .selects RX9 yX9_isSign yX9_isSign, .initialized RX9, .code yX9_isSign cX9_isSign 2 (some .boolean), .fieldLink RX9 19 "PaidBySigns" "hire" "LPaidBySigns$Hire;", .fieldLink RX9 124 "PaidBySigns$Hire" "signs" "I"] ++ wsX90 ++ wsX30)
def wsX9_seen_r1 : List Cond := [Cond.fieldLink RX9 19 "PaidBySigns" "hire" "LPaidBySigns$Hire;", Cond.fieldLink RX9 187 "PaidBySigns$Hire" "costs" "[I", Cond.fieldLink RX9 130 "PaidBySigns$Hire" "otherwise" "I", Cond.fieldLink RX9 101 "PaidBySigns$Hire" "least" "I", Cond.fieldLink RX9 30 "PaidBySigns" "latest" "LPaidBySigns$Fraction;", Cond.methodLink RX9 140 yX9_isWork, Cond.instanceMethod yX9_isWork, Cond.selects RX9 yX9_isWork yX9_isWork, Cond.initialized RX9, Cond.code yX9_isWork cX9_isWork 2 (some .boolean), Cond.fieldLink RX9 115 "PaidBySigns$Hire" "works" "I", Cond.methodLink RX9 151 yX3_feltOf, Cond.instanceMethod yX3_feltOf, Cond.selects RX3 yX3_feltOf yX3_feltOf, Cond.initialized RX3, Cond.code yX3_feltOf cX3_feltOf 6 (some .int), Cond.fieldLink RX3 48 "PaidBySigns$Hire" "rates" "I", Cond.fieldLink RX3 26 "PaidBySigns$Hire" "mark" "[I", Cond.methodLink RX3 51 Lib.Math.min.name, Cond.static Lib.Math.min.name, Cond.initialized "java/lang/Math", Cond.code Lib.Math.min.name Lib.Math.min.code 2 (some .int), Cond.fieldLink RX3 23 "PaidBySigns$Hire" "rate" "[I", Cond.methodLink RX9 190 yX2_become]
def wsX9_seen_r2 : List Cond := [Cond.instanceMethod yX2_become, Cond.selects RX2 yX2_become yX2_become, Cond.initialized RX2, Cond.code yX2_become cX2_become 7 none, Cond.methodLink RX2 20 Lib.MathLoose.abs_long.x, Cond.static Lib.MathLoose.abs_long.x, Cond.code Lib.MathLoose.abs_long.x Lib.MathLoose.abs_long.code 2 (some .long), Cond.fieldLink RX2 11 "PaidBySigns$Fraction" "upper" "J", Cond.fieldLink RX2 17 "PaidBySigns$Fraction" "lower" "J", Cond.methodLink RX2 26 yX2_commonPart, Cond.static yX2_commonPart, Cond.code yX2_commonPart cX2_commonPart 11 (some .long), Cond.methodLink RX2 30 yX2_forget, Cond.instanceMethod yX2_forget, Cond.selects RX2 yX2_forget yX2_forget, Cond.code yX2_forget cX2_forget 1 none, Cond.constantLong RX2 9 (-2000000000), Cond.methodLink RX9 194 yX3_wageOf, Cond.instanceMethod yX3_wageOf, Cond.selects RX3 yX3_wageOf yX3_wageOf, Cond.code yX3_wageOf cX3_wageOf 13 none, Cond.methodLink RX3 57 yX2_become]
def wsX9_seen : List Cond := .code yX9_seen cX9_seen 3 (some .int) :: ((wsX9_seen_r1 ++ wsX9_seen_r2) ++ wsX90 ++ wsX30 ++ wsX20)
def wsX9_bestWork_r1 : List Cond := [Cond.fieldLink RX9 19 "PaidBySigns" "hire" "LPaidBySigns$Hire;", Cond.fieldLink RX9 115 "PaidBySigns$Hire" "works" "I", Cond.fieldLink RX9 54 "PaidBySigns" "cheapest" "LPaidBySigns$LeastCost;", Cond.fieldLink RX9 34 "PaidBySigns" "trial" "LPaidBySigns$Fraction;", Cond.fieldLink RX9 166 "PaidBySigns$Fraction" "upper" "J", Cond.fieldLink RX9 170 "PaidBySigns$Fraction" "lower" "J", Cond.fieldLink RX9 127 "PaidBySigns$Hire" "whole" "I", Cond.fieldLink RX9 37 "PaidBySigns" "champion" "LPaidBySigns$Fraction;", Cond.methodLink RX9 307 yX4_findCost, Cond.instanceMethod yX4_findCost, Cond.selects RX4 yX4_findCost yX4_findCost, Cond.initialized RX4, Cond.code yX4_findCost cX4_findCost 3 (some .boolean), Cond.methodLink RX4 59 yX4_find, Cond.instanceMethod yX4_find, Cond.selects RX4 yX4_find yX4_find, Cond.code yX4_find cX4_find 6 (some .boolean), Cond.fieldLink RX4 46 "PaidBySigns$LeastCost" "hire" "LPaidBySigns$Hire;", Cond.fieldLink RX4 50 "PaidBySigns$LeastCost" "work" "I", Cond.fieldLink RX4 53 "PaidBySigns$LeastCost" "keptSign" "I", Cond.fieldLink RX4 56 "PaidBySigns$LeastCost" "joinedSign" "I", Cond.fieldLink RX4 22 "PaidBySigns$LeastCost" "table" "LPaidBySigns$Table;", Cond.fieldLink RX4 88 "PaidBySigns$Hire" "works" "I", Cond.fieldLink RX4 40 "PaidBySigns$LeastCost" "rooms" "I"]
def wsX9_bestWork_r2 : List Cond := [Cond.fieldLink RX4 36 "PaidBySigns$LeastCost" "columns" "I", Cond.methodLink RX4 85 yX4_listColumns, Cond.instanceMethod yX4_listColumns, Cond.selects RX4 yX4_listColumns yX4_listColumns, Cond.code yX4_listColumns cX4_listColumns 2 none, Cond.fieldLink RX4 63 "PaidBySigns$Hire" "signs" "I", Cond.methodLink RX4 66 yX4_chanceOf, Cond.instanceMethod yX4_chanceOf, Cond.selects RX4 yX4_chanceOf yX4_chanceOf, Cond.code yX4_chanceOf cX4_chanceOf 3 (some .int), Cond.fieldLink RX4 112 "PaidBySigns$Hire" "chances" "[[I", Cond.methodLink RX4 116 yX4_listSteps, Cond.instanceMethod yX4_listSteps, Cond.selects RX4 yX4_listSteps yX4_listSteps, Cond.code yX4_listSteps cX4_listSteps 5 none, Cond.fieldLink RX4 79 "PaidBySigns$Hire" "least" "I", Cond.fieldLink RX4 119 "PaidBySigns$Hire" "rates" "I", Cond.fieldLink RX4 122 "PaidBySigns$Hire" "mark" "[I", Cond.fieldLink RX4 26 "PaidBySigns$LeastCost" "columnSign" "[I", Cond.fieldLink RX4 30 "PaidBySigns$LeastCost" "columnRate" "[I", Cond.fieldLink RX4 125 "PaidBySigns$Hire" "rate" "[I", Cond.fieldLink RX4 33 "PaidBySigns$LeastCost" "columnRoom" "[I", Cond.methodLink RX4 91 yX8_start, Cond.instanceMethod yX8_start]
def wsX9_bestWork_r3 : List Cond := [Cond.selects RX8 yX8_start yX8_start, Cond.initialized RX8, Cond.code yX8_start cX8_start 5 none, Cond.methodLink RX8 23 Lib.Math.min.name, Cond.static Lib.Math.min.name, Cond.initialized "java/lang/Math", Cond.code Lib.Math.min.name Lib.Math.min.code 2 (some .int), Cond.fieldLink RX8 29 "PaidBySigns$Table" "goals" "I", Cond.fieldLink RX8 33 "PaidBySigns$Table" "lines" "I", Cond.fieldLink RX8 36 "PaidBySigns$Table" "columns" "I", Cond.fieldLink RX8 39 "PaidBySigns$Table" "base" "J", Cond.fieldLink RX8 13 "PaidBySigns$Table" "entry" "[[J", Cond.fieldLink RX8 16 "PaidBySigns$Table" "lineName" "[I", Cond.fieldLink RX8 20 "PaidBySigns$Table" "columnName" "[I", Cond.methodLink RX8 43 yJ7_fill_d0a16, Cond.static yJ7_fill_d0a16, Cond.initialized RJ7, Cond.code yJ7_fill_d0a16 cJ7_fill_d0a16 5 none, Cond.methodLink RX4 95 yX4_fillGoals, Cond.instanceMethod yX4_fillGoals, Cond.selects RX4 yX4_fillGoals yX4_fillGoals, Cond.code yX4_fillGoals cX4_fillGoals 5 none, Cond.fieldLink RX4 132 "PaidBySigns$Table" "entry" "[[J", Cond.methodLink RX4 128 yX4_partsOf]
def wsX9_bestWork_r4 : List Cond := [Cond.instanceMethod yX4_partsOf, Cond.selects RX4 yX4_partsOf yX4_partsOf, Cond.code yX4_partsOf cX4_partsOf 2 (some .int), Cond.methodLink RX4 99 yX4_fillLines, Cond.instanceMethod yX4_fillLines, Cond.selects RX4 yX4_fillLines yX4_fillLines, Cond.code yX4_fillLines cX4_fillLines 6 none, Cond.fieldLink RX4 70 "PaidBySigns$Hire" "whole" "I", Cond.methodLink RX4 136 yX3_lackOf, Cond.instanceMethod yX3_lackOf, Cond.selects RX3 yX3_lackOf yX3_lackOf, Cond.initialized RX3, Cond.code yX3_lackOf cX3_lackOf 3 (some .int), Cond.fieldLink RX3 15 "PaidBySigns$Hire" "costs" "[I", Cond.fieldLink RX3 42 "PaidBySigns$Hire" "otherwise" "I", Cond.fieldLink RX3 45 "PaidBySigns$Hire" "least" "I", Cond.methodLink RX3 63 yX3_feltOf, Cond.instanceMethod yX3_feltOf, Cond.selects RX3 yX3_feltOf yX3_feltOf, Cond.code yX3_feltOf cX3_feltOf 6 (some .int), Cond.fieldLink RX3 48 "PaidBySigns$Hire" "rates" "I", Cond.fieldLink RX3 26 "PaidBySigns$Hire" "mark" "[I", Cond.methodLink RX3 51 Lib.Math.min.name, Cond.fieldLink RX3 23 "PaidBySigns$Hire" "rate" "[I"]
def wsX9_bestWork_r5 : List Cond := [Cond.methodLink RX4 102 yX4_fillRooms, Cond.instanceMethod yX4_fillRooms, Cond.selects RX4 yX4_fillRooms yX4_fillRooms, Cond.code yX4_fillRooms cX4_fillRooms 4 none, Cond.methodLink RX4 105 yX8_solve, Cond.instanceMethod yX8_solve, Cond.selects RX8 yX8_solve yX8_solve, Cond.code yX8_solve cX8_solve 4 (some .boolean), Cond.constant RX8 49 (1000000), Cond.methodLink RX8 50 yX8_lineBelowZero, Cond.instanceMethod yX8_lineBelowZero, Cond.selects RX8 yX8_lineBelowZero yX8_lineBelowZero, Cond.code yX8_lineBelowZero cX8_lineBelowZero 3 (some .int), Cond.methodLink RX8 54 yX8_columnFor, Cond.instanceMethod yX8_columnFor, Cond.selects RX8 yX8_columnFor yX8_columnFor, Cond.code yX8_columnFor cX8_columnFor 5 (some .int), Cond.methodLink RX8 62 yX8_compareRatios, Cond.instanceMethod yX8_compareRatios, Cond.selects RX8 yX8_compareRatios yX8_compareRatios, Cond.code yX8_compareRatios cX8_compareRatios 13 (some .int), Cond.methodLink RX8 58 yX8_pivot, Cond.instanceMethod yX8_pivot, Cond.selects RX8 yX8_pivot yX8_pivot]
def wsX9_bestWork_r6 : List Cond := [Cond.code yX8_pivot cX8_pivot 7 none, Cond.methodLink RX8 66 yX8_changeLine, Cond.instanceMethod yX8_changeLine, Cond.selects RX8 yX8_changeLine yX8_changeLine, Cond.code yX8_changeLine cX8_changeLine 9 none, Cond.methodLink RX4 109 yX4_readWages, Cond.instanceMethod yX4_readWages, Cond.selects RX4 yX4_readWages yX4_readWages, Cond.code yX4_readWages cX4_readWages 3 none, Cond.fieldLink RX4 9 "PaidBySigns$LeastCost" "above" "[J", Cond.constantLong RX4 145 (60), Cond.fieldLink RX4 147 "PaidBySigns$Table" "base" "J", Cond.fieldLink RX4 15 "PaidBySigns$LeastCost" "aboveLower" "J", Cond.fieldLink RX4 150 "PaidBySigns$Table" "goals" "I", Cond.fieldLink RX4 153 "PaidBySigns$Table" "lines" "I", Cond.fieldLink RX4 156 "PaidBySigns$Table" "lineName" "[I", Cond.methodLink RX4 139 yJ7_fill_d0a16, Cond.methodLink RX9 177 yX4_costInto, Cond.instanceMethod yX4_costInto, Cond.selects RX4 yX4_costInto yX4_costInto, Cond.code yX4_costInto cX4_costInto 5 none, Cond.methodLink RX4 73 yX2_become, Cond.instanceMethod yX2_become, Cond.selects RX2 yX2_become yX2_become]
def wsX9_bestWork_r7 : List Cond := [Cond.initialized RX2, Cond.code yX2_become cX2_become 7 none, Cond.methodLink RX2 20 Lib.MathLoose.abs_long.x, Cond.static Lib.MathLoose.abs_long.x, Cond.code Lib.MathLoose.abs_long.x Lib.MathLoose.abs_long.code 2 (some .long), Cond.fieldLink RX2 11 "PaidBySigns$Fraction" "upper" "J", Cond.fieldLink RX2 17 "PaidBySigns$Fraction" "lower" "J", Cond.methodLink RX2 26 yX2_commonPart, Cond.static yX2_commonPart, Cond.code yX2_commonPart cX2_commonPart 11 (some .long), Cond.methodLink RX2 30 yX2_forget, Cond.instanceMethod yX2_forget, Cond.selects RX2 yX2_forget yX2_forget, Cond.code yX2_forget cX2_forget 1 none, Cond.constantLong RX2 9 (-2000000000), Cond.methodLink RX4 82 yX2_add, Cond.instanceMethod yX2_add, Cond.selects RX2 yX2_add yX2_add, Cond.code yX2_add cX2_add 5 none, Cond.methodLink RX2 33 yX2_become, Cond.methodLink RX9 190 yX2_become, Cond.methodLink RX9 310 yX3_broughtBy, Cond.instanceMethod yX3_broughtBy, Cond.selects RX3 yX3_broughtBy yX3_broughtBy]
def wsX9_bestWork_r8 : List Cond := [Cond.code yX3_broughtBy cX3_broughtBy 4 (some .int), Cond.fieldLink RX3 32 "PaidBySigns$Hire" "signs" "I", Cond.fieldLink RX3 20 "PaidBySigns$Hire" "chances" "[[I", Cond.fieldLink RX3 9 "PaidBySigns$Hire" "brings" "[I", Cond.methodLink RX9 242 yX2_add, Cond.methodLink RX9 235 yX2_isBelow, Cond.static yX2_isBelow, Cond.code yX2_isBelow cX2_isBelow 2 (some .boolean), Cond.methodLink RX9 202 yX2_copy, Cond.instanceMethod yX2_copy, Cond.selects RX2 yX2_copy yX2_copy, Cond.code yX2_copy cX2_copy 2 none]
def wsX9_bestWork : List Cond := .code yX9_bestWork cX9_bestWork 3 (some .int) :: ((wsX9_bestWork_r1 ++ (wsX9_bestWork_r2 ++ (wsX9_bestWork_r3 ++ (wsX9_bestWork_r4 ++ (wsX9_bestWork_r5 ++ (wsX9_bestWork_r6 ++ (wsX9_bestWork_r7 ++ wsX9_bestWork_r8))))))) ++ wsX90 ++ wsX30 ++ wsX20 ++ wsX40 ++ wsX80)
def wsX9_best_r1 : List Cond := [Cond.fieldLink RX9 30 "PaidBySigns" "latest" "LPaidBySigns$Fraction;", Cond.fieldLink RX9 37 "PaidBySigns" "champion" "LPaidBySigns$Fraction;", Cond.methodLink RX9 198 yX9_bestWork, Cond.instanceMethod yX9_bestWork, Cond.selects RX9 yX9_bestWork yX9_bestWork, Cond.initialized RX9, Cond.code yX9_bestWork cX9_bestWork 3 (some .int), Cond.fieldLink RX9 19 "PaidBySigns" "hire" "LPaidBySigns$Hire;", Cond.fieldLink RX9 115 "PaidBySigns$Hire" "works" "I", Cond.fieldLink RX9 54 "PaidBySigns" "cheapest" "LPaidBySigns$LeastCost;", Cond.fieldLink RX9 34 "PaidBySigns" "trial" "LPaidBySigns$Fraction;", Cond.fieldLink RX9 166 "PaidBySigns$Fraction" "upper" "J", Cond.fieldLink RX9 170 "PaidBySigns$Fraction" "lower" "J", Cond.fieldLink RX9 127 "PaidBySigns$Hire" "whole" "I", Cond.methodLink RX9 307 yX4_findCost, Cond.instanceMethod yX4_findCost, Cond.selects RX4 yX4_findCost yX4_findCost, Cond.initialized RX4, Cond.code yX4_findCost cX4_findCost 3 (some .boolean), Cond.methodLink RX4 59 yX4_find, Cond.instanceMethod yX4_find, Cond.selects RX4 yX4_find yX4_find, Cond.code yX4_find cX4_find 6 (some .boolean), Cond.fieldLink RX4 46 "PaidBySigns$LeastCost" "hire" "LPaidBySigns$Hire;"]
def wsX9_best_r2 : List Cond := [Cond.fieldLink RX4 50 "PaidBySigns$LeastCost" "work" "I", Cond.fieldLink RX4 53 "PaidBySigns$LeastCost" "keptSign" "I", Cond.fieldLink RX4 56 "PaidBySigns$LeastCost" "joinedSign" "I", Cond.fieldLink RX4 22 "PaidBySigns$LeastCost" "table" "LPaidBySigns$Table;", Cond.fieldLink RX4 88 "PaidBySigns$Hire" "works" "I", Cond.fieldLink RX4 40 "PaidBySigns$LeastCost" "rooms" "I", Cond.fieldLink RX4 36 "PaidBySigns$LeastCost" "columns" "I", Cond.methodLink RX4 85 yX4_listColumns, Cond.instanceMethod yX4_listColumns, Cond.selects RX4 yX4_listColumns yX4_listColumns, Cond.code yX4_listColumns cX4_listColumns 2 none, Cond.fieldLink RX4 63 "PaidBySigns$Hire" "signs" "I", Cond.methodLink RX4 66 yX4_chanceOf, Cond.instanceMethod yX4_chanceOf, Cond.selects RX4 yX4_chanceOf yX4_chanceOf, Cond.code yX4_chanceOf cX4_chanceOf 3 (some .int), Cond.fieldLink RX4 112 "PaidBySigns$Hire" "chances" "[[I", Cond.methodLink RX4 116 yX4_listSteps, Cond.instanceMethod yX4_listSteps, Cond.selects RX4 yX4_listSteps yX4_listSteps, Cond.code yX4_listSteps cX4_listSteps 5 none, Cond.fieldLink RX4 79 "PaidBySigns$Hire" "least" "I", Cond.fieldLink RX4 119 "PaidBySigns$Hire" "rates" "I", Cond.fieldLink RX4 122 "PaidBySigns$Hire" "mark" "[I"]
def wsX9_best_r3 : List Cond := [Cond.fieldLink RX4 26 "PaidBySigns$LeastCost" "columnSign" "[I", Cond.fieldLink RX4 30 "PaidBySigns$LeastCost" "columnRate" "[I", Cond.fieldLink RX4 125 "PaidBySigns$Hire" "rate" "[I", Cond.fieldLink RX4 33 "PaidBySigns$LeastCost" "columnRoom" "[I", Cond.methodLink RX4 91 yX8_start, Cond.instanceMethod yX8_start, Cond.selects RX8 yX8_start yX8_start, Cond.initialized RX8, Cond.code yX8_start cX8_start 5 none, Cond.methodLink RX8 23 Lib.Math.min.name, Cond.static Lib.Math.min.name, Cond.initialized "java/lang/Math", Cond.code Lib.Math.min.name Lib.Math.min.code 2 (some .int), Cond.fieldLink RX8 29 "PaidBySigns$Table" "goals" "I", Cond.fieldLink RX8 33 "PaidBySigns$Table" "lines" "I", Cond.fieldLink RX8 36 "PaidBySigns$Table" "columns" "I", Cond.fieldLink RX8 39 "PaidBySigns$Table" "base" "J", Cond.fieldLink RX8 13 "PaidBySigns$Table" "entry" "[[J", Cond.fieldLink RX8 16 "PaidBySigns$Table" "lineName" "[I", Cond.fieldLink RX8 20 "PaidBySigns$Table" "columnName" "[I", Cond.methodLink RX8 43 yJ7_fill_d0a16, Cond.static yJ7_fill_d0a16, Cond.initialized RJ7, Cond.code yJ7_fill_d0a16 cJ7_fill_d0a16 5 none]
def wsX9_best_r4 : List Cond := [Cond.methodLink RX4 95 yX4_fillGoals, Cond.instanceMethod yX4_fillGoals, Cond.selects RX4 yX4_fillGoals yX4_fillGoals, Cond.code yX4_fillGoals cX4_fillGoals 5 none, Cond.fieldLink RX4 132 "PaidBySigns$Table" "entry" "[[J", Cond.methodLink RX4 128 yX4_partsOf, Cond.instanceMethod yX4_partsOf, Cond.selects RX4 yX4_partsOf yX4_partsOf, Cond.code yX4_partsOf cX4_partsOf 2 (some .int), Cond.methodLink RX4 99 yX4_fillLines, Cond.instanceMethod yX4_fillLines, Cond.selects RX4 yX4_fillLines yX4_fillLines, Cond.code yX4_fillLines cX4_fillLines 6 none, Cond.fieldLink RX4 70 "PaidBySigns$Hire" "whole" "I", Cond.methodLink RX4 136 yX3_lackOf, Cond.instanceMethod yX3_lackOf, Cond.selects RX3 yX3_lackOf yX3_lackOf, Cond.initialized RX3, Cond.code yX3_lackOf cX3_lackOf 3 (some .int), Cond.fieldLink RX3 15 "PaidBySigns$Hire" "costs" "[I", Cond.fieldLink RX3 42 "PaidBySigns$Hire" "otherwise" "I", Cond.fieldLink RX3 45 "PaidBySigns$Hire" "least" "I", Cond.methodLink RX3 63 yX3_feltOf, Cond.instanceMethod yX3_feltOf]
def wsX9_best_r5 : List Cond := [Cond.selects RX3 yX3_feltOf yX3_feltOf, Cond.code yX3_feltOf cX3_feltOf 6 (some .int), Cond.fieldLink RX3 48 "PaidBySigns$Hire" "rates" "I", Cond.fieldLink RX3 26 "PaidBySigns$Hire" "mark" "[I", Cond.methodLink RX3 51 Lib.Math.min.name, Cond.fieldLink RX3 23 "PaidBySigns$Hire" "rate" "[I", Cond.methodLink RX4 102 yX4_fillRooms, Cond.instanceMethod yX4_fillRooms, Cond.selects RX4 yX4_fillRooms yX4_fillRooms, Cond.code yX4_fillRooms cX4_fillRooms 4 none, Cond.methodLink RX4 105 yX8_solve, Cond.instanceMethod yX8_solve, Cond.selects RX8 yX8_solve yX8_solve, Cond.code yX8_solve cX8_solve 4 (some .boolean), Cond.constant RX8 49 (1000000), Cond.methodLink RX8 50 yX8_lineBelowZero, Cond.instanceMethod yX8_lineBelowZero, Cond.selects RX8 yX8_lineBelowZero yX8_lineBelowZero, Cond.code yX8_lineBelowZero cX8_lineBelowZero 3 (some .int), Cond.methodLink RX8 54 yX8_columnFor, Cond.instanceMethod yX8_columnFor, Cond.selects RX8 yX8_columnFor yX8_columnFor, Cond.code yX8_columnFor cX8_columnFor 5 (some .int), Cond.methodLink RX8 62 yX8_compareRatios]
def wsX9_best_r6 : List Cond := [Cond.instanceMethod yX8_compareRatios, Cond.selects RX8 yX8_compareRatios yX8_compareRatios, Cond.code yX8_compareRatios cX8_compareRatios 13 (some .int), Cond.methodLink RX8 58 yX8_pivot, Cond.instanceMethod yX8_pivot, Cond.selects RX8 yX8_pivot yX8_pivot, Cond.code yX8_pivot cX8_pivot 7 none, Cond.methodLink RX8 66 yX8_changeLine, Cond.instanceMethod yX8_changeLine, Cond.selects RX8 yX8_changeLine yX8_changeLine, Cond.code yX8_changeLine cX8_changeLine 9 none, Cond.methodLink RX4 109 yX4_readWages, Cond.instanceMethod yX4_readWages, Cond.selects RX4 yX4_readWages yX4_readWages, Cond.code yX4_readWages cX4_readWages 3 none, Cond.fieldLink RX4 9 "PaidBySigns$LeastCost" "above" "[J", Cond.constantLong RX4 145 (60), Cond.fieldLink RX4 147 "PaidBySigns$Table" "base" "J", Cond.fieldLink RX4 15 "PaidBySigns$LeastCost" "aboveLower" "J", Cond.fieldLink RX4 150 "PaidBySigns$Table" "goals" "I", Cond.fieldLink RX4 153 "PaidBySigns$Table" "lines" "I", Cond.fieldLink RX4 156 "PaidBySigns$Table" "lineName" "[I", Cond.methodLink RX4 139 yJ7_fill_d0a16, Cond.methodLink RX9 177 yX4_costInto]
def wsX9_best_r7 : List Cond := [Cond.instanceMethod yX4_costInto, Cond.selects RX4 yX4_costInto yX4_costInto, Cond.code yX4_costInto cX4_costInto 5 none, Cond.methodLink RX4 73 yX2_become, Cond.instanceMethod yX2_become, Cond.selects RX2 yX2_become yX2_become, Cond.initialized RX2, Cond.code yX2_become cX2_become 7 none, Cond.methodLink RX2 20 Lib.MathLoose.abs_long.x, Cond.static Lib.MathLoose.abs_long.x, Cond.code Lib.MathLoose.abs_long.x Lib.MathLoose.abs_long.code 2 (some .long), Cond.fieldLink RX2 11 "PaidBySigns$Fraction" "upper" "J", Cond.fieldLink RX2 17 "PaidBySigns$Fraction" "lower" "J", Cond.methodLink RX2 26 yX2_commonPart, Cond.static yX2_commonPart, Cond.code yX2_commonPart cX2_commonPart 11 (some .long), Cond.methodLink RX2 30 yX2_forget, Cond.instanceMethod yX2_forget, Cond.selects RX2 yX2_forget yX2_forget, Cond.code yX2_forget cX2_forget 1 none, Cond.constantLong RX2 9 (-2000000000), Cond.methodLink RX4 82 yX2_add, Cond.instanceMethod yX2_add, Cond.selects RX2 yX2_add yX2_add]
def wsX9_best_r8 : List Cond := [Cond.code yX2_add cX2_add 5 none, Cond.methodLink RX2 33 yX2_become, Cond.methodLink RX9 190 yX2_become, Cond.methodLink RX9 310 yX3_broughtBy, Cond.instanceMethod yX3_broughtBy, Cond.selects RX3 yX3_broughtBy yX3_broughtBy, Cond.code yX3_broughtBy cX3_broughtBy 4 (some .int), Cond.fieldLink RX3 32 "PaidBySigns$Hire" "signs" "I", Cond.fieldLink RX3 20 "PaidBySigns$Hire" "chances" "[[I", Cond.fieldLink RX3 9 "PaidBySigns$Hire" "brings" "[I", Cond.methodLink RX9 242 yX2_add, Cond.methodLink RX9 235 yX2_isBelow, Cond.static yX2_isBelow, Cond.code yX2_isBelow cX2_isBelow 2 (some .boolean), Cond.methodLink RX9 202 yX2_copy, Cond.instanceMethod yX2_copy, Cond.selects RX2 yX2_copy yX2_copy, Cond.code yX2_copy cX2_copy 2 none]
def wsX9_best : List Cond := .code yX9_best cX9_best 2 (some .int) :: ((wsX9_best_r1 ++ (wsX9_best_r2 ++ (wsX9_best_r3 ++ (wsX9_best_r4 ++ (wsX9_best_r5 ++ (wsX9_best_r6 ++ (wsX9_best_r7 ++ wsX9_best_r8))))))) ++ wsX90 ++ wsX30 ++ wsX20 ++ wsX40 ++ wsX80)
def wsX9_merged_r1 : List Cond := [Cond.fieldLink RX9 54 "PaidBySigns" "cheapest" "LPaidBySigns$LeastCost;", Cond.fieldLink RX9 19 "PaidBySigns" "hire" "LPaidBySigns$Hire;", Cond.fieldLink RX9 30 "PaidBySigns" "latest" "LPaidBySigns$Fraction;", Cond.methodLink RX9 140 yX9_isWork, Cond.instanceMethod yX9_isWork, Cond.selects RX9 yX9_isWork yX9_isWork, Cond.initialized RX9, Cond.code yX9_isWork cX9_isWork 2 (some .boolean), Cond.fieldLink RX9 115 "PaidBySigns$Hire" "works" "I", Cond.methodLink RX9 205 yX9_isPair, Cond.instanceMethod yX9_isPair, Cond.selects RX9 yX9_isPair yX9_isPair, Cond.code yX9_isPair cX9_isPair 3 (some .boolean), Cond.methodLink RX9 144 yX9_isSign, Cond.instanceMethod yX9_isSign, Cond.selects RX9 yX9_isSign yX9_isSign, Cond.code yX9_isSign cX9_isSign 2 (some .boolean), Cond.fieldLink RX9 124 "PaidBySigns$Hire" "signs" "I", Cond.methodLink RX9 209 yX4_findMerged, Cond.instanceMethod yX4_findMerged, Cond.selects RX4 yX4_findMerged yX4_findMerged, Cond.initialized RX4, Cond.code yX4_findMerged cX4_findMerged 5 (some .boolean), Cond.methodLink RX4 59 yX4_find]
def wsX9_merged_r2 : List Cond := [Cond.instanceMethod yX4_find, Cond.selects RX4 yX4_find yX4_find, Cond.code yX4_find cX4_find 6 (some .boolean), Cond.fieldLink RX4 46 "PaidBySigns$LeastCost" "hire" "LPaidBySigns$Hire;", Cond.fieldLink RX4 50 "PaidBySigns$LeastCost" "work" "I", Cond.fieldLink RX4 53 "PaidBySigns$LeastCost" "keptSign" "I", Cond.fieldLink RX4 56 "PaidBySigns$LeastCost" "joinedSign" "I", Cond.fieldLink RX4 22 "PaidBySigns$LeastCost" "table" "LPaidBySigns$Table;", Cond.fieldLink RX4 88 "PaidBySigns$Hire" "works" "I", Cond.fieldLink RX4 40 "PaidBySigns$LeastCost" "rooms" "I", Cond.fieldLink RX4 36 "PaidBySigns$LeastCost" "columns" "I", Cond.methodLink RX4 85 yX4_listColumns, Cond.instanceMethod yX4_listColumns, Cond.selects RX4 yX4_listColumns yX4_listColumns, Cond.code yX4_listColumns cX4_listColumns 2 none, Cond.fieldLink RX4 63 "PaidBySigns$Hire" "signs" "I", Cond.methodLink RX4 66 yX4_chanceOf, Cond.instanceMethod yX4_chanceOf, Cond.selects RX4 yX4_chanceOf yX4_chanceOf, Cond.code yX4_chanceOf cX4_chanceOf 3 (some .int), Cond.fieldLink RX4 112 "PaidBySigns$Hire" "chances" "[[I", Cond.methodLink RX4 116 yX4_listSteps, Cond.instanceMethod yX4_listSteps, Cond.selects RX4 yX4_listSteps yX4_listSteps]
def wsX9_merged_r3 : List Cond := [Cond.code yX4_listSteps cX4_listSteps 5 none, Cond.fieldLink RX4 79 "PaidBySigns$Hire" "least" "I", Cond.fieldLink RX4 119 "PaidBySigns$Hire" "rates" "I", Cond.fieldLink RX4 122 "PaidBySigns$Hire" "mark" "[I", Cond.fieldLink RX4 26 "PaidBySigns$LeastCost" "columnSign" "[I", Cond.fieldLink RX4 30 "PaidBySigns$LeastCost" "columnRate" "[I", Cond.fieldLink RX4 125 "PaidBySigns$Hire" "rate" "[I", Cond.fieldLink RX4 33 "PaidBySigns$LeastCost" "columnRoom" "[I", Cond.methodLink RX4 91 yX8_start, Cond.instanceMethod yX8_start, Cond.selects RX8 yX8_start yX8_start, Cond.initialized RX8, Cond.code yX8_start cX8_start 5 none, Cond.methodLink RX8 23 Lib.Math.min.name, Cond.static Lib.Math.min.name, Cond.initialized "java/lang/Math", Cond.code Lib.Math.min.name Lib.Math.min.code 2 (some .int), Cond.fieldLink RX8 29 "PaidBySigns$Table" "goals" "I", Cond.fieldLink RX8 33 "PaidBySigns$Table" "lines" "I", Cond.fieldLink RX8 36 "PaidBySigns$Table" "columns" "I", Cond.fieldLink RX8 39 "PaidBySigns$Table" "base" "J", Cond.fieldLink RX8 13 "PaidBySigns$Table" "entry" "[[J", Cond.fieldLink RX8 16 "PaidBySigns$Table" "lineName" "[I", Cond.fieldLink RX8 20 "PaidBySigns$Table" "columnName" "[I"]
def wsX9_merged_r4 : List Cond := [Cond.methodLink RX8 43 yJ7_fill_d0a16, Cond.static yJ7_fill_d0a16, Cond.initialized RJ7, Cond.code yJ7_fill_d0a16 cJ7_fill_d0a16 5 none, Cond.methodLink RX4 95 yX4_fillGoals, Cond.instanceMethod yX4_fillGoals, Cond.selects RX4 yX4_fillGoals yX4_fillGoals, Cond.code yX4_fillGoals cX4_fillGoals 5 none, Cond.fieldLink RX4 132 "PaidBySigns$Table" "entry" "[[J", Cond.methodLink RX4 128 yX4_partsOf, Cond.instanceMethod yX4_partsOf, Cond.selects RX4 yX4_partsOf yX4_partsOf, Cond.code yX4_partsOf cX4_partsOf 2 (some .int), Cond.methodLink RX4 99 yX4_fillLines, Cond.instanceMethod yX4_fillLines, Cond.selects RX4 yX4_fillLines yX4_fillLines, Cond.code yX4_fillLines cX4_fillLines 6 none, Cond.fieldLink RX4 70 "PaidBySigns$Hire" "whole" "I", Cond.methodLink RX4 136 yX3_lackOf, Cond.instanceMethod yX3_lackOf, Cond.selects RX3 yX3_lackOf yX3_lackOf, Cond.initialized RX3, Cond.code yX3_lackOf cX3_lackOf 3 (some .int), Cond.fieldLink RX3 15 "PaidBySigns$Hire" "costs" "[I"]
def wsX9_merged_r5 : List Cond := [Cond.fieldLink RX3 42 "PaidBySigns$Hire" "otherwise" "I", Cond.fieldLink RX3 45 "PaidBySigns$Hire" "least" "I", Cond.methodLink RX3 63 yX3_feltOf, Cond.instanceMethod yX3_feltOf, Cond.selects RX3 yX3_feltOf yX3_feltOf, Cond.code yX3_feltOf cX3_feltOf 6 (some .int), Cond.fieldLink RX3 48 "PaidBySigns$Hire" "rates" "I", Cond.fieldLink RX3 26 "PaidBySigns$Hire" "mark" "[I", Cond.methodLink RX3 51 Lib.Math.min.name, Cond.fieldLink RX3 23 "PaidBySigns$Hire" "rate" "[I", Cond.methodLink RX4 102 yX4_fillRooms, Cond.instanceMethod yX4_fillRooms, Cond.selects RX4 yX4_fillRooms yX4_fillRooms, Cond.code yX4_fillRooms cX4_fillRooms 4 none, Cond.methodLink RX4 105 yX8_solve, Cond.instanceMethod yX8_solve, Cond.selects RX8 yX8_solve yX8_solve, Cond.code yX8_solve cX8_solve 4 (some .boolean), Cond.constant RX8 49 (1000000), Cond.methodLink RX8 50 yX8_lineBelowZero, Cond.instanceMethod yX8_lineBelowZero, Cond.selects RX8 yX8_lineBelowZero yX8_lineBelowZero, Cond.code yX8_lineBelowZero cX8_lineBelowZero 3 (some .int), Cond.methodLink RX8 54 yX8_columnFor]
def wsX9_merged_r6 : List Cond := [Cond.instanceMethod yX8_columnFor, Cond.selects RX8 yX8_columnFor yX8_columnFor, Cond.code yX8_columnFor cX8_columnFor 5 (some .int), Cond.methodLink RX8 62 yX8_compareRatios, Cond.instanceMethod yX8_compareRatios, Cond.selects RX8 yX8_compareRatios yX8_compareRatios, Cond.code yX8_compareRatios cX8_compareRatios 13 (some .int), Cond.methodLink RX8 58 yX8_pivot, Cond.instanceMethod yX8_pivot, Cond.selects RX8 yX8_pivot yX8_pivot, Cond.code yX8_pivot cX8_pivot 7 none, Cond.methodLink RX8 66 yX8_changeLine, Cond.instanceMethod yX8_changeLine, Cond.selects RX8 yX8_changeLine yX8_changeLine, Cond.code yX8_changeLine cX8_changeLine 9 none, Cond.methodLink RX4 109 yX4_readWages, Cond.instanceMethod yX4_readWages, Cond.selects RX4 yX4_readWages yX4_readWages, Cond.code yX4_readWages cX4_readWages 3 none, Cond.fieldLink RX4 9 "PaidBySigns$LeastCost" "above" "[J", Cond.constantLong RX4 145 (60), Cond.fieldLink RX4 147 "PaidBySigns$Table" "base" "J", Cond.fieldLink RX4 15 "PaidBySigns$LeastCost" "aboveLower" "J", Cond.fieldLink RX4 150 "PaidBySigns$Table" "goals" "I"]
def wsX9_merged_r7 : List Cond := [Cond.fieldLink RX4 153 "PaidBySigns$Table" "lines" "I", Cond.fieldLink RX4 156 "PaidBySigns$Table" "lineName" "[I", Cond.methodLink RX4 139 yJ7_fill_d0a16, Cond.methodLink RX9 177 yX4_costInto, Cond.instanceMethod yX4_costInto, Cond.selects RX4 yX4_costInto yX4_costInto, Cond.code yX4_costInto cX4_costInto 5 none, Cond.methodLink RX4 73 yX2_become, Cond.instanceMethod yX2_become, Cond.selects RX2 yX2_become yX2_become, Cond.initialized RX2, Cond.code yX2_become cX2_become 7 none, Cond.methodLink RX2 20 Lib.MathLoose.abs_long.x, Cond.static Lib.MathLoose.abs_long.x, Cond.code Lib.MathLoose.abs_long.x Lib.MathLoose.abs_long.code 2 (some .long), Cond.fieldLink RX2 11 "PaidBySigns$Fraction" "upper" "J", Cond.fieldLink RX2 17 "PaidBySigns$Fraction" "lower" "J", Cond.methodLink RX2 26 yX2_commonPart, Cond.static yX2_commonPart, Cond.code yX2_commonPart cX2_commonPart 11 (some .long), Cond.methodLink RX2 30 yX2_forget, Cond.instanceMethod yX2_forget, Cond.selects RX2 yX2_forget yX2_forget, Cond.code yX2_forget cX2_forget 1 none]
def wsX9_merged_r8 : List Cond := [Cond.constantLong RX2 9 (-2000000000), Cond.methodLink RX4 82 yX2_add, Cond.instanceMethod yX2_add, Cond.selects RX2 yX2_add yX2_add, Cond.code yX2_add cX2_add 5 none, Cond.methodLink RX2 33 yX2_become]
def wsX9_merged : List Cond := .code yX9_merged cX9_merged 4 (some .int) :: ((wsX9_merged_r1 ++ (wsX9_merged_r2 ++ (wsX9_merged_r3 ++ (wsX9_merged_r4 ++ (wsX9_merged_r5 ++ (wsX9_merged_r6 ++ (wsX9_merged_r7 ++ wsX9_merged_r8))))))) ++ wsX90 ++ wsX30 ++ wsX40 ++ wsX80 ++ wsX20)
def wsX9_coins_r1 : List Cond := [Cond.fieldLink RX9 68 "PaidBySigns" "coinSearch" "LPaidBySigns$CoinSearch;", Cond.fieldLink RX9 19 "PaidBySigns" "hire" "LPaidBySigns$Hire;", Cond.fieldLink RX9 30 "PaidBySigns" "latest" "LPaidBySigns$Fraction;", Cond.fieldLink RX9 217 "PaidBySigns$CoinSearch" "bestCost" "I", Cond.fieldLink RX9 127 "PaidBySigns$Hire" "whole" "I", Cond.fieldLink RX9 101 "PaidBySigns$Hire" "least" "I", Cond.fieldLink RX9 124 "PaidBySigns$Hire" "signs" "I", Cond.fieldLink RX9 40 "PaidBySigns" "wageUpper" "[J", Cond.fieldLink RX9 220 "PaidBySigns$CoinSearch" "chosen" "[I", Cond.fieldLink RX9 44 "PaidBySigns" "wageLower" "[J", Cond.fieldLink RX9 47 "PaidBySigns" "hasWages" "Z", Cond.methodLink RX9 140 yX9_isWork, Cond.instanceMethod yX9_isWork, Cond.selects RX9 yX9_isWork yX9_isWork, Cond.initialized RX9, Cond.code yX9_isWork cX9_isWork 2 (some .boolean), Cond.fieldLink RX9 115 "PaidBySigns$Hire" "works" "I", Cond.methodLink RX9 213 yX0_find, Cond.instanceMethod yX0_find, Cond.selects RX0 yX0_find yX0_find, Cond.initialized RX0, Cond.code yX0_find cX0_find 5 (some .boolean), Cond.fieldLink RX0 40 "PaidBySigns$Hire" "signs" "I", Cond.fieldLink RX0 45 "PaidBySigns$CoinSearch" "signs" "I"]
def wsX9_coins_r2 : List Cond := [Cond.fieldLink RX0 46 "PaidBySigns$Hire" "works" "I", Cond.fieldLink RX0 49 "PaidBySigns$CoinSearch" "lines" "I", Cond.methodLink RX0 52 Lib.Math.min.name, Cond.static Lib.Math.min.name, Cond.initialized "java/lang/Math", Cond.code Lib.Math.min.name Lib.Math.min.code 2 (some .int), Cond.fieldLink RX0 58 "PaidBySigns$CoinSearch" "most" "I", Cond.constant RX0 15 (1000000), Cond.fieldLink RX0 16 "PaidBySigns$CoinSearch" "bestCost" "I", Cond.fieldLink RX0 23 "PaidBySigns$CoinSearch" "own" "[I", Cond.fieldLink RX0 69 "PaidBySigns$Hire" "chances" "[[I", Cond.methodLink RX0 61 yX0_fillFelt, Cond.instanceMethod yX0_fillFelt, Cond.selects RX0 yX0_fillFelt yX0_fillFelt, Cond.code yX0_fillFelt cX0_fillFelt 4 none, Cond.fieldLink RX0 76 "PaidBySigns$Hire" "least" "I", Cond.fieldLink RX0 20 "PaidBySigns$CoinSearch" "felt" "[I", Cond.methodLink RX0 79 yX3_feltOf, Cond.instanceMethod yX3_feltOf, Cond.selects RX3 yX3_feltOf yX3_feltOf, Cond.initialized RX3, Cond.code yX3_feltOf cX3_feltOf 6 (some .int), Cond.fieldLink RX3 48 "PaidBySigns$Hire" "rates" "I", Cond.fieldLink RX3 26 "PaidBySigns$Hire" "mark" "[I"]
def wsX9_coins_r3 : List Cond := [Cond.methodLink RX3 51 Lib.Math.min.name, Cond.fieldLink RX3 23 "PaidBySigns$Hire" "rate" "[I", Cond.methodLink RX0 65 yX0_fillLine, Cond.instanceMethod yX0_fillLine, Cond.selects RX0 yX0_fillLine yX0_fillLine, Cond.code yX0_fillLine cX0_fillLine 5 none, Cond.fieldLink RX0 34 "PaidBySigns$CoinSearch" "left" "[[I", Cond.fieldLink RX0 83 "PaidBySigns$Hire" "whole" "I", Cond.fieldLink RX0 31 "PaidBySigns$CoinSearch" "rest" "[[I", Cond.fieldLink RX0 28 "PaidBySigns$CoinSearch" "share" "[[I", Cond.methodLink RX0 89 Lib.Math.max.name, Cond.static Lib.Math.max.name, Cond.code Lib.Math.max.name Lib.Math.max.code 2 (some .int), Cond.methodLink RX0 86 yX3_lackOf, Cond.instanceMethod yX3_lackOf, Cond.selects RX3 yX3_lackOf yX3_lackOf, Cond.code yX3_lackOf cX3_lackOf 3 (some .int), Cond.fieldLink RX3 15 "PaidBySigns$Hire" "costs" "[I", Cond.fieldLink RX3 42 "PaidBySigns$Hire" "otherwise" "I", Cond.fieldLink RX3 45 "PaidBySigns$Hire" "least" "I", Cond.methodLink RX3 63 yX3_feltOf, Cond.methodLink RX0 72 yX0_place, Cond.instanceMethod yX0_place, Cond.selects RX0 yX0_place yX0_place]
def wsX9_coins_r4 : List Cond := [Cond.code yX0_place cX0_place 7 none, Cond.fieldLink RX0 37 "PaidBySigns$CoinSearch" "tried" "[I", Cond.fieldLink RX0 9 "PaidBySigns$CoinSearch" "chosen" "[I", Cond.methodLink RX0 92 arraycopyName, Cond.native arraycopyName, Cond.static arraycopyName, Cond.initialized "java/lang/System", Cond.methodLink RX0 98 yX0_lastCoin, Cond.instanceMethod yX0_lastCoin, Cond.selects RX0 yX0_lastCoin yX0_lastCoin, Cond.code yX0_lastCoin cX0_lastCoin 4 (some .int), Cond.methodLink RX0 108 yX0_isShort, Cond.instanceMethod yX0_isShort, Cond.selects RX0 yX0_isShort yX0_isShort, Cond.code yX0_isShort cX0_isShort 4 (some .boolean), Cond.methodLink RX0 101 yX0_firstCoin, Cond.instanceMethod yX0_firstCoin, Cond.selects RX0 yX0_firstCoin yX0_firstCoin, Cond.code yX0_firstCoin cX0_firstCoin 4 (some .int), Cond.methodLink RX0 104 yX0_canBeCheaper, Cond.instanceMethod yX0_canBeCheaper, Cond.selects RX0 yX0_canBeCheaper yX0_canBeCheaper, Cond.code yX0_canBeCheaper cX0_canBeCheaper 9 (some .boolean), Cond.methodLink RX9 190 yX2_become]
def wsX9_coins_r5 : List Cond := [Cond.instanceMethod yX2_become, Cond.selects RX2 yX2_become yX2_become, Cond.initialized RX2, Cond.code yX2_become cX2_become 7 none, Cond.methodLink RX2 20 Lib.MathLoose.abs_long.x, Cond.static Lib.MathLoose.abs_long.x, Cond.code Lib.MathLoose.abs_long.x Lib.MathLoose.abs_long.code 2 (some .long), Cond.fieldLink RX2 11 "PaidBySigns$Fraction" "upper" "J", Cond.fieldLink RX2 17 "PaidBySigns$Fraction" "lower" "J", Cond.methodLink RX2 26 yX2_commonPart, Cond.static yX2_commonPart, Cond.code yX2_commonPart cX2_commonPart 11 (some .long), Cond.methodLink RX2 30 yX2_forget, Cond.instanceMethod yX2_forget, Cond.selects RX2 yX2_forget yX2_forget, Cond.code yX2_forget cX2_forget 1 none, Cond.constantLong RX2 9 (-2000000000)]
def wsX9_coins : List Cond := .code yX9_coins cX9_coins 4 (some .int) :: ((wsX9_coins_r1 ++ (wsX9_coins_r2 ++ (wsX9_coins_r3 ++ (wsX9_coins_r4 ++ wsX9_coins_r5)))) ++ wsX90 ++ wsX00 ++ wsX30 ++ wsX20)
def wsX9_bar_r1 : List Cond := [Cond.fieldLink RX9 19 "PaidBySigns" "hire" "LPaidBySigns$Hire;", Cond.fieldLink RX9 124 "PaidBySigns$Hire" "signs" "I", Cond.fieldLink RX9 61 "PaidBySigns" "oneSum" "LPaidBySigns$OneSum;", Cond.fieldLink RX9 127 "PaidBySigns$Hire" "whole" "I", Cond.fieldLink RX9 34 "PaidBySigns" "trial" "LPaidBySigns$Fraction;", Cond.fieldLink RX9 37 "PaidBySigns" "champion" "LPaidBySigns$Fraction;", Cond.fieldLink RX9 30 "PaidBySigns" "latest" "LPaidBySigns$Fraction;", Cond.methodLink RX9 140 yX9_isWork, Cond.instanceMethod yX9_isWork, Cond.selects RX9 yX9_isWork yX9_isWork, Cond.initialized RX9, Cond.code yX9_isWork cX9_isWork 2 (some .boolean), Cond.fieldLink RX9 115 "PaidBySigns$Hire" "works" "I", Cond.methodLink RX9 223 yX5_settle, Cond.instanceMethod yX5_settle, Cond.selects RX5 yX5_settle yX5_settle, Cond.initialized RX5, Cond.code yX5_settle cX5_settle 9 (some .boolean), Cond.fieldLink RX5 18 "PaidBySigns$Hire" "works" "I", Cond.methodLink RX5 7 yX5_start, Cond.instanceMethod yX5_start, Cond.selects RX5 yX5_start yX5_start, Cond.code yX5_start cX5_start 1 none, Cond.fieldLink RX5 47 "PaidBySigns$OneSum" "lowUpper" "J"]
def wsX9_bar_r2 : List Cond := [Cond.fieldLink RX5 43 "PaidBySigns$OneSum" "lowLower" "J", Cond.fieldLink RX5 65 "PaidBySigns$OneSum" "capUpper" "J", Cond.fieldLink RX5 68 "PaidBySigns$OneSum" "capLower" "J", Cond.fieldLink RX5 71 "PaidBySigns$OneSum" "isBroken" "Z", Cond.methodLink RX5 12 yX3_chanceFrom, Cond.instanceMethod yX3_chanceFrom, Cond.selects RX3 yX3_chanceFrom yX3_chanceFrom, Cond.initialized RX3, Cond.code yX3_chanceFrom cX3_chanceFrom 5 (some .int), Cond.fieldLink RX3 32 "PaidBySigns$Hire" "signs" "I", Cond.fieldLink RX3 9 "PaidBySigns$Hire" "brings" "[I", Cond.fieldLink RX3 20 "PaidBySigns$Hire" "chances" "[[I", Cond.methodLink RX5 22 yX3_lackOf, Cond.instanceMethod yX3_lackOf, Cond.selects RX3 yX3_lackOf yX3_lackOf, Cond.code yX3_lackOf cX3_lackOf 3 (some .int), Cond.fieldLink RX3 15 "PaidBySigns$Hire" "costs" "[I", Cond.fieldLink RX3 42 "PaidBySigns$Hire" "otherwise" "I", Cond.fieldLink RX3 45 "PaidBySigns$Hire" "least" "I", Cond.methodLink RX3 63 yX3_feltOf, Cond.instanceMethod yX3_feltOf, Cond.selects RX3 yX3_feltOf yX3_feltOf, Cond.code yX3_feltOf cX3_feltOf 6 (some .int), Cond.fieldLink RX3 48 "PaidBySigns$Hire" "rates" "I"]
def wsX9_bar_r3 : List Cond := [Cond.fieldLink RX3 26 "PaidBySigns$Hire" "mark" "[I", Cond.methodLink RX3 51 Lib.Math.min.name, Cond.static Lib.Math.min.name, Cond.initialized "java/lang/Math", Cond.code Lib.Math.min.name Lib.Math.min.code 2 (some .int), Cond.fieldLink RX3 23 "PaidBySigns$Hire" "rate" "[I", Cond.methodLink RX5 25 yX5_need, Cond.instanceMethod yX5_need, Cond.selects RX5 yX5_need yX5_need, Cond.code yX5_need cX5_need 5 none, Cond.methodLink RX5 29 yX5_isMet, Cond.instanceMethod yX5_isMet, Cond.selects RX5 yX5_isMet yX5_isMet, Cond.code yX5_isMet cX5_isMet 2 (some .boolean), Cond.methodLink RX9 227 yX3_chanceFrom, Cond.methodLink RX9 231 yX5_meanInto, Cond.instanceMethod yX5_meanInto, Cond.selects RX5 yX5_meanInto yX5_meanInto, Cond.code yX5_meanInto cX5_meanInto 9 none, Cond.fieldLink RX5 36 "PaidBySigns$Hire" "least" "I", Cond.fieldLink RX5 54 "PaidBySigns$Fraction" "upper" "J", Cond.fieldLink RX5 59 "PaidBySigns$Fraction" "lower" "J", Cond.methodLink RX5 39 yX3_feltOf, Cond.methodLink RX5 50 yX3_wageOf]
def wsX9_bar_r4 : List Cond := [Cond.instanceMethod yX3_wageOf, Cond.selects RX3 yX3_wageOf yX3_wageOf, Cond.code yX3_wageOf cX3_wageOf 13 none, Cond.methodLink RX3 57 yX2_become, Cond.instanceMethod yX2_become, Cond.selects RX2 yX2_become yX2_become, Cond.initialized RX2, Cond.code yX2_become cX2_become 7 none, Cond.methodLink RX2 20 Lib.MathLoose.abs_long.x, Cond.static Lib.MathLoose.abs_long.x, Cond.code Lib.MathLoose.abs_long.x Lib.MathLoose.abs_long.code 2 (some .long), Cond.fieldLink RX2 11 "PaidBySigns$Fraction" "upper" "J", Cond.fieldLink RX2 17 "PaidBySigns$Fraction" "lower" "J", Cond.methodLink RX2 26 yX2_commonPart, Cond.static yX2_commonPart, Cond.code yX2_commonPart cX2_commonPart 11 (some .long), Cond.methodLink RX2 30 yX2_forget, Cond.instanceMethod yX2_forget, Cond.selects RX2 yX2_forget yX2_forget, Cond.code yX2_forget cX2_forget 1 none, Cond.constantLong RX2 9 (-2000000000), Cond.methodLink RX5 62 yX2_become, Cond.methodLink RX9 235 yX2_isBelow, Cond.static yX2_isBelow]
def wsX9_bar_r5 : List Cond := [Cond.code yX2_isBelow cX2_isBelow 2 (some .boolean), Cond.methodLink RX9 202 yX2_copy, Cond.instanceMethod yX2_copy, Cond.selects RX2 yX2_copy yX2_copy, Cond.code yX2_copy cX2_copy 2 none]
def wsX9_bar : List Cond := .code yX9_bar cX9_bar 4 (some .int) :: ((wsX9_bar_r1 ++ (wsX9_bar_r2 ++ (wsX9_bar_r3 ++ (wsX9_bar_r4 ++ wsX9_bar_r5)))) ++ wsX90 ++ wsX30 ++ wsX50 ++ wsX20)
def wsX9_crew_r1 : List Cond := [Cond.fieldLink RX9 19 "PaidBySigns" "hire" "LPaidBySigns$Hire;", Cond.fieldLink RX9 127 "PaidBySigns$Hire" "whole" "I", Cond.fieldLink RX9 61 "PaidBySigns" "oneSum" "LPaidBySigns$OneSum;", Cond.fieldLink RX9 30 "PaidBySigns" "latest" "LPaidBySigns$Fraction;", Cond.methodLink RX9 140 yX9_isWork, Cond.instanceMethod yX9_isWork, Cond.selects RX9 yX9_isWork yX9_isWork, Cond.initialized RX9, Cond.code yX9_isWork cX9_isWork 2 (some .boolean), Cond.fieldLink RX9 115 "PaidBySigns$Hire" "works" "I", Cond.methodLink RX9 144 yX9_isSign, Cond.instanceMethod yX9_isSign, Cond.selects RX9 yX9_isSign yX9_isSign, Cond.code yX9_isSign cX9_isSign 2 (some .boolean), Cond.fieldLink RX9 124 "PaidBySigns$Hire" "signs" "I", Cond.methodLink RX9 227 yX3_chanceFrom, Cond.instanceMethod yX3_chanceFrom, Cond.selects RX3 yX3_chanceFrom yX3_chanceFrom, Cond.initialized RX3, Cond.code yX3_chanceFrom cX3_chanceFrom 5 (some .int), Cond.fieldLink RX3 32 "PaidBySigns$Hire" "signs" "I", Cond.fieldLink RX3 9 "PaidBySigns$Hire" "brings" "[I", Cond.fieldLink RX3 20 "PaidBySigns$Hire" "chances" "[[I", Cond.methodLink RX9 223 yX5_settle]
def wsX9_crew_r2 : List Cond := [Cond.instanceMethod yX5_settle, Cond.selects RX5 yX5_settle yX5_settle, Cond.initialized RX5, Cond.code yX5_settle cX5_settle 9 (some .boolean), Cond.fieldLink RX5 18 "PaidBySigns$Hire" "works" "I", Cond.methodLink RX5 7 yX5_start, Cond.instanceMethod yX5_start, Cond.selects RX5 yX5_start yX5_start, Cond.code yX5_start cX5_start 1 none, Cond.fieldLink RX5 47 "PaidBySigns$OneSum" "lowUpper" "J", Cond.fieldLink RX5 43 "PaidBySigns$OneSum" "lowLower" "J", Cond.fieldLink RX5 65 "PaidBySigns$OneSum" "capUpper" "J", Cond.fieldLink RX5 68 "PaidBySigns$OneSum" "capLower" "J", Cond.fieldLink RX5 71 "PaidBySigns$OneSum" "isBroken" "Z", Cond.methodLink RX5 12 yX3_chanceFrom, Cond.methodLink RX5 22 yX3_lackOf, Cond.instanceMethod yX3_lackOf, Cond.selects RX3 yX3_lackOf yX3_lackOf, Cond.code yX3_lackOf cX3_lackOf 3 (some .int), Cond.fieldLink RX3 15 "PaidBySigns$Hire" "costs" "[I", Cond.fieldLink RX3 42 "PaidBySigns$Hire" "otherwise" "I", Cond.fieldLink RX3 45 "PaidBySigns$Hire" "least" "I", Cond.methodLink RX3 63 yX3_feltOf, Cond.instanceMethod yX3_feltOf]
def wsX9_crew_r3 : List Cond := [Cond.selects RX3 yX3_feltOf yX3_feltOf, Cond.code yX3_feltOf cX3_feltOf 6 (some .int), Cond.fieldLink RX3 48 "PaidBySigns$Hire" "rates" "I", Cond.fieldLink RX3 26 "PaidBySigns$Hire" "mark" "[I", Cond.methodLink RX3 51 Lib.Math.min.name, Cond.static Lib.Math.min.name, Cond.initialized "java/lang/Math", Cond.code Lib.Math.min.name Lib.Math.min.code 2 (some .int), Cond.fieldLink RX3 23 "PaidBySigns$Hire" "rate" "[I", Cond.methodLink RX5 25 yX5_need, Cond.instanceMethod yX5_need, Cond.selects RX5 yX5_need yX5_need, Cond.code yX5_need cX5_need 5 none, Cond.methodLink RX5 29 yX5_isMet, Cond.instanceMethod yX5_isMet, Cond.selects RX5 yX5_isMet yX5_isMet, Cond.code yX5_isMet cX5_isMet 2 (some .boolean), Cond.methodLink RX9 231 yX5_meanInto, Cond.instanceMethod yX5_meanInto, Cond.selects RX5 yX5_meanInto yX5_meanInto, Cond.code yX5_meanInto cX5_meanInto 9 none, Cond.fieldLink RX5 36 "PaidBySigns$Hire" "least" "I", Cond.fieldLink RX5 54 "PaidBySigns$Fraction" "upper" "J", Cond.fieldLink RX5 59 "PaidBySigns$Fraction" "lower" "J"]
def wsX9_crew_r4 : List Cond := [Cond.methodLink RX5 39 yX3_feltOf, Cond.methodLink RX5 50 yX3_wageOf, Cond.instanceMethod yX3_wageOf, Cond.selects RX3 yX3_wageOf yX3_wageOf, Cond.code yX3_wageOf cX3_wageOf 13 none, Cond.methodLink RX3 57 yX2_become, Cond.instanceMethod yX2_become, Cond.selects RX2 yX2_become yX2_become, Cond.initialized RX2, Cond.code yX2_become cX2_become 7 none, Cond.methodLink RX2 20 Lib.MathLoose.abs_long.x, Cond.static Lib.MathLoose.abs_long.x, Cond.code Lib.MathLoose.abs_long.x Lib.MathLoose.abs_long.code 2 (some .long), Cond.fieldLink RX2 11 "PaidBySigns$Fraction" "upper" "J", Cond.fieldLink RX2 17 "PaidBySigns$Fraction" "lower" "J", Cond.methodLink RX2 26 yX2_commonPart, Cond.static yX2_commonPart, Cond.code yX2_commonPart cX2_commonPart 11 (some .long), Cond.methodLink RX2 30 yX2_forget, Cond.instanceMethod yX2_forget, Cond.selects RX2 yX2_forget yX2_forget, Cond.code yX2_forget cX2_forget 1 none, Cond.constantLong RX2 9 (-2000000000), Cond.methodLink RX5 62 yX2_become]
def wsX9_crew : List Cond := .code yX9_crew cX9_crew 5 (some .int) :: ((wsX9_crew_r1 ++ (wsX9_crew_r2 ++ (wsX9_crew_r3 ++ wsX9_crew_r4))) ++ wsX90 ++ wsX30 ++ wsX50 ++ wsX20)
def wsX9_watch_r1 : List Cond := [Cond.fieldLink RX9 19 "PaidBySigns" "hire" "LPaidBySigns$Hire;", Cond.fieldLink RX9 127 "PaidBySigns$Hire" "whole" "I", Cond.fieldLink RX9 61 "PaidBySigns" "oneSum" "LPaidBySigns$OneSum;", Cond.fieldLink RX9 34 "PaidBySigns" "trial" "LPaidBySigns$Fraction;", Cond.fieldLink RX9 37 "PaidBySigns" "champion" "LPaidBySigns$Fraction;", Cond.fieldLink RX9 30 "PaidBySigns" "latest" "LPaidBySigns$Fraction;", Cond.methodLink RX9 140 yX9_isWork, Cond.instanceMethod yX9_isWork, Cond.selects RX9 yX9_isWork yX9_isWork, Cond.initialized RX9, Cond.code yX9_isWork cX9_isWork 2 (some .boolean), Cond.fieldLink RX9 115 "PaidBySigns$Hire" "works" "I", Cond.methodLink RX9 239 yX5_settleWatched, Cond.instanceMethod yX5_settleWatched, Cond.selects RX5 yX5_settleWatched yX5_settleWatched, Cond.initialized RX5, Cond.code yX5_settleWatched cX5_settleWatched 5 (some .boolean), Cond.fieldLink RX5 18 "PaidBySigns$Hire" "works" "I", Cond.fieldLink RX5 33 "PaidBySigns$Hire" "whole" "I", Cond.methodLink RX5 7 yX5_start, Cond.instanceMethod yX5_start, Cond.selects RX5 yX5_start yX5_start, Cond.code yX5_start cX5_start 1 none, Cond.fieldLink RX5 47 "PaidBySigns$OneSum" "lowUpper" "J"]
def wsX9_watch_r2 : List Cond := [Cond.fieldLink RX5 43 "PaidBySigns$OneSum" "lowLower" "J", Cond.fieldLink RX5 65 "PaidBySigns$OneSum" "capUpper" "J", Cond.fieldLink RX5 68 "PaidBySigns$OneSum" "capLower" "J", Cond.fieldLink RX5 71 "PaidBySigns$OneSum" "isBroken" "Z", Cond.methodLink RX5 22 yX3_lackOf, Cond.instanceMethod yX3_lackOf, Cond.selects RX3 yX3_lackOf yX3_lackOf, Cond.initialized RX3, Cond.code yX3_lackOf cX3_lackOf 3 (some .int), Cond.fieldLink RX3 15 "PaidBySigns$Hire" "costs" "[I", Cond.fieldLink RX3 42 "PaidBySigns$Hire" "otherwise" "I", Cond.fieldLink RX3 45 "PaidBySigns$Hire" "least" "I", Cond.methodLink RX3 63 yX3_feltOf, Cond.instanceMethod yX3_feltOf, Cond.selects RX3 yX3_feltOf yX3_feltOf, Cond.code yX3_feltOf cX3_feltOf 6 (some .int), Cond.fieldLink RX3 48 "PaidBySigns$Hire" "rates" "I", Cond.fieldLink RX3 26 "PaidBySigns$Hire" "mark" "[I", Cond.methodLink RX3 51 Lib.Math.min.name, Cond.static Lib.Math.min.name, Cond.initialized "java/lang/Math", Cond.code Lib.Math.min.name Lib.Math.min.code 2 (some .int), Cond.fieldLink RX3 23 "PaidBySigns$Hire" "rate" "[I", Cond.methodLink RX5 25 yX5_need]
def wsX9_watch_r3 : List Cond := [Cond.instanceMethod yX5_need, Cond.selects RX5 yX5_need yX5_need, Cond.code yX5_need cX5_need 5 none, Cond.methodLink RX5 29 yX5_isMet, Cond.instanceMethod yX5_isMet, Cond.selects RX5 yX5_isMet yX5_isMet, Cond.code yX5_isMet cX5_isMet 2 (some .boolean), Cond.methodLink RX9 231 yX5_meanInto, Cond.instanceMethod yX5_meanInto, Cond.selects RX5 yX5_meanInto yX5_meanInto, Cond.code yX5_meanInto cX5_meanInto 9 none, Cond.fieldLink RX5 36 "PaidBySigns$Hire" "least" "I", Cond.fieldLink RX5 54 "PaidBySigns$Fraction" "upper" "J", Cond.fieldLink RX5 59 "PaidBySigns$Fraction" "lower" "J", Cond.methodLink RX5 39 yX3_feltOf, Cond.methodLink RX5 50 yX3_wageOf, Cond.instanceMethod yX3_wageOf, Cond.selects RX3 yX3_wageOf yX3_wageOf, Cond.code yX3_wageOf cX3_wageOf 13 none, Cond.methodLink RX3 57 yX2_become, Cond.instanceMethod yX2_become, Cond.selects RX2 yX2_become yX2_become, Cond.initialized RX2, Cond.code yX2_become cX2_become 7 none]
def wsX9_watch_r4 : List Cond := [Cond.methodLink RX2 20 Lib.MathLoose.abs_long.x, Cond.static Lib.MathLoose.abs_long.x, Cond.code Lib.MathLoose.abs_long.x Lib.MathLoose.abs_long.code 2 (some .long), Cond.fieldLink RX2 11 "PaidBySigns$Fraction" "upper" "J", Cond.fieldLink RX2 17 "PaidBySigns$Fraction" "lower" "J", Cond.methodLink RX2 26 yX2_commonPart, Cond.static yX2_commonPart, Cond.code yX2_commonPart cX2_commonPart 11 (some .long), Cond.methodLink RX2 30 yX2_forget, Cond.instanceMethod yX2_forget, Cond.selects RX2 yX2_forget yX2_forget, Cond.code yX2_forget cX2_forget 1 none, Cond.constantLong RX2 9 (-2000000000), Cond.methodLink RX5 62 yX2_become, Cond.methodLink RX9 242 yX2_add, Cond.instanceMethod yX2_add, Cond.selects RX2 yX2_add yX2_add, Cond.code yX2_add cX2_add 5 none, Cond.methodLink RX2 33 yX2_become, Cond.methodLink RX9 235 yX2_isBelow, Cond.static yX2_isBelow, Cond.code yX2_isBelow cX2_isBelow 2 (some .boolean), Cond.methodLink RX9 202 yX2_copy, Cond.instanceMethod yX2_copy]
def wsX9_watch_r5 : List Cond := [Cond.selects RX2 yX2_copy yX2_copy, Cond.code yX2_copy cX2_copy 2 none]
def wsX9_watch : List Cond := .code yX9_watch cX9_watch 5 (some .int) :: ((wsX9_watch_r1 ++ (wsX9_watch_r2 ++ (wsX9_watch_r3 ++ (wsX9_watch_r4 ++ wsX9_watch_r5)))) ++ wsX90 ++ wsX30 ++ wsX50 ++ wsX20)
def wsX9_press : List Cond := .code yX9_press cX9_press 3 (some .int) :: ([.fieldLink RX9 75 "PaidBySigns" "proofs" "LPaidBySigns$Proofs;", .methodLink RX9 140 yX9_isWork, .instanceMethod yX9_isWork, .selects RX9 yX9_isWork yX9_isWork, .initialized RX9, .code yX9_isWork cX9_isWork 2 (some .boolean), .fieldLink RX9 19 "PaidBySigns" "hire" "LPaidBySigns$Hire;", .fieldLink RX9 115 "PaidBySigns$Hire" "works" "I", .methodLink RX9 245 yX6_changeElse, .instanceMethod yX6_changeElse, .selects RX6 yX6_changeElse yX6_changeElse, .initialized RX6, .code yX6_changeElse cX6_changeElse 3 (some .int), .fieldLink RX6 19 "PaidBySigns$Proofs" "pressOfElse" "I", .methodLink RX9 248 yX6_changePress, .instanceMethod yX6_changePress, .selects RX6 yX6_changePress yX6_changePress, .code yX6_changePress cX6_changePress 4 (some .int), .fieldLink RX6 15 "PaidBySigns$Proofs" "press" "[I"] ++ wsX90 ++ wsX30 ++ wsX60)
def wsX9_by : List Cond := .code yX9_by cX9_by 3 (some .int) :: ([.fieldLink RX9 75 "PaidBySigns" "proofs" "LPaidBySigns$Proofs;", .fieldLink RX9 251 "PaidBySigns$Proofs" "lowerNumber" "I"] ++ wsX90 ++ wsX60)
def wsX9_proves_r1 : List Cond := [Cond.fieldLink RX9 75 "PaidBySigns" "proofs" "LPaidBySigns$Proofs;", Cond.fieldLink RX9 30 "PaidBySigns" "latest" "LPaidBySigns$Fraction;", Cond.fieldLink RX9 19 "PaidBySigns" "hire" "LPaidBySigns$Hire;", Cond.methodLink RX9 140 yX9_isWork, Cond.instanceMethod yX9_isWork, Cond.selects RX9 yX9_isWork yX9_isWork, Cond.initialized RX9, Cond.code yX9_isWork cX9_isWork 2 (some .boolean), Cond.fieldLink RX9 115 "PaidBySigns$Hire" "works" "I", Cond.methodLink RX9 254 yX6_boundInto, Cond.instanceMethod yX6_boundInto, Cond.selects RX6 yX6_boundInto yX6_boundInto, Cond.initialized RX6, Cond.code yX6_boundInto cX6_boundInto 11 (some .boolean), Cond.fieldLink RX6 19 "PaidBySigns$Proofs" "pressOfElse" "I", Cond.fieldLink RX6 31 "PaidBySigns$Hire" "costs" "[I", Cond.fieldLink RX6 36 "PaidBySigns$Hire" "otherwise" "I", Cond.fieldLink RX6 39 "PaidBySigns$Hire" "works" "I", Cond.fieldLink RX6 15 "PaidBySigns$Proofs" "press" "[I", Cond.fieldLink RX6 42 "PaidBySigns$Hire" "whole" "I", Cond.fieldLink RX6 45 "PaidBySigns$Hire" "signs" "I", Cond.fieldLink RX6 48 "PaidBySigns$Hire" "chances" "[[I", Cond.fieldLink RX6 9 "PaidBySigns$Proofs" "lowerNumber" "I", Cond.fieldLink RX6 56 "PaidBySigns$Hire" "rate" "[I"]
def wsX9_proves_r2 : List Cond := [Cond.fieldLink RX6 59 "PaidBySigns$Hire" "rates" "I", Cond.methodLink RX6 52 yX6_pressedAt, Cond.instanceMethod yX6_pressedAt, Cond.selects RX6 yX6_pressedAt yX6_pressedAt, Cond.code yX6_pressedAt cX6_pressedAt 7 (some .long), Cond.methodLink RX6 62 yX6_leastOf, Cond.static yX6_leastOf, Cond.code yX6_leastOf cX6_leastOf 9 (some .long), Cond.fieldLink RX6 72 "PaidBySigns$Hire" "least" "I", Cond.fieldLink RX6 79 "PaidBySigns$Hire" "mark" "[I", Cond.methodLink RX6 82 Lib.MathLoose.min_long.x, Cond.static Lib.MathLoose.min_long.x, Cond.initialized "java/lang/Math", Cond.code Lib.MathLoose.min_long.x Lib.MathLoose.min_long.code 4 (some .long), Cond.methodLink RX6 75 yX3_feltOf, Cond.instanceMethod yX3_feltOf, Cond.selects RX3 yX3_feltOf yX3_feltOf, Cond.initialized RX3, Cond.code yX3_feltOf cX3_feltOf 6 (some .int), Cond.fieldLink RX3 48 "PaidBySigns$Hire" "rates" "I", Cond.fieldLink RX3 26 "PaidBySigns$Hire" "mark" "[I", Cond.methodLink RX3 51 Lib.Math.min.name, Cond.static Lib.Math.min.name, Cond.code Lib.Math.min.name Lib.Math.min.code 2 (some .int)]
def wsX9_proves_r3 : List Cond := [Cond.fieldLink RX3 23 "PaidBySigns$Hire" "rate" "[I", Cond.methodLink RX6 66 yX2_become, Cond.instanceMethod yX2_become, Cond.selects RX2 yX2_become yX2_become, Cond.initialized RX2, Cond.code yX2_become cX2_become 7 none, Cond.methodLink RX2 20 Lib.MathLoose.abs_long.x, Cond.static Lib.MathLoose.abs_long.x, Cond.code Lib.MathLoose.abs_long.x Lib.MathLoose.abs_long.code 2 (some .long), Cond.fieldLink RX2 11 "PaidBySigns$Fraction" "upper" "J", Cond.fieldLink RX2 17 "PaidBySigns$Fraction" "lower" "J", Cond.methodLink RX2 26 yX2_commonPart, Cond.static yX2_commonPart, Cond.code yX2_commonPart cX2_commonPart 11 (some .long), Cond.methodLink RX2 30 yX2_forget, Cond.instanceMethod yX2_forget, Cond.selects RX2 yX2_forget yX2_forget, Cond.code yX2_forget cX2_forget 1 none, Cond.constantLong RX2 9 (-2000000000)]
def wsX9_proves : List Cond := .code yX9_proves cX9_proves 2 (some .int) :: ((wsX9_proves_r1 ++ (wsX9_proves_r2 ++ wsX9_proves_r3)) ++ wsX90 ++ wsX30 ++ wsX60 ++ wsX20)
def wsX9_mix : List Cond := .code yX9_mix cX9_mix 3 (some .int) :: ([.fieldLink RX9 75 "PaidBySigns" "proofs" "LPaidBySigns$Proofs;", .methodLink RX9 140 yX9_isWork, .instanceMethod yX9_isWork, .selects RX9 yX9_isWork yX9_isWork, .initialized RX9, .code yX9_isWork cX9_isWork 2 (some .boolean), .fieldLink RX9 19 "PaidBySigns" "hire" "LPaidBySigns$Hire;", .fieldLink RX9 115 "PaidBySigns$Hire" "works" "I", .methodLink RX9 258 yX6_changeMix, .instanceMethod yX6_changeMix, .selects RX6 yX6_changeMix yX6_changeMix, .initialized RX6, .code yX6_changeMix cX6_changeMix 4 (some .int), .fieldLink RX6 22 "PaidBySigns$Proofs" "mixed" "[I"] ++ wsX90 ++ wsX30 ++ wsX60)
def wsX9_same : List Cond := .code yX9_same cX9_same 2 (some .int) :: ([.fieldLink RX9 75 "PaidBySigns" "proofs" "LPaidBySigns$Proofs;", .fieldLink RX9 19 "PaidBySigns" "hire" "LPaidBySigns$Hire;", .methodLink RX9 140 yX9_isWork, .instanceMethod yX9_isWork, .selects RX9 yX9_isWork yX9_isWork, .initialized RX9, .code yX9_isWork cX9_isWork 2 (some .boolean), .fieldLink RX9 115 "PaidBySigns$Hire" "works" "I", .methodLink RX9 261 yX6_isRuledOut, .instanceMethod yX6_isRuledOut, .selects RX6 yX6_isRuledOut yX6_isRuledOut, .initialized RX6, .code yX6_isRuledOut cX6_isRuledOut 6 (some .boolean), .fieldLink RX6 39 "PaidBySigns$Hire" "works" "I", .fieldLink RX6 22 "PaidBySigns$Proofs" "mixed" "[I", .fieldLink RX6 31 "PaidBySigns$Hire" "costs" "[I", .fieldLink RX6 45 "PaidBySigns$Hire" "signs" "I", .fieldLink RX6 48 "PaidBySigns$Hire" "chances" "[[I", .methodLink RX6 88 yX6_mixedChance, .instanceMethod yX6_mixedChance, .selects RX6 yX6_mixedChance yX6_mixedChance, .code yX6_mixedChance cX6_mixedChance 6 (some .int)] ++ wsX90 ++ wsX30 ++ wsX60)
def wsX9_edge_r1 : List Cond := [Cond.fieldLink RX9 19 "PaidBySigns" "hire" "LPaidBySigns$Hire;", Cond.fieldLink RX9 147 "PaidBySigns$Hire" "chances" "[[I", Cond.fieldLink RX9 127 "PaidBySigns$Hire" "whole" "I", Cond.methodLink RX9 264 Lib.Math.min.name, Cond.static Lib.Math.min.name, Cond.initialized "java/lang/Math", Cond.code Lib.Math.min.name Lib.Math.min.code 2 (some .int), Cond.methodLink RX9 140 yX9_isWork, Cond.instanceMethod yX9_isWork, Cond.selects RX9 yX9_isWork yX9_isWork, Cond.initialized RX9, Cond.code yX9_isWork cX9_isWork 2 (some .boolean), Cond.fieldLink RX9 115 "PaidBySigns$Hire" "works" "I", Cond.methodLink RX9 205 yX9_isPair, Cond.instanceMethod yX9_isPair, Cond.selects RX9 yX9_isPair yX9_isPair, Cond.code yX9_isPair cX9_isPair 3 (some .boolean), Cond.methodLink RX9 144 yX9_isSign, Cond.instanceMethod yX9_isSign, Cond.selects RX9 yX9_isSign yX9_isSign, Cond.code yX9_isSign cX9_isSign 2 (some .boolean), Cond.fieldLink RX9 124 "PaidBySigns$Hire" "signs" "I", Cond.methodLink RX9 198 yX9_bestWork, Cond.instanceMethod yX9_bestWork]
def wsX9_edge_r2 : List Cond := [Cond.selects RX9 yX9_bestWork yX9_bestWork, Cond.code yX9_bestWork cX9_bestWork 3 (some .int), Cond.fieldLink RX9 54 "PaidBySigns" "cheapest" "LPaidBySigns$LeastCost;", Cond.fieldLink RX9 34 "PaidBySigns" "trial" "LPaidBySigns$Fraction;", Cond.fieldLink RX9 166 "PaidBySigns$Fraction" "upper" "J", Cond.fieldLink RX9 170 "PaidBySigns$Fraction" "lower" "J", Cond.fieldLink RX9 37 "PaidBySigns" "champion" "LPaidBySigns$Fraction;", Cond.methodLink RX9 307 yX4_findCost, Cond.instanceMethod yX4_findCost, Cond.selects RX4 yX4_findCost yX4_findCost, Cond.initialized RX4, Cond.code yX4_findCost cX4_findCost 3 (some .boolean), Cond.methodLink RX4 59 yX4_find, Cond.instanceMethod yX4_find, Cond.selects RX4 yX4_find yX4_find, Cond.code yX4_find cX4_find 6 (some .boolean), Cond.fieldLink RX4 46 "PaidBySigns$LeastCost" "hire" "LPaidBySigns$Hire;", Cond.fieldLink RX4 50 "PaidBySigns$LeastCost" "work" "I", Cond.fieldLink RX4 53 "PaidBySigns$LeastCost" "keptSign" "I", Cond.fieldLink RX4 56 "PaidBySigns$LeastCost" "joinedSign" "I", Cond.fieldLink RX4 22 "PaidBySigns$LeastCost" "table" "LPaidBySigns$Table;", Cond.fieldLink RX4 88 "PaidBySigns$Hire" "works" "I", Cond.fieldLink RX4 40 "PaidBySigns$LeastCost" "rooms" "I", Cond.fieldLink RX4 36 "PaidBySigns$LeastCost" "columns" "I"]
def wsX9_edge_r3 : List Cond := [Cond.methodLink RX4 85 yX4_listColumns, Cond.instanceMethod yX4_listColumns, Cond.selects RX4 yX4_listColumns yX4_listColumns, Cond.code yX4_listColumns cX4_listColumns 2 none, Cond.fieldLink RX4 63 "PaidBySigns$Hire" "signs" "I", Cond.methodLink RX4 66 yX4_chanceOf, Cond.instanceMethod yX4_chanceOf, Cond.selects RX4 yX4_chanceOf yX4_chanceOf, Cond.code yX4_chanceOf cX4_chanceOf 3 (some .int), Cond.fieldLink RX4 112 "PaidBySigns$Hire" "chances" "[[I", Cond.methodLink RX4 116 yX4_listSteps, Cond.instanceMethod yX4_listSteps, Cond.selects RX4 yX4_listSteps yX4_listSteps, Cond.code yX4_listSteps cX4_listSteps 5 none, Cond.fieldLink RX4 79 "PaidBySigns$Hire" "least" "I", Cond.fieldLink RX4 119 "PaidBySigns$Hire" "rates" "I", Cond.fieldLink RX4 122 "PaidBySigns$Hire" "mark" "[I", Cond.fieldLink RX4 26 "PaidBySigns$LeastCost" "columnSign" "[I", Cond.fieldLink RX4 30 "PaidBySigns$LeastCost" "columnRate" "[I", Cond.fieldLink RX4 125 "PaidBySigns$Hire" "rate" "[I", Cond.fieldLink RX4 33 "PaidBySigns$LeastCost" "columnRoom" "[I", Cond.methodLink RX4 91 yX8_start, Cond.instanceMethod yX8_start, Cond.selects RX8 yX8_start yX8_start]
def wsX9_edge_r4 : List Cond := [Cond.initialized RX8, Cond.code yX8_start cX8_start 5 none, Cond.methodLink RX8 23 Lib.Math.min.name, Cond.fieldLink RX8 29 "PaidBySigns$Table" "goals" "I", Cond.fieldLink RX8 33 "PaidBySigns$Table" "lines" "I", Cond.fieldLink RX8 36 "PaidBySigns$Table" "columns" "I", Cond.fieldLink RX8 39 "PaidBySigns$Table" "base" "J", Cond.fieldLink RX8 13 "PaidBySigns$Table" "entry" "[[J", Cond.fieldLink RX8 16 "PaidBySigns$Table" "lineName" "[I", Cond.fieldLink RX8 20 "PaidBySigns$Table" "columnName" "[I", Cond.methodLink RX8 43 yJ7_fill_d0a16, Cond.static yJ7_fill_d0a16, Cond.initialized RJ7, Cond.code yJ7_fill_d0a16 cJ7_fill_d0a16 5 none, Cond.methodLink RX4 95 yX4_fillGoals, Cond.instanceMethod yX4_fillGoals, Cond.selects RX4 yX4_fillGoals yX4_fillGoals, Cond.code yX4_fillGoals cX4_fillGoals 5 none, Cond.fieldLink RX4 132 "PaidBySigns$Table" "entry" "[[J", Cond.methodLink RX4 128 yX4_partsOf, Cond.instanceMethod yX4_partsOf, Cond.selects RX4 yX4_partsOf yX4_partsOf, Cond.code yX4_partsOf cX4_partsOf 2 (some .int), Cond.methodLink RX4 99 yX4_fillLines]
def wsX9_edge_r5 : List Cond := [Cond.instanceMethod yX4_fillLines, Cond.selects RX4 yX4_fillLines yX4_fillLines, Cond.code yX4_fillLines cX4_fillLines 6 none, Cond.fieldLink RX4 70 "PaidBySigns$Hire" "whole" "I", Cond.methodLink RX4 136 yX3_lackOf, Cond.instanceMethod yX3_lackOf, Cond.selects RX3 yX3_lackOf yX3_lackOf, Cond.initialized RX3, Cond.code yX3_lackOf cX3_lackOf 3 (some .int), Cond.fieldLink RX3 15 "PaidBySigns$Hire" "costs" "[I", Cond.fieldLink RX3 42 "PaidBySigns$Hire" "otherwise" "I", Cond.fieldLink RX3 45 "PaidBySigns$Hire" "least" "I", Cond.methodLink RX3 63 yX3_feltOf, Cond.instanceMethod yX3_feltOf, Cond.selects RX3 yX3_feltOf yX3_feltOf, Cond.code yX3_feltOf cX3_feltOf 6 (some .int), Cond.fieldLink RX3 48 "PaidBySigns$Hire" "rates" "I", Cond.fieldLink RX3 26 "PaidBySigns$Hire" "mark" "[I", Cond.methodLink RX3 51 Lib.Math.min.name, Cond.fieldLink RX3 23 "PaidBySigns$Hire" "rate" "[I", Cond.methodLink RX4 102 yX4_fillRooms, Cond.instanceMethod yX4_fillRooms, Cond.selects RX4 yX4_fillRooms yX4_fillRooms, Cond.code yX4_fillRooms cX4_fillRooms 4 none]
def wsX9_edge_r6 : List Cond := [Cond.methodLink RX4 105 yX8_solve, Cond.instanceMethod yX8_solve, Cond.selects RX8 yX8_solve yX8_solve, Cond.code yX8_solve cX8_solve 4 (some .boolean), Cond.constant RX8 49 (1000000), Cond.methodLink RX8 50 yX8_lineBelowZero, Cond.instanceMethod yX8_lineBelowZero, Cond.selects RX8 yX8_lineBelowZero yX8_lineBelowZero, Cond.code yX8_lineBelowZero cX8_lineBelowZero 3 (some .int), Cond.methodLink RX8 54 yX8_columnFor, Cond.instanceMethod yX8_columnFor, Cond.selects RX8 yX8_columnFor yX8_columnFor, Cond.code yX8_columnFor cX8_columnFor 5 (some .int), Cond.methodLink RX8 62 yX8_compareRatios, Cond.instanceMethod yX8_compareRatios, Cond.selects RX8 yX8_compareRatios yX8_compareRatios, Cond.code yX8_compareRatios cX8_compareRatios 13 (some .int), Cond.methodLink RX8 58 yX8_pivot, Cond.instanceMethod yX8_pivot, Cond.selects RX8 yX8_pivot yX8_pivot, Cond.code yX8_pivot cX8_pivot 7 none, Cond.methodLink RX8 66 yX8_changeLine, Cond.instanceMethod yX8_changeLine, Cond.selects RX8 yX8_changeLine yX8_changeLine]
def wsX9_edge_r7 : List Cond := [Cond.code yX8_changeLine cX8_changeLine 9 none, Cond.methodLink RX4 109 yX4_readWages, Cond.instanceMethod yX4_readWages, Cond.selects RX4 yX4_readWages yX4_readWages, Cond.code yX4_readWages cX4_readWages 3 none, Cond.fieldLink RX4 9 "PaidBySigns$LeastCost" "above" "[J", Cond.constantLong RX4 145 (60), Cond.fieldLink RX4 147 "PaidBySigns$Table" "base" "J", Cond.fieldLink RX4 15 "PaidBySigns$LeastCost" "aboveLower" "J", Cond.fieldLink RX4 150 "PaidBySigns$Table" "goals" "I", Cond.fieldLink RX4 153 "PaidBySigns$Table" "lines" "I", Cond.fieldLink RX4 156 "PaidBySigns$Table" "lineName" "[I", Cond.methodLink RX4 139 yJ7_fill_d0a16, Cond.methodLink RX9 177 yX4_costInto, Cond.instanceMethod yX4_costInto, Cond.selects RX4 yX4_costInto yX4_costInto, Cond.code yX4_costInto cX4_costInto 5 none, Cond.methodLink RX4 73 yX2_become, Cond.instanceMethod yX2_become, Cond.selects RX2 yX2_become yX2_become, Cond.initialized RX2, Cond.code yX2_become cX2_become 7 none, Cond.methodLink RX2 20 Lib.MathLoose.abs_long.x, Cond.static Lib.MathLoose.abs_long.x]
def wsX9_edge_r8 : List Cond := [Cond.code Lib.MathLoose.abs_long.x Lib.MathLoose.abs_long.code 2 (some .long), Cond.fieldLink RX2 11 "PaidBySigns$Fraction" "upper" "J", Cond.fieldLink RX2 17 "PaidBySigns$Fraction" "lower" "J", Cond.methodLink RX2 26 yX2_commonPart, Cond.static yX2_commonPart, Cond.code yX2_commonPart cX2_commonPart 11 (some .long), Cond.methodLink RX2 30 yX2_forget, Cond.instanceMethod yX2_forget, Cond.selects RX2 yX2_forget yX2_forget, Cond.code yX2_forget cX2_forget 1 none, Cond.constantLong RX2 9 (-2000000000), Cond.methodLink RX4 82 yX2_add, Cond.instanceMethod yX2_add, Cond.selects RX2 yX2_add yX2_add, Cond.code yX2_add cX2_add 5 none, Cond.methodLink RX2 33 yX2_become, Cond.methodLink RX9 190 yX2_become, Cond.methodLink RX9 310 yX3_broughtBy, Cond.instanceMethod yX3_broughtBy, Cond.selects RX3 yX3_broughtBy yX3_broughtBy, Cond.code yX3_broughtBy cX3_broughtBy 4 (some .int), Cond.fieldLink RX3 32 "PaidBySigns$Hire" "signs" "I", Cond.fieldLink RX3 20 "PaidBySigns$Hire" "chances" "[[I", Cond.fieldLink RX3 9 "PaidBySigns$Hire" "brings" "[I"]
def wsX9_edge_r9 : List Cond := [Cond.methodLink RX9 242 yX2_add, Cond.methodLink RX9 235 yX2_isBelow, Cond.static yX2_isBelow, Cond.code yX2_isBelow cX2_isBelow 2 (some .boolean), Cond.methodLink RX9 202 yX2_copy, Cond.instanceMethod yX2_copy, Cond.selects RX2 yX2_copy yX2_copy, Cond.code yX2_copy cX2_copy 2 none]
def wsX9_edge : List Cond := .code yX9_edge cX9_edge 11 (some .int) :: ((wsX9_edge_r1 ++ (wsX9_edge_r2 ++ (wsX9_edge_r3 ++ (wsX9_edge_r4 ++ (wsX9_edge_r5 ++ (wsX9_edge_r6 ++ (wsX9_edge_r7 ++ (wsX9_edge_r8 ++ wsX9_edge_r9)))))))) ++ wsX90 ++ wsX30 ++ wsX20 ++ wsX40 ++ wsX80)
def wsX9_ratio : List Cond := .code yX9_ratio cX9_ratio 8 (some .int) :: ([.fieldLink RX9 19 "PaidBySigns" "hire" "LPaidBySigns$Hire;", .fieldLink RX9 124 "PaidBySigns$Hire" "signs" "I", .fieldLink RX9 269 "PaidBySigns$Hire" "brings" "[I", .fieldLink RX9 147 "PaidBySigns$Hire" "chances" "[[I", .methodLink RX9 140 yX9_isWork, .instanceMethod yX9_isWork, .selects RX9 yX9_isWork yX9_isWork, .initialized RX9, .code yX9_isWork cX9_isWork 2 (some .boolean), .fieldLink RX9 115 "PaidBySigns$Hire" "works" "I"] ++ wsX90 ++ wsX30)
def wsX9_rises_r1 : List Cond := [Cond.fieldLink RX9 54 "PaidBySigns" "cheapest" "LPaidBySigns$LeastCost;", Cond.fieldLink RX9 19 "PaidBySigns" "hire" "LPaidBySigns$Hire;", Cond.fieldLink RX9 124 "PaidBySigns$Hire" "signs" "I", Cond.fieldLink RX9 269 "PaidBySigns$Hire" "brings" "[I", Cond.fieldLink RX9 272 "PaidBySigns$LeastCost" "above" "[J", Cond.methodLink RX9 140 yX9_isWork, Cond.instanceMethod yX9_isWork, Cond.selects RX9 yX9_isWork yX9_isWork, Cond.initialized RX9, Cond.code yX9_isWork cX9_isWork 2 (some .boolean), Cond.fieldLink RX9 115 "PaidBySigns$Hire" "works" "I", Cond.methodLink RX9 173 yX4_findWages, Cond.instanceMethod yX4_findWages, Cond.selects RX4 yX4_findWages yX4_findWages, Cond.initialized RX4, Cond.code yX4_findWages cX4_findWages 3 (some .boolean), Cond.fieldLink RX4 63 "PaidBySigns$Hire" "signs" "I", Cond.methodLink RX4 59 yX4_find, Cond.instanceMethod yX4_find, Cond.selects RX4 yX4_find yX4_find, Cond.code yX4_find cX4_find 6 (some .boolean), Cond.fieldLink RX4 46 "PaidBySigns$LeastCost" "hire" "LPaidBySigns$Hire;", Cond.fieldLink RX4 50 "PaidBySigns$LeastCost" "work" "I", Cond.fieldLink RX4 53 "PaidBySigns$LeastCost" "keptSign" "I"]
def wsX9_rises_r2 : List Cond := [Cond.fieldLink RX4 56 "PaidBySigns$LeastCost" "joinedSign" "I", Cond.fieldLink RX4 22 "PaidBySigns$LeastCost" "table" "LPaidBySigns$Table;", Cond.fieldLink RX4 88 "PaidBySigns$Hire" "works" "I", Cond.fieldLink RX4 40 "PaidBySigns$LeastCost" "rooms" "I", Cond.fieldLink RX4 36 "PaidBySigns$LeastCost" "columns" "I", Cond.methodLink RX4 85 yX4_listColumns, Cond.instanceMethod yX4_listColumns, Cond.selects RX4 yX4_listColumns yX4_listColumns, Cond.code yX4_listColumns cX4_listColumns 2 none, Cond.methodLink RX4 66 yX4_chanceOf, Cond.instanceMethod yX4_chanceOf, Cond.selects RX4 yX4_chanceOf yX4_chanceOf, Cond.code yX4_chanceOf cX4_chanceOf 3 (some .int), Cond.fieldLink RX4 112 "PaidBySigns$Hire" "chances" "[[I", Cond.methodLink RX4 116 yX4_listSteps, Cond.instanceMethod yX4_listSteps, Cond.selects RX4 yX4_listSteps yX4_listSteps, Cond.code yX4_listSteps cX4_listSteps 5 none, Cond.fieldLink RX4 79 "PaidBySigns$Hire" "least" "I", Cond.fieldLink RX4 119 "PaidBySigns$Hire" "rates" "I", Cond.fieldLink RX4 122 "PaidBySigns$Hire" "mark" "[I", Cond.fieldLink RX4 26 "PaidBySigns$LeastCost" "columnSign" "[I", Cond.fieldLink RX4 30 "PaidBySigns$LeastCost" "columnRate" "[I", Cond.fieldLink RX4 125 "PaidBySigns$Hire" "rate" "[I"]
def wsX9_rises_r3 : List Cond := [Cond.fieldLink RX4 33 "PaidBySigns$LeastCost" "columnRoom" "[I", Cond.methodLink RX4 91 yX8_start, Cond.instanceMethod yX8_start, Cond.selects RX8 yX8_start yX8_start, Cond.initialized RX8, Cond.code yX8_start cX8_start 5 none, Cond.methodLink RX8 23 Lib.Math.min.name, Cond.static Lib.Math.min.name, Cond.initialized "java/lang/Math", Cond.code Lib.Math.min.name Lib.Math.min.code 2 (some .int), Cond.fieldLink RX8 29 "PaidBySigns$Table" "goals" "I", Cond.fieldLink RX8 33 "PaidBySigns$Table" "lines" "I", Cond.fieldLink RX8 36 "PaidBySigns$Table" "columns" "I", Cond.fieldLink RX8 39 "PaidBySigns$Table" "base" "J", Cond.fieldLink RX8 13 "PaidBySigns$Table" "entry" "[[J", Cond.fieldLink RX8 16 "PaidBySigns$Table" "lineName" "[I", Cond.fieldLink RX8 20 "PaidBySigns$Table" "columnName" "[I", Cond.methodLink RX8 43 yJ7_fill_d0a16, Cond.static yJ7_fill_d0a16, Cond.initialized RJ7, Cond.code yJ7_fill_d0a16 cJ7_fill_d0a16 5 none, Cond.methodLink RX4 95 yX4_fillGoals, Cond.instanceMethod yX4_fillGoals, Cond.selects RX4 yX4_fillGoals yX4_fillGoals]
def wsX9_rises_r4 : List Cond := [Cond.code yX4_fillGoals cX4_fillGoals 5 none, Cond.fieldLink RX4 132 "PaidBySigns$Table" "entry" "[[J", Cond.methodLink RX4 128 yX4_partsOf, Cond.instanceMethod yX4_partsOf, Cond.selects RX4 yX4_partsOf yX4_partsOf, Cond.code yX4_partsOf cX4_partsOf 2 (some .int), Cond.methodLink RX4 99 yX4_fillLines, Cond.instanceMethod yX4_fillLines, Cond.selects RX4 yX4_fillLines yX4_fillLines, Cond.code yX4_fillLines cX4_fillLines 6 none, Cond.fieldLink RX4 70 "PaidBySigns$Hire" "whole" "I", Cond.methodLink RX4 136 yX3_lackOf, Cond.instanceMethod yX3_lackOf, Cond.selects RX3 yX3_lackOf yX3_lackOf, Cond.initialized RX3, Cond.code yX3_lackOf cX3_lackOf 3 (some .int), Cond.fieldLink RX3 15 "PaidBySigns$Hire" "costs" "[I", Cond.fieldLink RX3 42 "PaidBySigns$Hire" "otherwise" "I", Cond.fieldLink RX3 45 "PaidBySigns$Hire" "least" "I", Cond.methodLink RX3 63 yX3_feltOf, Cond.instanceMethod yX3_feltOf, Cond.selects RX3 yX3_feltOf yX3_feltOf, Cond.code yX3_feltOf cX3_feltOf 6 (some .int), Cond.fieldLink RX3 48 "PaidBySigns$Hire" "rates" "I"]
def wsX9_rises_r5 : List Cond := [Cond.fieldLink RX3 26 "PaidBySigns$Hire" "mark" "[I", Cond.methodLink RX3 51 Lib.Math.min.name, Cond.fieldLink RX3 23 "PaidBySigns$Hire" "rate" "[I", Cond.methodLink RX4 102 yX4_fillRooms, Cond.instanceMethod yX4_fillRooms, Cond.selects RX4 yX4_fillRooms yX4_fillRooms, Cond.code yX4_fillRooms cX4_fillRooms 4 none, Cond.methodLink RX4 105 yX8_solve, Cond.instanceMethod yX8_solve, Cond.selects RX8 yX8_solve yX8_solve, Cond.code yX8_solve cX8_solve 4 (some .boolean), Cond.constant RX8 49 (1000000), Cond.methodLink RX8 50 yX8_lineBelowZero, Cond.instanceMethod yX8_lineBelowZero, Cond.selects RX8 yX8_lineBelowZero yX8_lineBelowZero, Cond.code yX8_lineBelowZero cX8_lineBelowZero 3 (some .int), Cond.methodLink RX8 54 yX8_columnFor, Cond.instanceMethod yX8_columnFor, Cond.selects RX8 yX8_columnFor yX8_columnFor, Cond.code yX8_columnFor cX8_columnFor 5 (some .int), Cond.methodLink RX8 62 yX8_compareRatios, Cond.instanceMethod yX8_compareRatios, Cond.selects RX8 yX8_compareRatios yX8_compareRatios, Cond.code yX8_compareRatios cX8_compareRatios 13 (some .int)]
def wsX9_rises_r6 : List Cond := [Cond.methodLink RX8 58 yX8_pivot, Cond.instanceMethod yX8_pivot, Cond.selects RX8 yX8_pivot yX8_pivot, Cond.code yX8_pivot cX8_pivot 7 none, Cond.methodLink RX8 66 yX8_changeLine, Cond.instanceMethod yX8_changeLine, Cond.selects RX8 yX8_changeLine yX8_changeLine, Cond.code yX8_changeLine cX8_changeLine 9 none, Cond.methodLink RX4 109 yX4_readWages, Cond.instanceMethod yX4_readWages, Cond.selects RX4 yX4_readWages yX4_readWages, Cond.code yX4_readWages cX4_readWages 3 none, Cond.fieldLink RX4 9 "PaidBySigns$LeastCost" "above" "[J", Cond.constantLong RX4 145 (60), Cond.fieldLink RX4 147 "PaidBySigns$Table" "base" "J", Cond.fieldLink RX4 15 "PaidBySigns$LeastCost" "aboveLower" "J", Cond.fieldLink RX4 150 "PaidBySigns$Table" "goals" "I", Cond.fieldLink RX4 153 "PaidBySigns$Table" "lines" "I", Cond.fieldLink RX4 156 "PaidBySigns$Table" "lineName" "[I", Cond.methodLink RX4 139 yJ7_fill_d0a16]
def wsX9_rises : List Cond := .code yX9_rises cX9_rises 4 (some .int) :: ((wsX9_rises_r1 ++ (wsX9_rises_r2 ++ (wsX9_rises_r3 ++ (wsX9_rises_r4 ++ (wsX9_rises_r5 ++ wsX9_rises_r6))))) ++ wsX90 ++ wsX30 ++ wsX40 ++ wsX80)
def wsX9_see : List Cond := .code yX9_see cX9_see 3 (some .int) :: ([.fieldLink RX9 82 "PaidBySigns" "diary" "LPaidBySigns$Diary;", .fieldLink RX9 278 "PaidBySigns$Diary" "seen" "I", .methodLink RX9 275 yX1_canTell, .instanceMethod yX1_canTell, .selects RX1 yX1_canTell yX1_canTell, .initialized RX1, .code yX1_canTell cX1_canTell 2 (some .boolean), .fieldLink RX1 18 "PaidBySigns$Diary" "latestStep" "I", .methodLink RX9 144 yX9_isSign, .instanceMethod yX9_isSign, .selects RX9 yX9_isSign yX9_isSign, .initialized RX9, .code yX9_isSign cX9_isSign 2 (some .boolean), .fieldLink RX9 19 "PaidBySigns" "hire" "LPaidBySigns$Hire;", .fieldLink RX9 124 "PaidBySigns$Hire" "signs" "I", .methodLink RX9 281 yX1_write, .instanceMethod yX1_write, .selects RX1 yX1_write yX1_write, .code yX1_write cX1_write 3 (some .int), .fieldLink RX1 9 "PaidBySigns$Diary" "seen" "I", .fieldLink RX1 21 "PaidBySigns$Diary" "seenStep" "[I", .fieldLink RX1 25 "PaidBySigns$Diary" "seenSign" "[I", .fieldLink RX1 28 "PaidBySigns$Diary" "timesRight" "[I"] ++ wsX90 ++ wsX10 ++ wsX30)
def wsX9_right_r1 : List Cond := [Cond.fieldLink RX9 82 "PaidBySigns" "diary" "LPaidBySigns$Diary;", Cond.fieldLink RX9 287 "PaidBySigns$Diary" "rights" "I", Cond.methodLink RX9 275 yX1_canTell, Cond.instanceMethod yX1_canTell, Cond.selects RX1 yX1_canTell yX1_canTell, Cond.initialized RX1, Cond.code yX1_canTell cX1_canTell 2 (some .boolean), Cond.fieldLink RX1 18 "PaidBySigns$Diary" "latestStep" "I", Cond.methodLink RX9 284 yX1_canCorrect, Cond.instanceMethod yX1_canCorrect, Cond.selects RX1 yX1_canCorrect yX1_canCorrect, Cond.code yX1_canCorrect cX1_canCorrect 3 (some .boolean), Cond.fieldLink RX1 9 "PaidBySigns$Diary" "seen" "I", Cond.fieldLink RX1 21 "PaidBySigns$Diary" "seenStep" "[I", Cond.methodLink RX9 144 yX9_isSign, Cond.instanceMethod yX9_isSign, Cond.selects RX9 yX9_isSign yX9_isSign, Cond.initialized RX9, Cond.code yX9_isSign cX9_isSign 2 (some .boolean), Cond.fieldLink RX9 19 "PaidBySigns" "hire" "LPaidBySigns$Hire;", Cond.fieldLink RX9 124 "PaidBySigns$Hire" "signs" "I", Cond.methodLink RX9 290 yX1_correct, Cond.instanceMethod yX1_correct, Cond.selects RX1 yX1_correct yX1_correct]
def wsX9_right_r2 : List Cond := [Cond.code yX1_correct cX1_correct 4 (some .int), Cond.fieldLink RX1 15 "PaidBySigns$Diary" "rights" "I", Cond.fieldLink RX1 31 "PaidBySigns$Diary" "rightStep" "[I", Cond.fieldLink RX1 34 "PaidBySigns$Diary" "rightOf" "[I", Cond.fieldLink RX1 37 "PaidBySigns$Diary" "rightSign" "[I", Cond.fieldLink RX1 28 "PaidBySigns$Diary" "timesRight" "[I"]
def wsX9_right : List Cond := .code yX9_right cX9_right 4 (some .int) :: ((wsX9_right_r1 ++ wsX9_right_r2) ++ wsX90 ++ wsX10 ++ wsX30)
def wsX9_isStep : List Cond := .code yX9_isStep cX9_isStep 1 (some .boolean) :: ([])
def wsX9_odds_r1 : List Cond := [Cond.fieldLink RX9 19 "PaidBySigns" "hire" "LPaidBySigns$Hire;", Cond.fieldLink RX9 115 "PaidBySigns$Hire" "works" "I", Cond.fieldLink RX9 82 "PaidBySigns" "diary" "LPaidBySigns$Diary;", Cond.fieldLink RX9 30 "PaidBySigns" "latest" "LPaidBySigns$Fraction;", Cond.methodLink RX9 140 yX9_isWork, Cond.instanceMethod yX9_isWork, Cond.selects RX9 yX9_isWork yX9_isWork, Cond.initialized RX9, Cond.code yX9_isWork cX9_isWork 2 (some .boolean), Cond.methodLink RX9 294 yX9_isStep, Cond.static yX9_isStep, Cond.code yX9_isStep cX9_isStep 1 (some .boolean), Cond.methodLink RX9 297 yX1_productOf, Cond.instanceMethod yX1_productOf, Cond.selects RX1 yX1_productOf yX1_productOf, Cond.initialized RX1, Cond.code yX1_productOf cX1_productOf 7 (some .long), Cond.fieldLink RX1 9 "PaidBySigns$Diary" "seen" "I", Cond.fieldLink RX1 21 "PaidBySigns$Diary" "seenStep" "[I", Cond.fieldLink RX1 40 "PaidBySigns$Hire" "chances" "[[I", Cond.methodLink RX1 46 yX1_signKnown, Cond.instanceMethod yX1_signKnown, Cond.selects RX1 yX1_signKnown yX1_signKnown, Cond.code yX1_signKnown cX1_signKnown 5 (some .int)]
def wsX9_odds_r2 : List Cond := [Cond.fieldLink RX1 25 "PaidBySigns$Diary" "seenSign" "[I", Cond.fieldLink RX1 15 "PaidBySigns$Diary" "rights" "I", Cond.fieldLink RX1 34 "PaidBySigns$Diary" "rightOf" "[I", Cond.fieldLink RX1 31 "PaidBySigns$Diary" "rightStep" "[I", Cond.fieldLink RX1 37 "PaidBySigns$Diary" "rightSign" "[I", Cond.methodLink RX9 190 yX2_become, Cond.instanceMethod yX2_become, Cond.selects RX2 yX2_become yX2_become, Cond.initialized RX2, Cond.code yX2_become cX2_become 7 none, Cond.methodLink RX2 20 Lib.MathLoose.abs_long.x, Cond.static Lib.MathLoose.abs_long.x, Cond.initialized "java/lang/Math", Cond.code Lib.MathLoose.abs_long.x Lib.MathLoose.abs_long.code 2 (some .long), Cond.fieldLink RX2 11 "PaidBySigns$Fraction" "upper" "J", Cond.fieldLink RX2 17 "PaidBySigns$Fraction" "lower" "J", Cond.methodLink RX2 26 yX2_commonPart, Cond.static yX2_commonPart, Cond.code yX2_commonPart cX2_commonPart 11 (some .long), Cond.methodLink RX2 30 yX2_forget, Cond.instanceMethod yX2_forget, Cond.selects RX2 yX2_forget yX2_forget, Cond.code yX2_forget cX2_forget 1 none, Cond.constantLong RX2 9 (-2000000000)]
def wsX9_odds : List Cond := .code yX9_odds cX9_odds 6 (some .int) :: ((wsX9_odds_r1 ++ wsX9_odds_r2) ++ wsX90 ++ wsX30 ++ wsX10 ++ wsX20)
def wsX9_guess : List Cond := .code yX9_guess cX9_guess 8 (some .int) :: ([.fieldLink RX9 19 "PaidBySigns" "hire" "LPaidBySigns$Hire;", .fieldLink RX9 115 "PaidBySigns$Hire" "works" "I", .fieldLink RX9 82 "PaidBySigns" "diary" "LPaidBySigns$Diary;", .methodLink RX9 294 yX9_isStep, .static yX9_isStep, .initialized RX9, .code yX9_isStep cX9_isStep 1 (some .boolean), .methodLink RX9 297 yX1_productOf, .instanceMethod yX1_productOf, .selects RX1 yX1_productOf yX1_productOf, .initialized RX1, .code yX1_productOf cX1_productOf 7 (some .long), .fieldLink RX1 9 "PaidBySigns$Diary" "seen" "I", .fieldLink RX1 21 "PaidBySigns$Diary" "seenStep" "[I", .fieldLink RX1 40 "PaidBySigns$Hire" "chances" "[[I", .methodLink RX1 46 yX1_signKnown, .instanceMethod yX1_signKnown, .selects RX1 yX1_signKnown yX1_signKnown, .code yX1_signKnown cX1_signKnown 5 (some .int), .fieldLink RX1 25 "PaidBySigns$Diary" "seenSign" "[I", .fieldLink RX1 15 "PaidBySigns$Diary" "rights" "I", .fieldLink RX1 34 "PaidBySigns$Diary" "rightOf" "[I", .fieldLink RX1 31 "PaidBySigns$Diary" "rightStep" "[I", .fieldLink RX1 37 "PaidBySigns$Diary" "rightSign" "[I"] ++ wsX90 ++ wsX30 ++ wsX10)
def wsX9_count : List Cond := .code yX9_count cX9_count 2 (some .int) :: ([.fieldLink RX9 82 "PaidBySigns" "diary" "LPaidBySigns$Diary;", .fieldLink RX9 278 "PaidBySigns$Diary" "seen" "I", .fieldLink RX9 287 "PaidBySigns$Diary" "rights" "I", .fieldLink RX9 75 "PaidBySigns" "proofs" "LPaidBySigns$Proofs;", .fieldLink RX9 251 "PaidBySigns$Proofs" "lowerNumber" "I", .fieldLink RX9 10 "PaidBySigns" "reader" "LPaidBySigns$Reader;", .fieldLink RX9 86 "PaidBySigns$Reader" "length" "I"] ++ wsX90 ++ wsX10 ++ wsX60 ++ wsX70)
theorem dX1_canTell_0 : decode cX1_canTell 0 = .ok (.iload_n 1, 1) := by decide +kernel
theorem dX1_canTell_1 : decode cX1_canTell 1 = .ok (.aload_n 0, 1) := by decide +kernel
theorem dX1_canTell_2 : decode cX1_canTell 2 = .ok (.getfield 18, 3) := by decide +kernel
theorem dX1_canTell_5 : decode cX1_canTell 5 = .ok (.if_icmp .lt 14, 3) := by decide +kernel
theorem dX1_canTell_8 : decode cX1_canTell 8 = .ok (.iload_n 1, 1) := by decide +kernel
theorem dX1_canTell_9 : decode cX1_canTell 9 = .ok (.sipush 999, 3) := by decide +kernel
theorem dX1_canTell_12 : decode cX1_canTell 12 = .ok (.if_icmp .gt 7, 3) := by decide +kernel
theorem dX1_canTell_15 : decode cX1_canTell 15 = .ok (.iconst 1, 1) := by decide +kernel
theorem dX1_canTell_16 : decode cX1_canTell 16 = .ok (.goto 4, 3) := by decide +kernel
theorem dX1_canTell_19 : decode cX1_canTell 19 = .ok (.iconst 0, 1) := by decide +kernel
theorem dX1_canTell_20 : decode cX1_canTell 20 = .ok (.ireturn, 1) := by decide +kernel
theorem dX1_canCorrect_0 : decode cX1_canCorrect 0 = .ok (.iload_n 2, 1) := by decide +kernel
theorem dX1_canCorrect_1 : decode cX1_canCorrect 1 = .ok (.ifCond .lt 25, 3) := by decide +kernel
theorem dX1_canCorrect_4 : decode cX1_canCorrect 4 = .ok (.iload_n 2, 1) := by decide +kernel
theorem dX1_canCorrect_5 : decode cX1_canCorrect 5 = .ok (.aload_n 0, 1) := by decide +kernel
theorem dX1_canCorrect_6 : decode cX1_canCorrect 6 = .ok (.getfield 9, 3) := by decide +kernel
theorem dX1_canCorrect_9 : decode cX1_canCorrect 9 = .ok (.if_icmp .ge 17, 3) := by decide +kernel
theorem dX1_canCorrect_26 : decode cX1_canCorrect 26 = .ok (.iconst 0, 1) := by decide +kernel
theorem dX1_canCorrect_27 : decode cX1_canCorrect 27 = .ok (.ireturn, 1) := by decide +kernel
theorem dX3_feltOf_0 : decode cX3_feltOf 0 = .ok (.iconst 0, 1) := by decide +kernel
theorem dX3_feltOf_1 : decode cX3_feltOf 1 = .ok (.istore_n 2, 1) := by decide +kernel
theorem dX3_feltOf_2 : decode cX3_feltOf 2 = .ok (.iconst 0, 1) := by decide +kernel
theorem dX3_feltOf_3 : decode cX3_feltOf 3 = .ok (.istore_n 3, 1) := by decide +kernel
theorem dX3_feltOf_4 : decode cX3_feltOf 4 = .ok (.iconst 0, 1) := by decide +kernel
theorem dX3_feltOf_5 : decode cX3_feltOf 5 = .ok (.istore 4, 2) := by decide +kernel
theorem dX3_feltOf_7 : decode cX3_feltOf 7 = .ok (.iload 4, 2) := by decide +kernel
theorem dX3_feltOf_9 : decode cX3_feltOf 9 = .ok (.aload_n 0, 1) := by decide +kernel
theorem dX3_feltOf_10 : decode cX3_feltOf 10 = .ok (.getfield 48, 3) := by decide +kernel
theorem dX3_feltOf_13 : decode cX3_feltOf 13 = .ok (.if_icmp .ge 61, 3) := by decide +kernel
theorem dX3_feltOf_16 : decode cX3_feltOf 16 = .ok (.iload 4, 2) := by decide +kernel
theorem dX3_feltOf_18 : decode cX3_feltOf 18 = .ok (.aload_n 0, 1) := by decide +kernel
theorem dX3_feltOf_19 : decode cX3_feltOf 19 = .ok (.getfield 48, 3) := by decide +kernel
theorem dX3_feltOf_22 : decode cX3_feltOf 22 = .ok (.iconst 1, 1) := by decide +kernel
theorem dX3_feltOf_23 : decode cX3_feltOf 23 = .ok (.isub, 1) := by decide +kernel
theorem dX3_feltOf_24 : decode cX3_feltOf 24 = .ok (.if_icmp .ne 7, 3) := by decide +kernel
theorem dX3_feltOf_27 : decode cX3_feltOf 27 = .ok (.iload_n 1, 1) := by decide +kernel
theorem dX3_feltOf_28 : decode cX3_feltOf 28 = .ok (.goto 14, 3) := by decide +kernel
theorem dX3_feltOf_42 : decode cX3_feltOf 42 = .ok (.istore 5, 2) := by decide +kernel
theorem dX3_feltOf_44 : decode cX3_feltOf 44 = .ok (.iload 5, 2) := by decide +kernel
theorem dX3_feltOf_46 : decode cX3_feltOf 46 = .ok (.iload_n 3, 1) := by decide +kernel
theorem dX3_feltOf_47 : decode cX3_feltOf 47 = .ok (.if_icmp .le 21, 3) := by decide +kernel
theorem dX3_feltOf_50 : decode cX3_feltOf 50 = .ok (.iload_n 2, 1) := by decide +kernel
theorem dX3_feltOf_51 : decode cX3_feltOf 51 = .ok (.aload_n 0, 1) := by decide +kernel
theorem dX3_feltOf_52 : decode cX3_feltOf 52 = .ok (.getfield 23, 3) := by decide +kernel
theorem dX3_feltOf_55 : decode cX3_feltOf 55 = .ok (.iload 4, 2) := by decide +kernel
theorem dX3_feltOf_57 : decode cX3_feltOf 57 = .ok (.iaload, 1) := by decide +kernel
theorem dX3_feltOf_58 : decode cX3_feltOf 58 = .ok (.iload 5, 2) := by decide +kernel
theorem dX3_feltOf_60 : decode cX3_feltOf 60 = .ok (.iload_n 3, 1) := by decide +kernel
theorem dX3_feltOf_61 : decode cX3_feltOf 61 = .ok (.isub, 1) := by decide +kernel
theorem dX3_feltOf_62 : decode cX3_feltOf 62 = .ok (.imul, 1) := by decide +kernel
theorem dX3_feltOf_63 : decode cX3_feltOf 63 = .ok (.iadd, 1) := by decide +kernel
theorem dX3_feltOf_64 : decode cX3_feltOf 64 = .ok (.istore_n 2, 1) := by decide +kernel
theorem dX3_feltOf_65 : decode cX3_feltOf 65 = .ok (.iload 5, 2) := by decide +kernel
theorem dX3_feltOf_67 : decode cX3_feltOf 67 = .ok (.istore_n 3, 1) := by decide +kernel
theorem dX3_feltOf_68 : decode cX3_feltOf 68 = .ok (.iinc 4 1, 3) := by decide +kernel
theorem dX3_feltOf_71 : decode cX3_feltOf 71 = .ok (.goto (-64), 3) := by decide +kernel
theorem dX3_feltOf_74 : decode cX3_feltOf 74 = .ok (.iload_n 2, 1) := by decide +kernel
theorem dX3_feltOf_75 : decode cX3_feltOf 75 = .ok (.ireturn, 1) := by decide +kernel
theorem dX6_changeElse_0 : decode cX6_changeElse 0 = .ok (.aload_n 0, 1) := by decide +kernel
theorem dX6_changeElse_1 : decode cX6_changeElse 1 = .ok (.getfield 19, 3) := by decide +kernel
theorem dX6_changeElse_4 : decode cX6_changeElse 4 = .ok (.istore_n 2, 1) := by decide +kernel
theorem dX6_changeElse_5 : decode cX6_changeElse 5 = .ok (.aload_n 0, 1) := by decide +kernel
theorem dX6_changeElse_6 : decode cX6_changeElse 6 = .ok (.iload_n 1, 1) := by decide +kernel
theorem dX6_changeElse_7 : decode cX6_changeElse 7 = .ok (.putfield 19, 3) := by decide +kernel
theorem dX6_changeElse_10 : decode cX6_changeElse 10 = .ok (.iload_n 2, 1) := by decide +kernel
theorem dX6_changeElse_11 : decode cX6_changeElse 11 = .ok (.ireturn, 1) := by decide +kernel
theorem dX7_append_0 : decode cX7_append 0 = .ok (.bipush 24, 2) := by decide +kernel
theorem dX7_append_2 : decode cX7_append 2 = .ok (.istore_n 2, 1) := by decide +kernel
theorem dX7_append_3 : decode cX7_append 3 = .ok (.iload_n 2, 1) := by decide +kernel
theorem dX7_append_4 : decode cX7_append 4 = .ok (.ifCond .lt 42, 3) := by decide +kernel
theorem dX7_append_7 : decode cX7_append 7 = .ok (.aload_n 0, 1) := by decide +kernel
theorem dX7_append_8 : decode cX7_append 8 = .ok (.getfield 9, 3) := by decide +kernel
theorem dX7_append_11 : decode cX7_append 11 = .ok (.sipush 900, 3) := by decide +kernel
theorem dX7_append_14 : decode cX7_append 14 = .ok (.if_icmp .ge 32, 3) := by decide +kernel
theorem dX7_append_17 : decode cX7_append 17 = .ok (.aload_n 0, 1) := by decide +kernel
theorem dX7_append_18 : decode cX7_append 18 = .ok (.getfield 28, 3) := by decide +kernel
theorem dX7_append_21 : decode cX7_append 21 = .ok (.aload_n 0, 1) := by decide +kernel
theorem dX7_append_22 : decode cX7_append 22 = .ok (.getfield 9, 3) := by decide +kernel
theorem dX7_append_25 : decode cX7_append 25 = .ok (.iload_n 1, 1) := by decide +kernel
theorem dX7_append_26 : decode cX7_append 26 = .ok (.iload_n 2, 1) := by decide +kernel
theorem dX7_append_27 : decode cX7_append 27 = .ok (.iushr, 1) := by decide +kernel
theorem dX7_append_28 : decode cX7_append 28 = .ok (.i2b, 1) := by decide +kernel
theorem dX7_append_29 : decode cX7_append 29 = .ok (.bastore, 1) := by decide +kernel
theorem dX7_append_30 : decode cX7_append 30 = .ok (.aload_n 0, 1) := by decide +kernel
theorem dX7_append_31 : decode cX7_append 31 = .ok (.dup, 1) := by decide +kernel
theorem dX7_append_32 : decode cX7_append 32 = .ok (.getfield 9, 3) := by decide +kernel
theorem dX7_append_35 : decode cX7_append 35 = .ok (.iconst 1, 1) := by decide +kernel
theorem dX7_append_36 : decode cX7_append 36 = .ok (.iadd, 1) := by decide +kernel
theorem dX7_append_37 : decode cX7_append 37 = .ok (.putfield 9, 3) := by decide +kernel
theorem dX7_append_40 : decode cX7_append 40 = .ok (.iinc 2 (-8), 3) := by decide +kernel
theorem dX7_append_43 : decode cX7_append 43 = .ok (.goto (-40), 3) := by decide +kernel
theorem dX7_append_46 : decode cX7_append 46 = .ok (.return_, 1) := by decide +kernel
set_option maxRecDepth 20000 in
theorem ggX7_readText_X3_clear : GoodIn wsX7_readText wsX3_clear := goodIn_r _ [12, 13, 14, 15, 16, 17, 18, 19, 181, 182, 183, 184, 185, 186, 187, 188, 189, 190, 191] (by decide +kernel) (by decide +kernel)
set_option maxRecDepth 20000 in
theorem gX7_readText_X3_clear : GoodIn wsX7_readText (wsV RX7 61 RX3 yX3_clear wsX3_clear) := goodIn_app (goodIn_of _ (by decide +kernel)) ggX7_readText_X3_clear
set_option maxRecDepth 20000 in
theorem ggX7_readText_X7_advance : GoodIn wsX7_readText wsX7_advance := goodIn_r _ [24, 1, 25, 26, 27, 28, 29, 30, 23, 31, 32, 33, 34, 35, 167, 168, 169, 170, 171, 172, 173, 174, 175, 176, 177, 178, 179, 180] (by decide +kernel) (by decide +kernel)
set_option maxRecDepth 20000 in
theorem gX7_readText_X7_advance : GoodIn wsX7_readText (wsV RX7 64 RX7 yX7_advance wsX7_advance) := goodIn_app (goodIn_of _ (by decide +kernel)) ggX7_readText_X7_advance
set_option maxRecDepth 20000 in
theorem ggX7_readText_X7_readWhole : GoodIn wsX7_readText wsX7_readWhole := goodIn_r _ [39, 2, 40, 41, 42, 43, 44, 23, 45, 28, 1, 27, 26, 46, 47, 48, 49, 50, 51, 52, 53, 54, 55, 56, 57, 58, 59, 60, 61, 62, 63, 64, 65, 66, 67, 68, 69, 70, 71, 72, 73, 74, 75, 76, 77, 78, 79, 80, 81, 82, 83, 84, 85, 86, 87, 88, 89, 90, 91, 92, 93, 94, 20, 21, 22, 24, 25, 29, 30, 31, 32, 33, 34, 35, 95, 96, 97, 98, 99, 100, 101, 102, 6, 7, 103, 104, 105, 106, 167, 168, 169, 170, 171, 172, 173, 174, 175, 176, 177, 178, 179, 180, 181, 182, 183, 184, 185, 186, 187, 188, 189, 190, 191] (by decide +kernel) (by decide +kernel)
set_option maxRecDepth 20000 in
theorem gX7_readText_X7_readWhole : GoodIn wsX7_readText (wsV RX7 67 RX7 yX7_readWhole wsX7_readWhole) := goodIn_app (goodIn_of _ (by decide +kernel)) ggX7_readText_X7_readWhole
set_option maxRecDepth 20000 in
theorem ggX7_readText_X7_readSigns : GoodIn wsX7_readText wsX7_readSigns := goodIn_r _ [110, 2, 111, 42, 43, 44, 23, 45, 28, 1, 27, 26, 46, 47, 48, 49, 50, 51, 52, 53, 54, 55, 56, 57, 58, 59, 60, 61, 62, 63, 64, 65, 66, 67, 68, 69, 70, 71, 72, 73, 74, 75, 76, 77, 78, 79, 80, 81, 82, 83, 84, 85, 86, 87, 88, 89, 90, 91, 92, 93, 94, 99, 100, 101, 102, 6, 7, 112, 113, 114, 115, 116, 40, 20, 21, 22, 24, 25, 29, 30, 31, 32, 33, 34, 35, 117, 118, 119, 120, 121, 122, 123, 124, 125, 126, 127, 128, 129, 130, 95, 96, 97, 98, 103, 104, 105, 106, 167, 168, 169, 170, 171, 172, 173, 174, 175, 176, 177, 178, 179, 180, 181, 182, 183, 184, 185, 186, 187, 188, 189, 190, 191] (by decide +kernel) (by decide +kernel)
set_option maxRecDepth 20000 in
theorem gX7_readText_X7_readSigns : GoodIn wsX7_readText (wsV RX7 71 RX7 yX7_readSigns wsX7_readSigns) := goodIn_app (goodIn_of _ (by decide +kernel)) ggX7_readText_X7_readSigns
theorem dX7_readText_0 : decode cX7_readText 0 = .ok (.aload_n 0, 1) := by decide +kernel
theorem dX7_readText_1 : decode cX7_readText 1 = .ok (.iconst 0, 1) := by decide +kernel
theorem dX7_readText_2 : decode cX7_readText 2 = .ok (.putfield 32, 3) := by decide +kernel
theorem dX7_readText_5 : decode cX7_readText 5 = .ok (.aload_n 0, 1) := by decide +kernel
theorem dX7_readText_6 : decode cX7_readText 6 = .ok (.getfield 24, 3) := by decide +kernel
theorem dX7_readText_9 : decode cX7_readText 9 = .ok (.invokevirtual 61, 3) := by decide +kernel
theorem dX7_readText_12 : decode cX7_readText 12 = .ok (.aload_n 0, 1) := by decide +kernel
theorem dX7_readText_13 : decode cX7_readText 13 = .ok (.iconst 0, 1) := by decide +kernel
theorem dX7_readText_14 : decode cX7_readText 14 = .ok (.putfield 51, 3) := by decide +kernel
theorem dX7_readText_17 : decode cX7_readText 17 = .ok (.aload_n 0, 1) := by decide +kernel
theorem dX7_readText_18 : decode cX7_readText 18 = .ok (.iconst 0, 1) := by decide +kernel
theorem dX7_readText_19 : decode cX7_readText 19 = .ok (.putfield 55, 3) := by decide +kernel
theorem dX7_readText_22 : decode cX7_readText 22 = .ok (.aload_n 0, 1) := by decide +kernel
theorem dX7_readText_23 : decode cX7_readText 23 = .ok (.iconst 0, 1) := by decide +kernel
theorem dX7_readText_24 : decode cX7_readText 24 = .ok (.putfield 58, 3) := by decide +kernel
theorem dX7_readText_27 : decode cX7_readText 27 = .ok (.aload_n 0, 1) := by decide +kernel
theorem dX7_readText_28 : decode cX7_readText 28 = .ok (.iconst 0, 1) := by decide +kernel
theorem dX7_readText_29 : decode cX7_readText 29 = .ok (.putfield 15, 3) := by decide +kernel
theorem dX7_readText_32 : decode cX7_readText 32 = .ok (.aload_n 0, 1) := by decide +kernel
theorem dX7_readText_33 : decode cX7_readText 33 = .ok (.iconst (-1), 1) := by decide +kernel
theorem dX7_readText_34 : decode cX7_readText 34 = .ok (.putfield 18, 3) := by decide +kernel
theorem dX7_readText_37 : decode cX7_readText 37 = .ok (.aload_n 0, 1) := by decide +kernel
theorem dX7_readText_38 : decode cX7_readText 38 = .ok (.invokevirtual 64, 3) := by decide +kernel
theorem dX7_readText_41 : decode cX7_readText 41 = .ok (.aload_n 0, 1) := by decide +kernel
theorem dX7_readText_42 : decode cX7_readText 42 = .ok (.invokevirtual 67, 3) := by decide +kernel
theorem dX7_readText_45 : decode cX7_readText 45 = .ok (.ifCond .eq 28, 3) := by decide +kernel
theorem dX7_readText_48 : decode cX7_readText 48 = .ok (.aload_n 0, 1) := by decide +kernel
theorem dX7_readText_49 : decode cX7_readText 49 = .ok (.invokevirtual 71, 3) := by decide +kernel
theorem dX7_readText_52 : decode cX7_readText 52 = .ok (.ifCond .eq 21, 3) := by decide +kernel
theorem dX7_readText_73 : decode cX7_readText 73 = .ok (.iconst 0, 1) := by decide +kernel
theorem dX7_readText_74 : decode cX7_readText 74 = .ok (.ireturn, 1) := by decide +kernel
theorem dX7_fail_0 : decode cX7_fail 0 = .ok (.aload_n 0, 1) := by decide +kernel
theorem dX7_fail_1 : decode cX7_fail 1 = .ok (.iload_n 1, 1) := by decide +kernel
theorem dX7_fail_2 : decode cX7_fail 2 = .ok (.putfield 15, 3) := by decide +kernel
theorem dX7_fail_5 : decode cX7_fail 5 = .ok (.aload_n 0, 1) := by decide +kernel
theorem dX7_fail_6 : decode cX7_fail 6 = .ok (.aload_n 0, 1) := by decide +kernel
theorem dX7_fail_7 : decode cX7_fail 7 = .ok (.getfield 38, 3) := by decide +kernel
theorem dX7_fail_10 : decode cX7_fail 10 = .ok (.putfield 18, 3) := by decide +kernel
theorem dX7_fail_13 : decode cX7_fail 13 = .ok (.iconst 0, 1) := by decide +kernel
theorem dX7_fail_14 : decode cX7_fail 14 = .ok (.ireturn, 1) := by decide +kernel
set_option maxRecDepth 20000 in
theorem ggX7_readWhole_X7_isWord : GoodIn wsX7_readWhole wsX7_isWord := goodIn_r _ [8, 9, 10, 11, 12, 13, 14, 15, 16, 17, 18, 19, 20, 21, 22, 23, 24, 25, 26, 27, 28, 29, 30, 31, 32, 33, 34, 35, 36, 37, 38, 39, 40, 41, 42, 43, 44, 45, 46, 47, 48, 49, 50, 51, 52, 53, 54, 55, 56, 57, 58, 59, 60, 61, 88, 89, 90, 91, 92, 93, 94, 95, 96, 97, 98, 99, 100, 101] (by decide +kernel) (by decide +kernel)
set_option maxRecDepth 20000 in
theorem gX7_readWhole_X7_isWord : GoodIn wsX7_readWhole (wsV RX7 82 RX7 yX7_isWord wsX7_isWord) := goodIn_app (goodIn_of _ (by decide +kernel)) ggX7_readWhole_X7_isWord
theorem dX7_readWhole_0 : decode cX7_readWhole 0 = .ok (.aload_n 0, 1) := by decide +kernel
theorem dX7_readWhole_1 : decode cX7_readWhole 1 = .ok (.ldc 80, 2) := by decide +kernel
theorem dX7_readWhole_3 : decode cX7_readWhole 3 = .ok (.invokevirtual 82, 3) := by decide +kernel
theorem dX7_readWhole_6 : decode cX7_readWhole 6 = .ok (.ifCond .ne 5, 3) := by decide +kernel
theorem dX7_readWhole_9 : decode cX7_readWhole 9 = .ok (.iconst 1, 1) := by decide +kernel
theorem dX7_readWhole_10 : decode cX7_readWhole 10 = .ok (.ireturn, 1) := by decide +kernel
set_option maxRecDepth 20000 in
theorem ggX7_readSigns_X7_isWord : GoodIn wsX7_readSigns wsX7_isWord := goodIn_r _ [7, 8, 9, 10, 11, 12, 13, 14, 15, 16, 17, 18, 19, 20, 21, 22, 23, 24, 25, 26, 27, 28, 29, 30, 31, 32, 33, 34, 35, 36, 37, 38, 39, 40, 41, 42, 43, 44, 45, 46, 47, 48, 49, 50, 51, 52, 53, 54, 55, 56, 57, 58, 59, 60, 107, 108, 109, 110, 111, 112, 113, 114, 115, 116, 117, 118, 119, 120] (by decide +kernel) (by decide +kernel)
set_option maxRecDepth 20000 in
theorem gX7_readSigns_X7_isWord : GoodIn wsX7_readSigns (wsV RX7 82 RX7 yX7_isWord wsX7_isWord) := goodIn_app (goodIn_of _ (by decide +kernel)) ggX7_readSigns_X7_isWord
set_option maxRecDepth 20000 in
theorem ggX7_readSigns_X7_fail : GoodIn wsX7_readSigns wsX7_fail := goodIn_r _ [64, 65, 10, 66, 107, 108, 109, 110, 111, 112, 113, 114, 115, 116, 117, 118, 119, 120] (by decide +kernel) (by decide +kernel)
set_option maxRecDepth 20000 in
theorem gX7_readSigns_X7_fail : GoodIn wsX7_readSigns (wsV RX7 100 RX7 yX7_fail wsX7_fail) := goodIn_app (goodIn_of _ (by decide +kernel)) ggX7_readSigns_X7_fail
theorem dX7_readSigns_0 : decode cX7_readSigns 0 = .ok (.aload_n 0, 1) := by decide +kernel
theorem dX7_readSigns_1 : decode cX7_readSigns 1 = .ok (.getfield 24, 3) := by decide +kernel
theorem dX7_readSigns_4 : decode cX7_readSigns 4 = .ok (.getfield 95, 3) := by decide +kernel
theorem dX7_readSigns_7 : decode cX7_readSigns 7 = .ok (.iconst 4, 1) := by decide +kernel
theorem dX7_readSigns_8 : decode cX7_readSigns 8 = .ok (.if_icmp .gt 54, 3) := by decide +kernel
theorem dX7_readSigns_11 : decode cX7_readSigns 11 = .ok (.aload_n 0, 1) := by decide +kernel
theorem dX7_readSigns_12 : decode cX7_readSigns 12 = .ok (.ldc 98, 2) := by decide +kernel
theorem dX7_readSigns_14 : decode cX7_readSigns 14 = .ok (.invokevirtual 82, 3) := by decide +kernel
theorem dX7_readSigns_17 : decode cX7_readSigns 17 = .ok (.ifCond .eq 45, 3) := by decide +kernel
theorem dX7_readSigns_62 : decode cX7_readSigns 62 = .ok (.aload_n 0, 1) := by decide +kernel
theorem dX7_readSigns_63 : decode cX7_readSigns 63 = .ok (.getfield 24, 3) := by decide +kernel
theorem dX7_readSigns_66 : decode cX7_readSigns 66 = .ok (.getfield 95, 3) := by decide +kernel
theorem dX7_readSigns_69 : decode cX7_readSigns 69 = .ok (.iconst 2, 1) := by decide +kernel
theorem dX7_readSigns_70 : decode cX7_readSigns 70 = .ok (.if_icmp .ge 11, 3) := by decide +kernel
theorem dX7_readSigns_73 : decode cX7_readSigns 73 = .ok (.aload_n 0, 1) := by decide +kernel
theorem dX7_readSigns_74 : decode cX7_readSigns 74 = .ok (.iconst 1, 1) := by decide +kernel
theorem dX7_readSigns_75 : decode cX7_readSigns 75 = .ok (.invokevirtual 100, 3) := by decide +kernel
theorem dX7_readSigns_78 : decode cX7_readSigns 78 = .ok (.ifCond .eq 7, 3) := by decide +kernel
theorem dX7_readSigns_85 : decode cX7_readSigns 85 = .ok (.iconst 0, 1) := by decide +kernel
theorem dX7_readSigns_86 : decode cX7_readSigns 86 = .ok (.ireturn, 1) := by decide +kernel
theorem dX7_isWord_0 : decode cX7_isWord 0 = .ok (.aload_n 0, 1) := by decide +kernel
theorem dX7_isWord_1 : decode cX7_isWord 1 = .ok (.getfield 35, 3) := by decide +kernel
theorem dX7_isWord_4 : decode cX7_isWord 4 = .ok (.iconst 1, 1) := by decide +kernel
theorem dX7_isWord_5 : decode cX7_isWord 5 = .ok (.if_icmp .ne 19, 3) := by decide +kernel
theorem dX7_isWord_24 : decode cX7_isWord 24 = .ok (.iconst 0, 1) := by decide +kernel
theorem dX7_isWord_25 : decode cX7_isWord 25 = .ok (.ireturn, 1) := by decide +kernel
theorem dX7_advance_0 : decode cX7_advance 0 = .ok (.aload_n 0, 1) := by decide +kernel
theorem dX7_advance_1 : decode cX7_advance 1 = .ok (.getfield 32, 3) := by decide +kernel
theorem dX7_advance_4 : decode cX7_advance 4 = .ok (.aload_n 0, 1) := by decide +kernel
theorem dX7_advance_5 : decode cX7_advance 5 = .ok (.getfield 9, 3) := by decide +kernel
theorem dX7_advance_8 : decode cX7_advance 8 = .ok (.if_icmp .ge 32, 3) := by decide +kernel
theorem dX7_advance_40 : decode cX7_advance 40 = .ok (.aload_n 0, 1) := by decide +kernel
theorem dX7_advance_41 : decode cX7_advance 41 = .ok (.aload_n 0, 1) := by decide +kernel
theorem dX7_advance_42 : decode cX7_advance 42 = .ok (.getfield 32, 3) := by decide +kernel
theorem dX7_advance_45 : decode cX7_advance 45 = .ok (.putfield 38, 3) := by decide +kernel
theorem dX7_advance_48 : decode cX7_advance 48 = .ok (.aload_n 0, 1) := by decide +kernel
theorem dX7_advance_49 : decode cX7_advance 49 = .ok (.getfield 32, 3) := by decide +kernel
theorem dX7_advance_52 : decode cX7_advance 52 = .ok (.aload_n 0, 1) := by decide +kernel
theorem dX7_advance_53 : decode cX7_advance 53 = .ok (.getfield 9, 3) := by decide +kernel
theorem dX7_advance_56 : decode cX7_advance 56 = .ok (.if_icmp .lt 9, 3) := by decide +kernel
theorem dX7_advance_59 : decode cX7_advance 59 = .ok (.aload_n 0, 1) := by decide +kernel
theorem dX7_advance_60 : decode cX7_advance 60 = .ok (.iconst 0, 1) := by decide +kernel
theorem dX7_advance_61 : decode cX7_advance 61 = .ok (.putfield 35, 3) := by decide +kernel
theorem dX7_advance_64 : decode cX7_advance 64 = .ok (.return_, 1) := by decide +kernel
set_option maxRecDepth 20000 in
theorem ggX9_feed_X7_append : GoodIn wsX9_feed wsX7_append := goodIn_r _ [7, 8, 9, 24, 25, 26, 27, 28, 29, 30, 31, 32, 33, 34, 35, 36, 37] (by decide +kernel) (by decide +kernel)
set_option maxRecDepth 20000 in
theorem gX9_feed_X7_append : GoodIn wsX9_feed (wsV RX9 90 RX7 yX7_append wsX7_append) := goodIn_app (goodIn_of _ (by decide +kernel)) ggX9_feed_X7_append
theorem dX9_feed_0 : decode cX9_feed 0 = .ok (.aload_n 0, 1) := by decide +kernel
theorem dX9_feed_1 : decode cX9_feed 1 = .ok (.getfield 10, 3) := by decide +kernel
theorem dX9_feed_4 : decode cX9_feed 4 = .ok (.getfield 86, 3) := by decide +kernel
theorem dX9_feed_7 : decode cX9_feed 7 = .ok (.bipush 20, 2) := by decide +kernel
theorem dX9_feed_9 : decode cX9_feed 9 = .ok (.iadd, 1) := by decide +kernel
theorem dX9_feed_10 : decode cX9_feed 10 = .ok (.sipush 900, 3) := by decide +kernel
theorem dX9_feed_13 : decode cX9_feed 13 = .ok (.if_icmp .le 6, 3) := by decide +kernel
theorem dX9_feed_19 : decode cX9_feed 19 = .ok (.aload_n 0, 1) := by decide +kernel
theorem dX9_feed_20 : decode cX9_feed 20 = .ok (.getfield 10, 3) := by decide +kernel
theorem dX9_feed_23 : decode cX9_feed 23 = .ok (.iload_n 1, 1) := by decide +kernel
theorem dX9_feed_24 : decode cX9_feed 24 = .ok (.invokevirtual 90, 3) := by decide +kernel
theorem dX9_feed_27 : decode cX9_feed 27 = .ok (.aload_n 0, 1) := by decide +kernel
theorem dX9_feed_28 : decode cX9_feed 28 = .ok (.getfield 10, 3) := by decide +kernel
theorem dX9_feed_31 : decode cX9_feed 31 = .ok (.iload_n 2, 1) := by decide +kernel
theorem dX9_feed_32 : decode cX9_feed 32 = .ok (.invokevirtual 90, 3) := by decide +kernel
theorem dX9_feed_35 : decode cX9_feed 35 = .ok (.aload_n 0, 1) := by decide +kernel
theorem dX9_feed_36 : decode cX9_feed 36 = .ok (.getfield 10, 3) := by decide +kernel
theorem dX9_feed_39 : decode cX9_feed 39 = .ok (.iload_n 3, 1) := by decide +kernel
theorem dX9_feed_40 : decode cX9_feed 40 = .ok (.invokevirtual 90, 3) := by decide +kernel
theorem dX9_feed_43 : decode cX9_feed 43 = .ok (.aload_n 0, 1) := by decide +kernel
theorem dX9_feed_44 : decode cX9_feed 44 = .ok (.getfield 10, 3) := by decide +kernel
theorem dX9_feed_47 : decode cX9_feed 47 = .ok (.iload 4, 2) := by decide +kernel
theorem dX9_feed_49 : decode cX9_feed 49 = .ok (.invokevirtual 90, 3) := by decide +kernel
theorem dX9_feed_52 : decode cX9_feed 52 = .ok (.aload_n 0, 1) := by decide +kernel
theorem dX9_feed_53 : decode cX9_feed 53 = .ok (.getfield 10, 3) := by decide +kernel
theorem dX9_feed_56 : decode cX9_feed 56 = .ok (.iload 5, 2) := by decide +kernel
theorem dX9_feed_58 : decode cX9_feed 58 = .ok (.invokevirtual 90, 3) := by decide +kernel
theorem dX9_feed_61 : decode cX9_feed 61 = .ok (.aload_n 0, 1) := by decide +kernel
theorem dX9_feed_62 : decode cX9_feed 62 = .ok (.getfield 10, 3) := by decide +kernel
theorem dX9_feed_65 : decode cX9_feed 65 = .ok (.getfield 86, 3) := by decide +kernel
theorem dX9_feed_68 : decode cX9_feed 68 = .ok (.ireturn, 1) := by decide +kernel
theorem dX9_end_0 : decode cX9_end 0 = .ok (.iload_n 1, 1) := by decide +kernel
theorem dX9_end_1 : decode cX9_end 1 = .ok (.ifCond .lt 14, 3) := by decide +kernel
theorem dX9_end_4 : decode cX9_end 4 = .ok (.iload_n 1, 1) := by decide +kernel
theorem dX9_end_5 : decode cX9_end 5 = .ok (.aload_n 0, 1) := by decide +kernel
theorem dX9_end_6 : decode cX9_end 6 = .ok (.getfield 10, 3) := by decide +kernel
theorem dX9_end_9 : decode cX9_end 9 = .ok (.getfield 86, 3) := by decide +kernel
theorem dX9_end_12 : decode cX9_end 12 = .ok (.if_icmp .le 5, 3) := by decide +kernel
theorem dX9_end_15 : decode cX9_end 15 = .ok (.iconst (-1), 1) := by decide +kernel
theorem dX9_end_16 : decode cX9_end 16 = .ok (.ireturn, 1) := by decide +kernel
theorem dX9_end_17 : decode cX9_end 17 = .ok (.aload_n 0, 1) := by decide +kernel
theorem dX9_end_18 : decode cX9_end 18 = .ok (.getfield 10, 3) := by decide +kernel
theorem dX9_end_21 : decode cX9_end 21 = .ok (.iload_n 1, 1) := by decide +kernel
theorem dX9_end_22 : decode cX9_end 22 = .ok (.putfield 86, 3) := by decide +kernel
theorem dX9_end_25 : decode cX9_end 25 = .ok (.iload_n 1, 1) := by decide +kernel
theorem dX9_end_26 : decode cX9_end 26 = .ok (.ireturn, 1) := by decide +kernel
set_option maxRecDepth 20000 in
theorem ggX9_hire_X7_readText : GoodIn wsX9_hire wsX7_readText := goodIn_r _ [16, 17, 18, 19, 20, 21, 22, 23, 24, 25, 26, 27, 28, 29, 30, 31, 32, 33, 34, 35, 36, 37, 38, 15, 39, 40, 41, 42, 43, 44, 45, 46, 47, 48, 49, 50, 51, 52, 53, 54, 55, 56, 57, 58, 59, 60, 61, 62, 63, 64, 65, 66, 67, 68, 69, 70, 71, 72, 73, 74, 75, 76, 77, 78, 79, 80, 81, 82, 83, 84, 85, 86, 87, 88, 89, 90, 91, 92, 93, 94, 95, 96, 97, 98, 99, 100, 101, 102, 103, 104, 105, 106, 107, 108, 109, 110, 111, 112, 113, 114, 115, 116, 117, 118, 119, 120, 121, 122, 123, 124, 125, 126, 127, 128, 129, 130, 131, 132, 133, 134, 135, 136, 137, 138, 139, 140, 141, 142, 143, 144, 145, 146, 147, 148, 149, 150, 151, 152, 153, 154, 155, 156, 157, 158, 159, 160, 161, 162, 163, 164, 165, 166, 167, 168, 169, 170, 171, 172, 173, 174, 175, 176, 177, 178, 179, 180, 181, 226, 227, 228, 229, 230, 231, 232, 233, 234, 235, 236, 237, 238, 239, 240, 241, 242, 243, 244, 245, 246, 247, 248, 249, 250] (by decide +kernel) (by decide +kernel)
set_option maxRecDepth 20000 in
theorem gX9_hire_X7_readText : GoodIn wsX9_hire (wsV RX9 94 RX7 yX7_readText wsX7_readText) := goodIn_app (goodIn_of _ (by decide +kernel)) ggX9_hire_X7_readText
theorem dX9_hire_0 : decode cX9_hire 0 = .ok (.aload_n 0, 1) := by decide +kernel
theorem dX9_hire_1 : decode cX9_hire 1 = .ok (.getfield 10, 3) := by decide +kernel
theorem dX9_hire_4 : decode cX9_hire 4 = .ok (.invokevirtual 94, 3) := by decide +kernel
theorem dX9_hire_7 : decode cX9_hire 7 = .ok (.istore_n 1, 1) := by decide +kernel
theorem dX9_hire_8 : decode cX9_hire 8 = .ok (.aload_n 0, 1) := by decide +kernel
theorem dX9_hire_9 : decode cX9_hire 9 = .ok (.getfield 10, 3) := by decide +kernel
theorem dX9_hire_12 : decode cX9_hire 12 = .ok (.iconst 0, 1) := by decide +kernel
theorem dX9_hire_13 : decode cX9_hire 13 = .ok (.putfield 86, 3) := by decide +kernel
theorem dX9_hire_16 : decode cX9_hire 16 = .ok (.iload_n 1, 1) := by decide +kernel
theorem dX9_hire_17 : decode cX9_hire 17 = .ok (.ifCond .ne 5, 3) := by decide +kernel
theorem dX9_hire_20 : decode cX9_hire 20 = .ok (.iconst (-1), 1) := by decide +kernel
theorem dX9_hire_21 : decode cX9_hire 21 = .ok (.ireturn, 1) := by decide +kernel
theorem dX9_fault_0 : decode cX9_fault 0 = .ok (.iload_n 1, 1) := by decide +kernel
theorem dX9_fault_1 : decode cX9_fault 1 = .ok (.ifCond .ne 11, 3) := by decide +kernel
theorem dX9_fault_4 : decode cX9_fault 4 = .ok (.aload_n 0, 1) := by decide +kernel
theorem dX9_fault_5 : decode cX9_fault 5 = .ok (.getfield 10, 3) := by decide +kernel
theorem dX9_fault_8 : decode cX9_fault 8 = .ok (.getfield 118, 3) := by decide +kernel
theorem dX9_fault_11 : decode cX9_fault 11 = .ok (.ireturn, 1) := by decide +kernel
theorem dX9_fault_12 : decode cX9_fault 12 = .ok (.iload_n 1, 1) := by decide +kernel
theorem dX9_fault_13 : decode cX9_fault 13 = .ok (.iconst 1, 1) := by decide +kernel
theorem dX9_fault_14 : decode cX9_fault 14 = .ok (.if_icmp .ne 13, 3) := by decide +kernel
theorem dX9_fault_17 : decode cX9_fault 17 = .ok (.aload_n 0, 1) := by decide +kernel
theorem dX9_fault_18 : decode cX9_fault 18 = .ok (.getfield 10, 3) := by decide +kernel
theorem dX9_fault_21 : decode cX9_fault 21 = .ok (.getfield 121, 3) := by decide +kernel
theorem dX9_fault_24 : decode cX9_fault 24 = .ok (.goto 4, 3) := by decide +kernel
theorem dX9_fault_27 : decode cX9_fault 27 = .ok (.iconst (-1), 1) := by decide +kernel
theorem dX9_fault_28 : decode cX9_fault 28 = .ok (.ireturn, 1) := by decide +kernel
set_option maxRecDepth 20000 in
theorem ggX9_told_X9_toldOfOne : GoodIn wsX9_told wsX9_toldOfOne := goodIn_r _ [12, 1, 2, 13, 3, 14, 7, 15, 16, 17, 18, 19, 20, 21, 22, 23, 24, 25, 26, 27, 28, 29, 30, 31, 32, 33, 34, 35, 36, 37, 38, 39, 40, 41] (by decide +kernel) (by decide +kernel)
set_option maxRecDepth 20000 in
theorem gX9_told_X9_toldOfOne : GoodIn wsX9_told (wsV RX9 136 RX9 yX9_toldOfOne wsX9_toldOfOne) := goodIn_app (goodIn_of _ (by decide +kernel)) ggX9_told_X9_toldOfOne
theorem dX9_told_0 : decode cX9_told 0 = .ok (.iload_n 1, 1) := by decide +kernel
theorem dX9_told_1 : decode cX9_told 1 = .ok (.tableswitch 87 0 5 #[39, 47, 55, 63, 71, 79], 39) := by decide +kernel
theorem dX9_told_40 : decode cX9_told 40 = .ok (.aload_n 0, 1) := by decide +kernel
theorem dX9_told_41 : decode cX9_told 41 = .ok (.getfield 19, 3) := by decide +kernel
theorem dX9_told_44 : decode cX9_told 44 = .ok (.getfield 124, 3) := by decide +kernel
theorem dX9_told_47 : decode cX9_told 47 = .ok (.ireturn, 1) := by decide +kernel
theorem dX9_told_48 : decode cX9_told 48 = .ok (.aload_n 0, 1) := by decide +kernel
theorem dX9_told_49 : decode cX9_told 49 = .ok (.getfield 19, 3) := by decide +kernel
theorem dX9_told_52 : decode cX9_told 52 = .ok (.getfield 115, 3) := by decide +kernel
theorem dX9_told_55 : decode cX9_told 55 = .ok (.ireturn, 1) := by decide +kernel
theorem dX9_told_56 : decode cX9_told 56 = .ok (.aload_n 0, 1) := by decide +kernel
theorem dX9_told_57 : decode cX9_told 57 = .ok (.getfield 19, 3) := by decide +kernel
theorem dX9_told_60 : decode cX9_told 60 = .ok (.getfield 127, 3) := by decide +kernel
theorem dX9_told_63 : decode cX9_told 63 = .ok (.ireturn, 1) := by decide +kernel
theorem dX9_told_64 : decode cX9_told 64 = .ok (.aload_n 0, 1) := by decide +kernel
theorem dX9_told_65 : decode cX9_told 65 = .ok (.getfield 19, 3) := by decide +kernel
theorem dX9_told_68 : decode cX9_told 68 = .ok (.getfield 130, 3) := by decide +kernel
theorem dX9_told_71 : decode cX9_told 71 = .ok (.ireturn, 1) := by decide +kernel
theorem dX9_told_72 : decode cX9_told 72 = .ok (.aload_n 0, 1) := by decide +kernel
theorem dX9_told_73 : decode cX9_told 73 = .ok (.getfield 19, 3) := by decide +kernel
theorem dX9_told_76 : decode cX9_told 76 = .ok (.getfield 101, 3) := by decide +kernel
theorem dX9_told_79 : decode cX9_told 79 = .ok (.ireturn, 1) := by decide +kernel
theorem dX9_told_80 : decode cX9_told 80 = .ok (.aload_n 0, 1) := by decide +kernel
theorem dX9_told_81 : decode cX9_told 81 = .ok (.getfield 19, 3) := by decide +kernel
theorem dX9_told_84 : decode cX9_told 84 = .ok (.getfield 133, 3) := by decide +kernel
theorem dX9_told_87 : decode cX9_told 87 = .ok (.ireturn, 1) := by decide +kernel
theorem dX9_told_88 : decode cX9_told 88 = .ok (.aload_n 0, 1) := by decide +kernel
theorem dX9_told_89 : decode cX9_told 89 = .ok (.iload_n 1, 1) := by decide +kernel
theorem dX9_told_90 : decode cX9_told 90 = .ok (.invokevirtual 136, 3) := by decide +kernel
theorem dX9_told_93 : decode cX9_told 93 = .ok (.ireturn, 1) := by decide +kernel
set_option maxRecDepth 20000 in
theorem ggX9_chance_X9_isWork : GoodIn wsX9_chance wsX9_isWork := goodIn_r _ [7, 1, 8, 14, 15, 16, 17, 18, 19, 20, 21, 22, 23, 24, 25, 26, 27, 28, 29, 30, 31, 32, 33, 34, 35, 36, 37, 38] (by decide +kernel) (by decide +kernel)
set_option maxRecDepth 20000 in
theorem gX9_chance_X9_isWork : GoodIn wsX9_chance (wsV RX9 140 RX9 yX9_isWork wsX9_isWork) := goodIn_app (goodIn_of _ (by decide +kernel)) ggX9_chance_X9_isWork
theorem dX9_chance_0 : decode cX9_chance 0 = .ok (.aload_n 0, 1) := by decide +kernel
theorem dX9_chance_1 : decode cX9_chance 1 = .ok (.iload_n 1, 1) := by decide +kernel
theorem dX9_chance_2 : decode cX9_chance 2 = .ok (.invokevirtual 140, 3) := by decide +kernel
theorem dX9_chance_5 : decode cX9_chance 5 = .ok (.ifCond .eq 25, 3) := by decide +kernel
theorem dX9_chance_30 : decode cX9_chance 30 = .ok (.bipush (-2), 2) := by decide +kernel
theorem dX9_chance_32 : decode cX9_chance 32 = .ok (.ireturn, 1) := by decide +kernel
set_option maxRecDepth 20000 in
theorem ggX9_feeling_X3_feltOf : GoodIn wsX9_feeling wsX3_feltOf := goodIn_r _ [6, 7, 8, 9, 10, 11, 12, 13, 28, 29, 30, 31, 32, 33, 34, 35, 36, 37, 38] (by decide +kernel) (by decide +kernel)
set_option maxRecDepth 20000 in
theorem gX9_feeling_X3_feltOf : GoodIn wsX9_feeling (wsV RX9 151 RX3 yX3_feltOf wsX3_feltOf) := goodIn_app (goodIn_of _ (by decide +kernel)) ggX9_feeling_X3_feltOf
theorem dX9_feeling_0 : decode cX9_feeling 0 = .ok (.iload_n 1, 1) := by decide +kernel
theorem dX9_feeling_1 : decode cX9_feeling 1 = .ok (.ifCond .lt 10, 3) := by decide +kernel
theorem dX9_feeling_4 : decode cX9_feeling 4 = .ok (.iload_n 1, 1) := by decide +kernel
theorem dX9_feeling_5 : decode cX9_feeling 5 = .ok (.sipush 9999, 3) := by decide +kernel
theorem dX9_feeling_8 : decode cX9_feeling 8 = .ok (.if_icmp .le 8, 3) := by decide +kernel
theorem dX9_feeling_11 : decode cX9_feeling 11 = .ok (.bipush (-2), 2) := by decide +kernel
theorem dX9_feeling_13 : decode cX9_feeling 13 = .ok (.goto 11, 3) := by decide +kernel
theorem dX9_feeling_16 : decode cX9_feeling 16 = .ok (.aload_n 0, 1) := by decide +kernel
theorem dX9_feeling_17 : decode cX9_feeling 17 = .ok (.getfield 19, 3) := by decide +kernel
theorem dX9_feeling_20 : decode cX9_feeling 20 = .ok (.iload_n 1, 1) := by decide +kernel
theorem dX9_feeling_21 : decode cX9_feeling 21 = .ok (.invokevirtual 151, 3) := by decide +kernel
theorem dX9_feeling_24 : decode cX9_feeling 24 = .ok (.ireturn, 1) := by decide +kernel
set_option maxRecDepth 20000 in
theorem ggX9_wage_X9_isSign : GoodIn wsX9_wage wsX9_isSign := goodIn_r _ [8, 1, 9, 10, 11, 12, 13, 14, 15, 16, 17, 18, 19, 20, 21, 22, 23, 24, 25, 26, 27, 28, 29, 30, 31, 32, 33, 34] (by decide +kernel) (by decide +kernel)
set_option maxRecDepth 20000 in
theorem gX9_wage_X9_isSign : GoodIn wsX9_wage (wsV RX9 144 RX9 yX9_isSign wsX9_isSign) := goodIn_app (goodIn_of _ (by decide +kernel)) ggX9_wage_X9_isSign
theorem dX9_wage_0 : decode cX9_wage 0 = .ok (.aload_n 0, 1) := by decide +kernel
theorem dX9_wage_1 : decode cX9_wage 1 = .ok (.iload_n 1, 1) := by decide +kernel
theorem dX9_wage_2 : decode cX9_wage 2 = .ok (.invokevirtual 144, 3) := by decide +kernel
theorem dX9_wage_5 : decode cX9_wage 5 = .ok (.ifCond .eq 21, 3) := by decide +kernel
theorem dX9_wage_26 : decode cX9_wage 26 = .ok (.bipush (-2), 2) := by decide +kernel
theorem dX9_wage_28 : decode cX9_wage 28 = .ok (.ireturn, 1) := by decide +kernel
set_option maxRecDepth 20000 in
theorem ggX9_worth_X9_isWork : GoodIn wsX9_worth wsX9_isWork := goodIn_r _ [8, 1, 9, 30, 31, 32, 33, 34, 35, 36, 37, 38, 39, 40, 41, 42, 43, 44, 45, 46, 47, 48, 49, 50, 51, 52, 53, 54] (by decide +kernel) (by decide +kernel)
set_option maxRecDepth 20000 in
theorem gX9_worth_X9_isWork : GoodIn wsX9_worth (wsV RX9 140 RX9 yX9_isWork wsX9_isWork) := goodIn_app (goodIn_of _ (by decide +kernel)) ggX9_worth_X9_isWork
theorem dX9_worth_0 : decode cX9_worth 0 = .ok (.aload_n 0, 1) := by decide +kernel
theorem dX9_worth_1 : decode cX9_worth 1 = .ok (.iload_n 1, 1) := by decide +kernel
theorem dX9_worth_2 : decode cX9_worth 2 = .ok (.invokevirtual 140, 3) := by decide +kernel
theorem dX9_worth_5 : decode cX9_worth 5 = .ok (.ifCond .eq 18, 3) := by decide +kernel
theorem dX9_worth_23 : decode cX9_worth 23 = .ok (.ldc 158, 2) := by decide +kernel
theorem dX9_worth_25 : decode cX9_worth 25 = .ok (.ireturn, 1) := by decide +kernel
set_option maxRecDepth 20000 in
theorem ggX9_leaves_X9_isWork : GoodIn wsX9_leaves wsX9_isWork := goodIn_r _ [8, 1, 9, 18, 19, 20, 21, 22, 23, 24, 25, 26, 27, 28, 29, 30, 31, 32, 33, 34, 35, 36, 37, 38, 39, 40, 41, 42] (by decide +kernel) (by decide +kernel)
set_option maxRecDepth 20000 in
theorem gX9_leaves_X9_isWork : GoodIn wsX9_leaves (wsV RX9 140 RX9 yX9_isWork wsX9_isWork) := goodIn_app (goodIn_of _ (by decide +kernel)) ggX9_leaves_X9_isWork
theorem dX9_leaves_0 : decode cX9_leaves 0 = .ok (.aload_n 0, 1) := by decide +kernel
theorem dX9_leaves_1 : decode cX9_leaves 1 = .ok (.iload_n 1, 1) := by decide +kernel
theorem dX9_leaves_2 : decode cX9_leaves 2 = .ok (.invokevirtual 140, 3) := by decide +kernel
theorem dX9_leaves_5 : decode cX9_leaves 5 = .ok (.ifCond .eq 18, 3) := by decide +kernel
theorem dX9_leaves_23 : decode cX9_leaves 23 = .ok (.ldc 158, 2) := by decide +kernel
theorem dX9_leaves_25 : decode cX9_leaves 25 = .ok (.ireturn, 1) := by decide +kernel
theorem dX9_does_0 : decode cX9_does 0 = .ok (.aload_n 0, 1) := by decide +kernel
theorem dX9_does_1 : decode cX9_does 1 = .ok (.getfield 19, 3) := by decide +kernel
theorem dX9_does_4 : decode cX9_does 4 = .ok (.getfield 115, 3) := by decide +kernel
theorem dX9_does_7 : decode cX9_does 7 = .ok (.ifCond .ne 8, 3) := by decide +kernel
theorem dX9_does_10 : decode cX9_does 10 = .ok (.bipush (-4), 2) := by decide +kernel
theorem dX9_does_12 : decode cX9_does 12 = .ok (.goto 14, 3) := by decide +kernel
theorem dX9_does_26 : decode cX9_does 26 = .ok (.ireturn, 1) := by decide +kernel
theorem dX9_comes_0 : decode cX9_comes 0 = .ok (.aload_n 0, 1) := by decide +kernel
theorem dX9_comes_1 : decode cX9_comes 1 = .ok (.getfield 19, 3) := by decide +kernel
theorem dX9_comes_4 : decode cX9_comes 4 = .ok (.getfield 115, 3) := by decide +kernel
theorem dX9_comes_7 : decode cX9_comes 7 = .ok (.ifCond .ne 6, 3) := by decide +kernel
theorem dX9_comes_10 : decode cX9_comes 10 = .ok (.bipush (-4), 2) := by decide +kernel
theorem dX9_comes_12 : decode cX9_comes 12 = .ok (.ireturn, 1) := by decide +kernel
theorem dX9_upper_0 : decode cX9_upper 0 = .ok (.aload_n 0, 1) := by decide +kernel
theorem dX9_upper_1 : decode cX9_upper 1 = .ok (.getfield 30, 3) := by decide +kernel
theorem dX9_upper_4 : decode cX9_upper 4 = .ok (.getfield 166, 3) := by decide +kernel
theorem dX9_upper_7 : decode cX9_upper 7 = .ok (.lreturn, 1) := by decide +kernel
theorem dX9_lower_0 : decode cX9_lower 0 = .ok (.aload_n 0, 1) := by decide +kernel
theorem dX9_lower_1 : decode cX9_lower 1 = .ok (.getfield 30, 3) := by decide +kernel
theorem dX9_lower_4 : decode cX9_lower 4 = .ok (.getfield 170, 3) := by decide +kernel
theorem dX9_lower_7 : decode cX9_lower 7 = .ok (.lreturn, 1) := by decide +kernel
set_option maxRecDepth 20000 in
theorem ggX9_make_X9_isWork : GoodIn wsX9_make wsX9_isWork := goodIn_r _ [15, 2, 16, 177, 178, 179, 180, 181, 182, 183, 184, 185, 186, 187, 188, 189, 190, 191, 192, 193, 194, 195, 196, 197, 198, 199, 200, 201] (by decide +kernel) (by decide +kernel)
set_option maxRecDepth 20000 in
theorem gX9_make_X9_isWork : GoodIn wsX9_make (wsV RX9 140 RX9 yX9_isWork wsX9_isWork) := goodIn_app (goodIn_of _ (by decide +kernel)) ggX9_make_X9_isWork
theorem dX9_make_0 : decode cX9_make 0 = .ok (.aload_n 0, 1) := by decide +kernel
theorem dX9_make_1 : decode cX9_make 1 = .ok (.iload_n 1, 1) := by decide +kernel
theorem dX9_make_2 : decode cX9_make 2 = .ok (.invokevirtual 140, 3) := by decide +kernel
theorem dX9_make_5 : decode cX9_make 5 = .ok (.ifCond .ne 6, 3) := by decide +kernel
theorem dX9_make_8 : decode cX9_make 8 = .ok (.bipush (-2), 2) := by decide +kernel
theorem dX9_make_10 : decode cX9_make 10 = .ok (.ireturn, 1) := by decide +kernel
theorem dX9_wages_0 : decode cX9_wages 0 = .ok (.aload_n 0, 1) := by decide +kernel
theorem dX9_wages_1 : decode cX9_wages 1 = .ok (.getfield 47, 3) := by decide +kernel
theorem dX9_wages_4 : decode cX9_wages 4 = .ok (.ifCond .eq 11, 3) := by decide +kernel
theorem dX9_wages_15 : decode cX9_wages 15 = .ok (.ldc2_w 185, 3) := by decide +kernel
theorem dX9_wages_18 : decode cX9_wages 18 = .ok (.lreturn, 1) := by decide +kernel
set_option maxRecDepth 20000 in
theorem ggX9_seen_X9_isWork : GoodIn wsX9_seen wsX9_isWork := goodIn_r _ [10, 1, 11, 47, 48, 49, 50, 51, 52, 53, 54, 55, 56, 57, 58, 59, 60, 61, 62, 63, 64, 65, 66, 67, 68, 69, 70, 71] (by decide +kernel) (by decide +kernel)
set_option maxRecDepth 20000 in
theorem gX9_seen_X9_isWork : GoodIn wsX9_seen (wsV RX9 140 RX9 yX9_isWork wsX9_isWork) := goodIn_app (goodIn_of _ (by decide +kernel)) ggX9_seen_X9_isWork
theorem dX9_seen_0 : decode cX9_seen 0 = .ok (.aload_n 0, 1) := by decide +kernel
theorem dX9_seen_1 : decode cX9_seen 1 = .ok (.iload_n 1, 1) := by decide +kernel
theorem dX9_seen_2 : decode cX9_seen 2 = .ok (.invokevirtual 140, 3) := by decide +kernel
theorem dX9_seen_5 : decode cX9_seen 5 = .ok (.ifCond .ne 6, 3) := by decide +kernel
theorem dX9_seen_8 : decode cX9_seen 8 = .ok (.bipush (-2), 2) := by decide +kernel
theorem dX9_seen_10 : decode cX9_seen 10 = .ok (.ireturn, 1) := by decide +kernel
set_option maxRecDepth 20000 in
theorem ggX9_best_X9_bestWork : GoodIn wsX9_best wsX9_bestWork := goodIn_r _ [7, 8, 9, 10, 11, 12, 13, 14, 2, 15, 16, 17, 18, 19, 20, 21, 22, 23, 24, 25, 26, 27, 28, 29, 30, 31, 32, 33, 34, 35, 36, 37, 38, 39, 40, 41, 42, 43, 44, 45, 46, 47, 48, 49, 50, 51, 52, 53, 54, 55, 56, 57, 58, 59, 60, 61, 62, 63, 64, 65, 66, 67, 68, 69, 70, 71, 72, 73, 74, 75, 76, 77, 78, 79, 80, 81, 82, 83, 84, 85, 86, 87, 88, 89, 90, 91, 92, 93, 94, 95, 96, 97, 98, 99, 100, 101, 102, 103, 104, 105, 106, 107, 108, 109, 110, 111, 112, 113, 114, 115, 116, 117, 118, 119, 120, 121, 122, 123, 124, 125, 126, 127, 128, 129, 130, 131, 132, 133, 134, 135, 136, 137, 138, 139, 140, 141, 142, 143, 144, 145, 146, 147, 148, 149, 150, 151, 152, 153, 154, 155, 156, 157, 158, 159, 160, 161, 162, 163, 164, 165, 166, 167, 168, 169, 170, 171, 172, 173, 174, 175, 176, 177, 178, 179, 180, 181, 182, 183, 184, 185, 186, 187, 188, 189, 190, 191, 192, 193, 194, 195, 196, 197, 198, 199, 200, 201, 202, 203, 204, 205, 206, 207, 208, 209, 210, 211, 212, 213, 214, 215, 216, 217, 218, 219, 220, 221, 222, 223, 224, 225, 226, 227, 228, 229, 230, 231, 232] (by decide +kernel) (by decide +kernel)
set_option maxRecDepth 20000 in
theorem gX9_best_X9_bestWork : GoodIn wsX9_best (wsV RX9 198 RX9 yX9_bestWork wsX9_bestWork) := goodIn_app (goodIn_of _ (by decide +kernel)) ggX9_best_X9_bestWork
theorem dX9_best_0 : decode cX9_best 0 = .ok (.aload_n 0, 1) := by decide +kernel
theorem dX9_best_1 : decode cX9_best 1 = .ok (.invokevirtual 198, 3) := by decide +kernel
theorem dX9_best_4 : decode cX9_best 4 = .ok (.istore_n 1, 1) := by decide +kernel
theorem dX9_best_5 : decode cX9_best 5 = .ok (.iload_n 1, 1) := by decide +kernel
theorem dX9_best_6 : decode cX9_best 6 = .ok (.iconst (-1), 1) := by decide +kernel
theorem dX9_best_7 : decode cX9_best 7 = .ok (.if_icmp .eq 14, 3) := by decide +kernel
theorem dX9_best_21 : decode cX9_best 21 = .ok (.iload_n 1, 1) := by decide +kernel
theorem dX9_best_22 : decode cX9_best 22 = .ok (.ireturn, 1) := by decide +kernel
set_option maxRecDepth 20000 in
theorem ggX9_merged_X9_isWork : GoodIn wsX9_merged wsX9_isWork := goodIn_r _ [8, 2, 9, 175, 176, 177, 178, 179, 180, 181, 182, 183, 184, 185, 186, 187, 188, 189, 190, 191, 192, 193, 194, 195, 196, 197, 198, 199] (by decide +kernel) (by decide +kernel)
set_option maxRecDepth 20000 in
theorem gX9_merged_X9_isWork : GoodIn wsX9_merged (wsV RX9 140 RX9 yX9_isWork wsX9_isWork) := goodIn_app (goodIn_of _ (by decide +kernel)) ggX9_merged_X9_isWork
theorem dX9_merged_0 : decode cX9_merged 0 = .ok (.aload_n 0, 1) := by decide +kernel
theorem dX9_merged_1 : decode cX9_merged 1 = .ok (.iload_n 1, 1) := by decide +kernel
theorem dX9_merged_2 : decode cX9_merged 2 = .ok (.invokevirtual 140, 3) := by decide +kernel
theorem dX9_merged_5 : decode cX9_merged 5 = .ok (.ifCond .eq 12, 3) := by decide +kernel
theorem dX9_merged_17 : decode cX9_merged 17 = .ok (.bipush (-2), 2) := by decide +kernel
theorem dX9_merged_19 : decode cX9_merged 19 = .ok (.ireturn, 1) := by decide +kernel
set_option maxRecDepth 20000 in
theorem ggX9_coins_X9_isWork : GoodIn wsX9_coins wsX9_isWork := goodIn_r _ [16, 2, 17, 114, 115, 116, 117, 118, 119, 120, 121, 122, 123, 124, 125, 126, 127, 139, 140, 141, 142, 143, 144, 145, 146, 147, 148, 149] (by decide +kernel) (by decide +kernel)
set_option maxRecDepth 20000 in
theorem gX9_coins_X9_isWork : GoodIn wsX9_coins (wsV RX9 140 RX9 yX9_isWork wsX9_isWork) := goodIn_app (goodIn_of _ (by decide +kernel)) ggX9_coins_X9_isWork
theorem dX9_coins_0 : decode cX9_coins 0 = .ok (.aload_n 0, 1) := by decide +kernel
theorem dX9_coins_1 : decode cX9_coins 1 = .ok (.iload_n 1, 1) := by decide +kernel
theorem dX9_coins_2 : decode cX9_coins 2 = .ok (.invokevirtual 140, 3) := by decide +kernel
theorem dX9_coins_5 : decode cX9_coins 5 = .ok (.ifCond .eq 13, 3) := by decide +kernel
theorem dX9_coins_18 : decode cX9_coins 18 = .ok (.bipush (-2), 2) := by decide +kernel
theorem dX9_coins_20 : decode cX9_coins 20 = .ok (.ireturn, 1) := by decide +kernel
set_option maxRecDepth 20000 in
theorem ggX9_bar_X9_isWork : GoodIn wsX9_bar wsX9_isWork := goodIn_r _ [12, 1, 13, 102, 103, 104, 105, 106, 107, 108, 109, 110, 111, 112, 113, 114, 115, 116, 117, 118, 119, 120, 121, 122, 123, 124, 125, 126] (by decide +kernel) (by decide +kernel)
set_option maxRecDepth 20000 in
theorem gX9_bar_X9_isWork : GoodIn wsX9_bar (wsV RX9 140 RX9 yX9_isWork wsX9_isWork) := goodIn_app (goodIn_of _ (by decide +kernel)) ggX9_bar_X9_isWork
theorem dX9_bar_0 : decode cX9_bar 0 = .ok (.aload_n 0, 1) := by decide +kernel
theorem dX9_bar_1 : decode cX9_bar 1 = .ok (.iload_n 1, 1) := by decide +kernel
theorem dX9_bar_2 : decode cX9_bar 2 = .ok (.invokevirtual 140, 3) := by decide +kernel
theorem dX9_bar_5 : decode cX9_bar 5 = .ok (.ifCond .ne 6, 3) := by decide +kernel
theorem dX9_bar_8 : decode cX9_bar 8 = .ok (.bipush (-2), 2) := by decide +kernel
theorem dX9_bar_10 : decode cX9_bar 10 = .ok (.ireturn, 1) := by decide +kernel
set_option maxRecDepth 20000 in
theorem ggX9_crew_X9_isWork : GoodIn wsX9_crew wsX9_isWork := goodIn_r _ [9, 1, 10, 97, 98, 99, 100, 101, 102, 103, 104, 105, 106, 107, 108, 109, 110, 111, 112, 113, 114, 115, 116, 117, 118, 119, 120, 121] (by decide +kernel) (by decide +kernel)
set_option maxRecDepth 20000 in
theorem gX9_crew_X9_isWork : GoodIn wsX9_crew (wsV RX9 140 RX9 yX9_isWork wsX9_isWork) := goodIn_app (goodIn_of _ (by decide +kernel)) ggX9_crew_X9_isWork
theorem dX9_crew_0 : decode cX9_crew 0 = .ok (.aload_n 0, 1) := by decide +kernel
theorem dX9_crew_1 : decode cX9_crew 1 = .ok (.iload_n 1, 1) := by decide +kernel
theorem dX9_crew_2 : decode cX9_crew 2 = .ok (.invokevirtual 140, 3) := by decide +kernel
theorem dX9_crew_5 : decode cX9_crew 5 = .ok (.ifCond .eq 11, 3) := by decide +kernel
theorem dX9_crew_16 : decode cX9_crew 16 = .ok (.bipush (-2), 2) := by decide +kernel
theorem dX9_crew_18 : decode cX9_crew 18 = .ok (.ireturn, 1) := by decide +kernel
set_option maxRecDepth 20000 in
theorem ggX9_watch_X9_isWork : GoodIn wsX9_watch wsX9_isWork := goodIn_r _ [11, 1, 12, 99, 100, 101, 102, 103, 104, 105, 106, 107, 108, 109, 110, 111, 112, 113, 114, 115, 116, 117, 118, 119, 120, 121, 122, 123] (by decide +kernel) (by decide +kernel)
set_option maxRecDepth 20000 in
theorem gX9_watch_X9_isWork : GoodIn wsX9_watch (wsV RX9 140 RX9 yX9_isWork wsX9_isWork) := goodIn_app (goodIn_of _ (by decide +kernel)) ggX9_watch_X9_isWork
theorem dX9_watch_0 : decode cX9_watch 0 = .ok (.aload_n 0, 1) := by decide +kernel
theorem dX9_watch_1 : decode cX9_watch 1 = .ok (.iload_n 1, 1) := by decide +kernel
theorem dX9_watch_2 : decode cX9_watch 2 = .ok (.invokevirtual 140, 3) := by decide +kernel
theorem dX9_watch_5 : decode cX9_watch 5 = .ok (.ifCond .eq 14, 3) := by decide +kernel
theorem dX9_watch_19 : decode cX9_watch 19 = .ok (.bipush (-2), 2) := by decide +kernel
theorem dX9_watch_21 : decode cX9_watch 21 = .ok (.ireturn, 1) := by decide +kernel
set_option maxRecDepth 20000 in
theorem ggX9_press_X9_isWork : GoodIn wsX9_press wsX9_isWork := goodIn_r _ [6, 7, 8, 20, 21, 22, 23, 24, 25, 26, 27, 28, 29, 30, 31, 32, 33, 34, 35, 36, 37, 38, 39, 40, 41, 42, 43, 44] (by decide +kernel) (by decide +kernel)
set_option maxRecDepth 20000 in
theorem gX9_press_X9_isWork : GoodIn wsX9_press (wsV RX9 140 RX9 yX9_isWork wsX9_isWork) := goodIn_app (goodIn_of _ (by decide +kernel)) ggX9_press_X9_isWork
set_option maxRecDepth 20000 in
theorem ggX9_press_X6_changeElse : GoodIn wsX9_press wsX6_changeElse := goodIn_r _ [13, 14, 45, 46, 47, 48] (by decide +kernel) (by decide +kernel)
set_option maxRecDepth 20000 in
theorem gX9_press_X6_changeElse : GoodIn wsX9_press (wsV RX9 245 RX6 yX6_changeElse wsX6_changeElse) := goodIn_app (goodIn_of _ (by decide +kernel)) ggX9_press_X6_changeElse
theorem dX9_press_0 : decode cX9_press 0 = .ok (.iload_n 1, 1) := by decide +kernel
theorem dX9_press_1 : decode cX9_press 1 = .ok (.iconst (-1), 1) := by decide +kernel
theorem dX9_press_2 : decode cX9_press 2 = .ok (.if_icmp .eq 11, 3) := by decide +kernel
theorem dX9_press_5 : decode cX9_press 5 = .ok (.aload_n 0, 1) := by decide +kernel
theorem dX9_press_6 : decode cX9_press 6 = .ok (.iload_n 1, 1) := by decide +kernel
theorem dX9_press_7 : decode cX9_press 7 = .ok (.invokevirtual 140, 3) := by decide +kernel
theorem dX9_press_10 : decode cX9_press 10 = .ok (.ifCond .eq 14, 3) := by decide +kernel
theorem dX9_press_13 : decode cX9_press 13 = .ok (.iload_n 2, 1) := by decide +kernel
theorem dX9_press_14 : decode cX9_press 14 = .ok (.ifCond .lt 10, 3) := by decide +kernel
theorem dX9_press_17 : decode cX9_press 17 = .ok (.iload_n 2, 1) := by decide +kernel
theorem dX9_press_18 : decode cX9_press 18 = .ok (.sipush 9999, 3) := by decide +kernel
theorem dX9_press_21 : decode cX9_press 21 = .ok (.if_icmp .le 6, 3) := by decide +kernel
theorem dX9_press_24 : decode cX9_press 24 = .ok (.bipush (-2), 2) := by decide +kernel
theorem dX9_press_26 : decode cX9_press 26 = .ok (.ireturn, 1) := by decide +kernel
theorem dX9_press_27 : decode cX9_press 27 = .ok (.iload_n 1, 1) := by decide +kernel
theorem dX9_press_28 : decode cX9_press 28 = .ok (.iconst (-1), 1) := by decide +kernel
theorem dX9_press_29 : decode cX9_press 29 = .ok (.if_icmp .ne 14, 3) := by decide +kernel
theorem dX9_press_32 : decode cX9_press 32 = .ok (.aload_n 0, 1) := by decide +kernel
theorem dX9_press_33 : decode cX9_press 33 = .ok (.getfield 75, 3) := by decide +kernel
theorem dX9_press_36 : decode cX9_press 36 = .ok (.iload_n 2, 1) := by decide +kernel
theorem dX9_press_37 : decode cX9_press 37 = .ok (.invokevirtual 245, 3) := by decide +kernel
theorem dX9_press_40 : decode cX9_press 40 = .ok (.goto 12, 3) := by decide +kernel
theorem dX9_press_52 : decode cX9_press 52 = .ok (.ireturn, 1) := by decide +kernel
theorem dX9_by_0 : decode cX9_by 0 = .ok (.iload_n 1, 1) := by decide +kernel
theorem dX9_by_1 : decode cX9_by 1 = .ok (.iconst 1, 1) := by decide +kernel
theorem dX9_by_2 : decode cX9_by 2 = .ok (.if_icmp .lt 10, 3) := by decide +kernel
theorem dX9_by_5 : decode cX9_by 5 = .ok (.iload_n 1, 1) := by decide +kernel
theorem dX9_by_6 : decode cX9_by 6 = .ok (.sipush 9999, 3) := by decide +kernel
theorem dX9_by_9 : decode cX9_by 9 = .ok (.if_icmp .le 6, 3) := by decide +kernel
theorem dX9_by_12 : decode cX9_by 12 = .ok (.bipush (-2), 2) := by decide +kernel
theorem dX9_by_14 : decode cX9_by 14 = .ok (.ireturn, 1) := by decide +kernel
theorem dX9_by_15 : decode cX9_by 15 = .ok (.aload_n 0, 1) := by decide +kernel
theorem dX9_by_16 : decode cX9_by 16 = .ok (.getfield 75, 3) := by decide +kernel
theorem dX9_by_19 : decode cX9_by 19 = .ok (.getfield 251, 3) := by decide +kernel
theorem dX9_by_22 : decode cX9_by 22 = .ok (.istore_n 2, 1) := by decide +kernel
theorem dX9_by_23 : decode cX9_by 23 = .ok (.aload_n 0, 1) := by decide +kernel
theorem dX9_by_24 : decode cX9_by 24 = .ok (.getfield 75, 3) := by decide +kernel
theorem dX9_by_27 : decode cX9_by 27 = .ok (.iload_n 1, 1) := by decide +kernel
theorem dX9_by_28 : decode cX9_by 28 = .ok (.putfield 251, 3) := by decide +kernel
theorem dX9_by_31 : decode cX9_by 31 = .ok (.iload_n 2, 1) := by decide +kernel
theorem dX9_by_32 : decode cX9_by 32 = .ok (.ireturn, 1) := by decide +kernel
set_option maxRecDepth 20000 in
theorem ggX9_proves_X9_isWork : GoodIn wsX9_proves wsX9_isWork := goodIn_r _ [8, 3, 9, 68, 69, 70, 71, 72, 73, 74, 75, 76, 77, 78, 79, 80, 81, 82, 83, 84, 85, 86, 87, 88, 89, 90, 91, 92] (by decide +kernel) (by decide +kernel)
set_option maxRecDepth 20000 in
theorem gX9_proves_X9_isWork : GoodIn wsX9_proves (wsV RX9 140 RX9 yX9_isWork wsX9_isWork) := goodIn_app (goodIn_of _ (by decide +kernel)) ggX9_proves_X9_isWork
theorem dX9_proves_0 : decode cX9_proves 0 = .ok (.aload_n 0, 1) := by decide +kernel
theorem dX9_proves_1 : decode cX9_proves 1 = .ok (.iload_n 1, 1) := by decide +kernel
theorem dX9_proves_2 : decode cX9_proves 2 = .ok (.invokevirtual 140, 3) := by decide +kernel
theorem dX9_proves_5 : decode cX9_proves 5 = .ok (.ifCond .ne 6, 3) := by decide +kernel
theorem dX9_proves_8 : decode cX9_proves 8 = .ok (.bipush (-2), 2) := by decide +kernel
theorem dX9_proves_10 : decode cX9_proves 10 = .ok (.ireturn, 1) := by decide +kernel
set_option maxRecDepth 20000 in
theorem ggX9_mix_X9_isWork : GoodIn wsX9_mix wsX9_isWork := goodIn_r _ [6, 7, 8, 15, 16, 17, 18, 19, 20, 21, 22, 23, 24, 25, 26, 27, 28, 29, 30, 31, 32, 33, 34, 35, 36, 37, 38, 39] (by decide +kernel) (by decide +kernel)
set_option maxRecDepth 20000 in
theorem gX9_mix_X9_isWork : GoodIn wsX9_mix (wsV RX9 140 RX9 yX9_isWork wsX9_isWork) := goodIn_app (goodIn_of _ (by decide +kernel)) ggX9_mix_X9_isWork
theorem dX9_mix_0 : decode cX9_mix 0 = .ok (.aload_n 0, 1) := by decide +kernel
theorem dX9_mix_1 : decode cX9_mix 1 = .ok (.iload_n 1, 1) := by decide +kernel
theorem dX9_mix_2 : decode cX9_mix 2 = .ok (.invokevirtual 140, 3) := by decide +kernel
theorem dX9_mix_5 : decode cX9_mix 5 = .ok (.ifCond .eq 14, 3) := by decide +kernel
theorem dX9_mix_19 : decode cX9_mix 19 = .ok (.bipush (-2), 2) := by decide +kernel
theorem dX9_mix_21 : decode cX9_mix 21 = .ok (.goto 12, 3) := by decide +kernel
theorem dX9_mix_33 : decode cX9_mix 33 = .ok (.ireturn, 1) := by decide +kernel
set_option maxRecDepth 20000 in
theorem ggX9_same_X9_isWork : GoodIn wsX9_same wsX9_isWork := goodIn_r _ [7, 2, 8, 23, 24, 25, 26, 27, 28, 29, 30, 31, 32, 33, 34, 35, 36, 37, 38, 39, 40, 41, 42, 43, 44, 45, 46, 47] (by decide +kernel) (by decide +kernel)
set_option maxRecDepth 20000 in
theorem gX9_same_X9_isWork : GoodIn wsX9_same (wsV RX9 140 RX9 yX9_isWork wsX9_isWork) := goodIn_app (goodIn_of _ (by decide +kernel)) ggX9_same_X9_isWork
theorem dX9_same_0 : decode cX9_same 0 = .ok (.aload_n 0, 1) := by decide +kernel
theorem dX9_same_1 : decode cX9_same 1 = .ok (.iload_n 1, 1) := by decide +kernel
theorem dX9_same_2 : decode cX9_same 2 = .ok (.invokevirtual 140, 3) := by decide +kernel
theorem dX9_same_5 : decode cX9_same 5 = .ok (.ifCond .ne 6, 3) := by decide +kernel
theorem dX9_same_8 : decode cX9_same 8 = .ok (.bipush (-2), 2) := by decide +kernel
theorem dX9_same_10 : decode cX9_same 10 = .ok (.ireturn, 1) := by decide +kernel
set_option maxRecDepth 20000 in
theorem ggX9_edge_X9_isWork : GoodIn wsX9_edge wsX9_isWork := goodIn_r _ [12, 1, 13, 201, 202, 203, 204, 205, 206, 207, 208, 209, 210, 211, 212, 213, 214, 215, 216, 217, 218, 219, 220, 221, 222, 223, 224, 225] (by decide +kernel) (by decide +kernel)
set_option maxRecDepth 20000 in
theorem gX9_edge_X9_isWork : GoodIn wsX9_edge (wsV RX9 140 RX9 yX9_isWork wsX9_isWork) := goodIn_app (goodIn_of _ (by decide +kernel)) ggX9_edge_X9_isWork
theorem dX9_edge_0 : decode cX9_edge 0 = .ok (.aload_n 0, 1) := by decide +kernel
theorem dX9_edge_1 : decode cX9_edge 1 = .ok (.iload_n 1, 1) := by decide +kernel
theorem dX9_edge_2 : decode cX9_edge 2 = .ok (.invokevirtual 140, 3) := by decide +kernel
theorem dX9_edge_5 : decode cX9_edge 5 = .ok (.ifCond .eq 12, 3) := by decide +kernel
theorem dX9_edge_17 : decode cX9_edge 17 = .ok (.bipush (-2), 2) := by decide +kernel
theorem dX9_edge_19 : decode cX9_edge 19 = .ok (.ireturn, 1) := by decide +kernel
set_option maxRecDepth 20000 in
theorem ggX9_ratio_X9_isWork : GoodIn wsX9_ratio wsX9_isWork := goodIn_r _ [9, 1, 10, 11, 12, 13, 14, 15, 16, 17, 18, 19, 20, 21, 22, 23, 24, 25, 26, 27, 28, 29, 30, 31, 32, 33, 34, 35] (by decide +kernel) (by decide +kernel)
set_option maxRecDepth 20000 in
theorem gX9_ratio_X9_isWork : GoodIn wsX9_ratio (wsV RX9 140 RX9 yX9_isWork wsX9_isWork) := goodIn_app (goodIn_of _ (by decide +kernel)) ggX9_ratio_X9_isWork
theorem dX9_ratio_0 : decode cX9_ratio 0 = .ok (.aload_n 0, 1) := by decide +kernel
theorem dX9_ratio_1 : decode cX9_ratio 1 = .ok (.iload_n 1, 1) := by decide +kernel
theorem dX9_ratio_2 : decode cX9_ratio 2 = .ok (.invokevirtual 140, 3) := by decide +kernel
theorem dX9_ratio_5 : decode cX9_ratio 5 = .ok (.ifCond .eq 11, 3) := by decide +kernel
theorem dX9_ratio_16 : decode cX9_ratio 16 = .ok (.bipush (-2), 2) := by decide +kernel
theorem dX9_ratio_18 : decode cX9_ratio 18 = .ok (.ireturn, 1) := by decide +kernel
set_option maxRecDepth 20000 in
theorem ggX9_rises_X9_isWork : GoodIn wsX9_rises wsX9_isWork := goodIn_r _ [10, 2, 11, 141, 142, 143, 144, 145, 146, 147, 148, 149, 150, 151, 152, 153, 154, 155, 156, 157, 158, 159, 160, 161, 162, 163, 164, 165] (by decide +kernel) (by decide +kernel)
set_option maxRecDepth 20000 in
theorem gX9_rises_X9_isWork : GoodIn wsX9_rises (wsV RX9 140 RX9 yX9_isWork wsX9_isWork) := goodIn_app (goodIn_of _ (by decide +kernel)) ggX9_rises_X9_isWork
theorem dX9_rises_0 : decode cX9_rises 0 = .ok (.aload_n 0, 1) := by decide +kernel
theorem dX9_rises_1 : decode cX9_rises 1 = .ok (.iload_n 1, 1) := by decide +kernel
theorem dX9_rises_2 : decode cX9_rises 2 = .ok (.invokevirtual 140, 3) := by decide +kernel
theorem dX9_rises_5 : decode cX9_rises 5 = .ok (.ifCond .ne 6, 3) := by decide +kernel
theorem dX9_rises_8 : decode cX9_rises 8 = .ok (.bipush (-2), 2) := by decide +kernel
theorem dX9_rises_10 : decode cX9_rises 10 = .ok (.ireturn, 1) := by decide +kernel
set_option maxRecDepth 20000 in
theorem ggX9_see_X1_canTell : GoodIn wsX9_see wsX1_canTell := goodIn_r _ [7, 8, 38, 39, 40, 41, 42, 43, 44, 45, 46] (by decide +kernel) (by decide +kernel)
set_option maxRecDepth 20000 in
theorem gX9_see_X1_canTell : GoodIn wsX9_see (wsV RX9 275 RX1 yX1_canTell wsX1_canTell) := goodIn_app (goodIn_of _ (by decide +kernel)) ggX9_see_X1_canTell
set_option maxRecDepth 20000 in
theorem ggX9_see_X9_isSign : GoodIn wsX9_see wsX9_isSign := goodIn_r _ [13, 14, 15, 24, 25, 26, 27, 28, 29, 30, 31, 32, 33, 34, 35, 36, 37, 47, 48, 49, 50, 51, 52, 53, 54, 55, 56, 57] (by decide +kernel) (by decide +kernel)
set_option maxRecDepth 20000 in
theorem gX9_see_X9_isSign : GoodIn wsX9_see (wsV RX9 144 RX9 yX9_isSign wsX9_isSign) := goodIn_app (goodIn_of _ (by decide +kernel)) ggX9_see_X9_isSign
theorem dX9_see_0 : decode cX9_see 0 = .ok (.aload_n 0, 1) := by decide +kernel
theorem dX9_see_1 : decode cX9_see 1 = .ok (.getfield 82, 3) := by decide +kernel
theorem dX9_see_4 : decode cX9_see 4 = .ok (.iload_n 1, 1) := by decide +kernel
theorem dX9_see_5 : decode cX9_see 5 = .ok (.invokevirtual 275, 3) := by decide +kernel
theorem dX9_see_8 : decode cX9_see 8 = .ok (.ifCond .eq 11, 3) := by decide +kernel
theorem dX9_see_11 : decode cX9_see 11 = .ok (.aload_n 0, 1) := by decide +kernel
theorem dX9_see_12 : decode cX9_see 12 = .ok (.iload_n 2, 1) := by decide +kernel
theorem dX9_see_13 : decode cX9_see 13 = .ok (.invokevirtual 144, 3) := by decide +kernel
theorem dX9_see_16 : decode cX9_see 16 = .ok (.ifCond .ne 6, 3) := by decide +kernel
theorem dX9_see_19 : decode cX9_see 19 = .ok (.bipush (-2), 2) := by decide +kernel
theorem dX9_see_21 : decode cX9_see 21 = .ok (.ireturn, 1) := by decide +kernel
set_option maxRecDepth 20000 in
theorem ggX9_right_X1_canTell : GoodIn wsX9_right wsX1_canTell := goodIn_r _ [7, 8, 45, 46, 47, 48, 49, 50, 51, 52, 53] (by decide +kernel) (by decide +kernel)
set_option maxRecDepth 20000 in
theorem gX9_right_X1_canTell : GoodIn wsX9_right (wsV RX9 275 RX1 yX1_canTell wsX1_canTell) := goodIn_app (goodIn_of _ (by decide +kernel)) ggX9_right_X1_canTell
set_option maxRecDepth 20000 in
theorem ggX9_right_X1_canCorrect : GoodIn wsX9_right wsX1_canCorrect := goodIn_r _ [12, 13, 14, 45, 46, 47, 48, 49, 50, 51, 52, 53] (by decide +kernel) (by decide +kernel)
set_option maxRecDepth 20000 in
theorem gX9_right_X1_canCorrect : GoodIn wsX9_right (wsV RX9 284 RX1 yX1_canCorrect wsX1_canCorrect) := goodIn_app (goodIn_of _ (by decide +kernel)) ggX9_right_X1_canCorrect
theorem dX9_right_0 : decode cX9_right 0 = .ok (.aload_n 0, 1) := by decide +kernel
theorem dX9_right_1 : decode cX9_right 1 = .ok (.getfield 82, 3) := by decide +kernel
theorem dX9_right_4 : decode cX9_right 4 = .ok (.iload_n 1, 1) := by decide +kernel
theorem dX9_right_5 : decode cX9_right 5 = .ok (.invokevirtual 275, 3) := by decide +kernel
theorem dX9_right_8 : decode cX9_right 8 = .ok (.ifCond .eq 23, 3) := by decide +kernel
theorem dX9_right_11 : decode cX9_right 11 = .ok (.aload_n 0, 1) := by decide +kernel
theorem dX9_right_12 : decode cX9_right 12 = .ok (.getfield 82, 3) := by decide +kernel
theorem dX9_right_15 : decode cX9_right 15 = .ok (.iload_n 1, 1) := by decide +kernel
theorem dX9_right_16 : decode cX9_right 16 = .ok (.iload_n 2, 1) := by decide +kernel
theorem dX9_right_17 : decode cX9_right 17 = .ok (.invokevirtual 284, 3) := by decide +kernel
theorem dX9_right_20 : decode cX9_right 20 = .ok (.ifCond .eq 11, 3) := by decide +kernel
theorem dX9_right_31 : decode cX9_right 31 = .ok (.bipush (-2), 2) := by decide +kernel
theorem dX9_right_33 : decode cX9_right 33 = .ok (.ireturn, 1) := by decide +kernel
set_option maxRecDepth 20000 in
theorem ggX9_odds_X9_isWork : GoodIn wsX9_odds wsX9_isWork := goodIn_r _ [9, 1, 2, 49, 50, 51, 52, 53, 54, 55, 56, 57, 58, 59, 60, 61, 62, 63, 64, 65, 66, 67, 68, 69, 70, 71, 72, 73] (by decide +kernel) (by decide +kernel)
set_option maxRecDepth 20000 in
theorem gX9_odds_X9_isWork : GoodIn wsX9_odds (wsV RX9 140 RX9 yX9_isWork wsX9_isWork) := goodIn_app (goodIn_of _ (by decide +kernel)) ggX9_odds_X9_isWork
theorem dX9_odds_0 : decode cX9_odds 0 = .ok (.aload_n 0, 1) := by decide +kernel
theorem dX9_odds_1 : decode cX9_odds 1 = .ok (.iload_n 1, 1) := by decide +kernel
theorem dX9_odds_2 : decode cX9_odds 2 = .ok (.invokevirtual 140, 3) := by decide +kernel
theorem dX9_odds_5 : decode cX9_odds 5 = .ok (.ifCond .eq 10, 3) := by decide +kernel
theorem dX9_odds_15 : decode cX9_odds 15 = .ok (.bipush (-2), 2) := by decide +kernel
theorem dX9_odds_17 : decode cX9_odds 17 = .ok (.ireturn, 1) := by decide +kernel
set_option maxRecDepth 20000 in
theorem ggX9_guess_X9_isStep : GoodIn wsX9_guess wsX9_isStep := goodIn_r _ [7] (by decide +kernel) (by decide +kernel)
set_option maxRecDepth 20000 in
theorem gX9_guess_X9_isStep : GoodIn wsX9_guess (va_wsS RX9 294 yX9_isStep wsX9_isStep) := goodIn_app (goodIn_of _ (by decide +kernel)) ggX9_guess_X9_isStep
theorem dX9_guess_0 : decode cX9_guess 0 = .ok (.iload_n 1, 1) := by decide +kernel
theorem dX9_guess_1 : decode cX9_guess 1 = .ok (.invokestatic 294, 3) := by decide +kernel
theorem dX9_guess_4 : decode cX9_guess 4 = .ok (.ifCond .ne 6, 3) := by decide +kernel
theorem dX9_guess_7 : decode cX9_guess 7 = .ok (.bipush (-2), 2) := by decide +kernel
theorem dX9_guess_9 : decode cX9_guess 9 = .ok (.ireturn, 1) := by decide +kernel
theorem dX9_guess_10 : decode cX9_guess 10 = .ok (.aload_n 0, 1) := by decide +kernel
theorem dX9_guess_11 : decode cX9_guess 11 = .ok (.getfield 19, 3) := by decide +kernel
theorem dX9_guess_14 : decode cX9_guess 14 = .ok (.getfield 115, 3) := by decide +kernel
theorem dX9_guess_17 : decode cX9_guess 17 = .ok (.ifCond .ne 6, 3) := by decide +kernel
theorem dX9_guess_20 : decode cX9_guess 20 = .ok (.bipush (-4), 2) := by decide +kernel
theorem dX9_guess_22 : decode cX9_guess 22 = .ok (.ireturn, 1) := by decide +kernel
theorem dX9_count_0 : decode cX9_count 0 = .ok (.iload_n 1, 1) := by decide +kernel
theorem dX9_count_1 : decode cX9_count 1 = .ok (.tableswitch 63 0 3 #[31, 39, 47, 55], 31) := by decide +kernel
theorem dX9_count_32 : decode cX9_count 32 = .ok (.aload_n 0, 1) := by decide +kernel
theorem dX9_count_33 : decode cX9_count 33 = .ok (.getfield 82, 3) := by decide +kernel
theorem dX9_count_36 : decode cX9_count 36 = .ok (.getfield 278, 3) := by decide +kernel
theorem dX9_count_39 : decode cX9_count 39 = .ok (.ireturn, 1) := by decide +kernel
theorem dX9_count_40 : decode cX9_count 40 = .ok (.aload_n 0, 1) := by decide +kernel
theorem dX9_count_41 : decode cX9_count 41 = .ok (.getfield 82, 3) := by decide +kernel
theorem dX9_count_44 : decode cX9_count 44 = .ok (.getfield 287, 3) := by decide +kernel
theorem dX9_count_47 : decode cX9_count 47 = .ok (.ireturn, 1) := by decide +kernel
theorem dX9_count_48 : decode cX9_count 48 = .ok (.aload_n 0, 1) := by decide +kernel
theorem dX9_count_49 : decode cX9_count 49 = .ok (.getfield 75, 3) := by decide +kernel
theorem dX9_count_52 : decode cX9_count 52 = .ok (.getfield 251, 3) := by decide +kernel
theorem dX9_count_55 : decode cX9_count 55 = .ok (.ireturn, 1) := by decide +kernel
theorem dX9_count_56 : decode cX9_count 56 = .ok (.aload_n 0, 1) := by decide +kernel
theorem dX9_count_57 : decode cX9_count 57 = .ok (.getfield 10, 3) := by decide +kernel
theorem dX9_count_60 : decode cX9_count 60 = .ok (.getfield 86, 3) := by decide +kernel
theorem dX9_count_63 : decode cX9_count 63 = .ok (.ireturn, 1) := by decide +kernel
theorem dX9_count_64 : decode cX9_count 64 = .ok (.iconst (-1), 1) := by decide +kernel
theorem dX9_count_65 : decode cX9_count 65 = .ok (.ireturn, 1) := by decide +kernel
theorem dX9_toldOfOne_0 : decode cX9_toldOfOne 0 = .ok (.iload_n 1, 1) := by decide +kernel
theorem dX9_toldOfOne_1 : decode cX9_toldOfOne 1 = .ok (.bipush 10, 2) := by decide +kernel
theorem dX9_toldOfOne_3 : decode cX9_toldOfOne 3 = .ok (.if_icmp .lt 30, 3) := by decide +kernel
theorem dX9_toldOfOne_6 : decode cX9_toldOfOne 6 = .ok (.iload_n 1, 1) := by decide +kernel
theorem dX9_toldOfOne_7 : decode cX9_toldOfOne 7 = .ok (.bipush 10, 2) := by decide +kernel
theorem dX9_toldOfOne_9 : decode cX9_toldOfOne 9 = .ok (.aload_n 0, 1) := by decide +kernel
theorem dX9_toldOfOne_10 : decode cX9_toldOfOne 10 = .ok (.getfield 19, 3) := by decide +kernel
theorem dX9_toldOfOne_13 : decode cX9_toldOfOne 13 = .ok (.getfield 124, 3) := by decide +kernel
theorem dX9_toldOfOne_16 : decode cX9_toldOfOne 16 = .ok (.iadd, 1) := by decide +kernel
theorem dX9_toldOfOne_17 : decode cX9_toldOfOne 17 = .ok (.if_icmp .ge 16, 3) := by decide +kernel
theorem dX9_toldOfOne_33 : decode cX9_toldOfOne 33 = .ok (.iload_n 1, 1) := by decide +kernel
theorem dX9_toldOfOne_34 : decode cX9_toldOfOne 34 = .ok (.bipush 20, 2) := by decide +kernel
theorem dX9_toldOfOne_36 : decode cX9_toldOfOne 36 = .ok (.if_icmp .lt 30, 3) := by decide +kernel
theorem dX9_toldOfOne_39 : decode cX9_toldOfOne 39 = .ok (.iload_n 1, 1) := by decide +kernel
theorem dX9_toldOfOne_40 : decode cX9_toldOfOne 40 = .ok (.bipush 20, 2) := by decide +kernel
theorem dX9_toldOfOne_42 : decode cX9_toldOfOne 42 = .ok (.aload_n 0, 1) := by decide +kernel
theorem dX9_toldOfOne_43 : decode cX9_toldOfOne 43 = .ok (.getfield 19, 3) := by decide +kernel
theorem dX9_toldOfOne_46 : decode cX9_toldOfOne 46 = .ok (.getfield 115, 3) := by decide +kernel
theorem dX9_toldOfOne_49 : decode cX9_toldOfOne 49 = .ok (.iadd, 1) := by decide +kernel
theorem dX9_toldOfOne_50 : decode cX9_toldOfOne 50 = .ok (.if_icmp .ge 16, 3) := by decide +kernel
theorem dX9_toldOfOne_66 : decode cX9_toldOfOne 66 = .ok (.iload_n 1, 1) := by decide +kernel
theorem dX9_toldOfOne_67 : decode cX9_toldOfOne 67 = .ok (.bipush 30, 2) := by decide +kernel
theorem dX9_toldOfOne_69 : decode cX9_toldOfOne 69 = .ok (.if_icmp .lt 30, 3) := by decide +kernel
theorem dX9_toldOfOne_72 : decode cX9_toldOfOne 72 = .ok (.iload_n 1, 1) := by decide +kernel
theorem dX9_toldOfOne_73 : decode cX9_toldOfOne 73 = .ok (.bipush 30, 2) := by decide +kernel
theorem dX9_toldOfOne_75 : decode cX9_toldOfOne 75 = .ok (.aload_n 0, 1) := by decide +kernel
theorem dX9_toldOfOne_76 : decode cX9_toldOfOne 76 = .ok (.getfield 19, 3) := by decide +kernel
theorem dX9_toldOfOne_79 : decode cX9_toldOfOne 79 = .ok (.getfield 133, 3) := by decide +kernel
theorem dX9_toldOfOne_82 : decode cX9_toldOfOne 82 = .ok (.iadd, 1) := by decide +kernel
theorem dX9_toldOfOne_83 : decode cX9_toldOfOne 83 = .ok (.if_icmp .ge 16, 3) := by decide +kernel
theorem dX9_toldOfOne_86 : decode cX9_toldOfOne 86 = .ok (.aload_n 0, 1) := by decide +kernel
theorem dX9_toldOfOne_87 : decode cX9_toldOfOne 87 = .ok (.getfield 19, 3) := by decide +kernel
theorem dX9_toldOfOne_90 : decode cX9_toldOfOne 90 = .ok (.getfield 301, 3) := by decide +kernel
theorem dX9_toldOfOne_93 : decode cX9_toldOfOne 93 = .ok (.iload_n 1, 1) := by decide +kernel
theorem dX9_toldOfOne_94 : decode cX9_toldOfOne 94 = .ok (.bipush 30, 2) := by decide +kernel
theorem dX9_toldOfOne_96 : decode cX9_toldOfOne 96 = .ok (.isub, 1) := by decide +kernel
theorem dX9_toldOfOne_97 : decode cX9_toldOfOne 97 = .ok (.iaload, 1) := by decide +kernel
theorem dX9_toldOfOne_98 : decode cX9_toldOfOne 98 = .ok (.ireturn, 1) := by decide +kernel
theorem dX9_toldOfOne_99 : decode cX9_toldOfOne 99 = .ok (.iload_n 1, 1) := by decide +kernel
theorem dX9_toldOfOne_100 : decode cX9_toldOfOne 100 = .ok (.bipush 40, 2) := by decide +kernel
theorem dX9_toldOfOne_102 : decode cX9_toldOfOne 102 = .ok (.if_icmp .lt 34, 3) := by decide +kernel
theorem dX9_toldOfOne_105 : decode cX9_toldOfOne 105 = .ok (.iload_n 1, 1) := by decide +kernel
theorem dX9_toldOfOne_106 : decode cX9_toldOfOne 106 = .ok (.bipush 40, 2) := by decide +kernel
theorem dX9_toldOfOne_108 : decode cX9_toldOfOne 108 = .ok (.aload_n 0, 1) := by decide +kernel
theorem dX9_toldOfOne_109 : decode cX9_toldOfOne 109 = .ok (.getfield 19, 3) := by decide +kernel
theorem dX9_toldOfOne_112 : decode cX9_toldOfOne 112 = .ok (.getfield 133, 3) := by decide +kernel
theorem dX9_toldOfOne_115 : decode cX9_toldOfOne 115 = .ok (.iadd, 1) := by decide +kernel
theorem dX9_toldOfOne_116 : decode cX9_toldOfOne 116 = .ok (.iconst 1, 1) := by decide +kernel
theorem dX9_toldOfOne_117 : decode cX9_toldOfOne 117 = .ok (.isub, 1) := by decide +kernel
theorem dX9_toldOfOne_118 : decode cX9_toldOfOne 118 = .ok (.if_icmp .ge 18, 3) := by decide +kernel
theorem dX9_toldOfOne_136 : decode cX9_toldOfOne 136 = .ok (.iconst (-1), 1) := by decide +kernel
theorem dX9_toldOfOne_137 : decode cX9_toldOfOne 137 = .ok (.ireturn, 1) := by decide +kernel
theorem dX9_isSign_0 : decode cX9_isSign 0 = .ok (.iload_n 1, 1) := by decide +kernel
theorem dX9_isSign_1 : decode cX9_isSign 1 = .ok (.ifCond .lt 18, 3) := by decide +kernel
theorem dX9_isSign_4 : decode cX9_isSign 4 = .ok (.iload_n 1, 1) := by decide +kernel
theorem dX9_isSign_5 : decode cX9_isSign 5 = .ok (.aload_n 0, 1) := by decide +kernel
theorem dX9_isSign_6 : decode cX9_isSign 6 = .ok (.getfield 19, 3) := by decide +kernel
theorem dX9_isSign_9 : decode cX9_isSign 9 = .ok (.getfield 124, 3) := by decide +kernel
theorem dX9_isSign_12 : decode cX9_isSign 12 = .ok (.if_icmp .ge 7, 3) := by decide +kernel
theorem dX9_isSign_19 : decode cX9_isSign 19 = .ok (.iconst 0, 1) := by decide +kernel
theorem dX9_isSign_20 : decode cX9_isSign 20 = .ok (.ireturn, 1) := by decide +kernel
theorem dX9_isWork_0 : decode cX9_isWork 0 = .ok (.iload_n 1, 1) := by decide +kernel
theorem dX9_isWork_1 : decode cX9_isWork 1 = .ok (.ifCond .lt 18, 3) := by decide +kernel
theorem dX9_isWork_4 : decode cX9_isWork 4 = .ok (.iload_n 1, 1) := by decide +kernel
theorem dX9_isWork_5 : decode cX9_isWork 5 = .ok (.aload_n 0, 1) := by decide +kernel
theorem dX9_isWork_6 : decode cX9_isWork 6 = .ok (.getfield 19, 3) := by decide +kernel
theorem dX9_isWork_9 : decode cX9_isWork 9 = .ok (.getfield 115, 3) := by decide +kernel
theorem dX9_isWork_12 : decode cX9_isWork 12 = .ok (.if_icmp .ge 7, 3) := by decide +kernel
theorem dX9_isWork_19 : decode cX9_isWork 19 = .ok (.iconst 0, 1) := by decide +kernel
theorem dX9_isWork_20 : decode cX9_isWork 20 = .ok (.ireturn, 1) := by decide +kernel
theorem dX9_isStep_0 : decode cX9_isStep 0 = .ok (.iload_n 0, 1) := by decide +kernel
theorem dX9_isStep_1 : decode cX9_isStep 1 = .ok (.ifCond .lt 14, 3) := by decide +kernel
theorem dX9_isStep_4 : decode cX9_isStep 4 = .ok (.iload_n 0, 1) := by decide +kernel
theorem dX9_isStep_5 : decode cX9_isStep 5 = .ok (.sipush 999, 3) := by decide +kernel
theorem dX9_isStep_8 : decode cX9_isStep 8 = .ok (.if_icmp .gt 7, 3) := by decide +kernel
theorem dX9_isStep_11 : decode cX9_isStep 11 = .ok (.iconst 1, 1) := by decide +kernel
theorem dX9_isStep_12 : decode cX9_isStep 12 = .ok (.goto 4, 3) := by decide +kernel
theorem dX9_isStep_15 : decode cX9_isStep 15 = .ok (.iconst 0, 1) := by decide +kernel
theorem dX9_isStep_16 : decode cX9_isStep 16 = .ok (.ireturn, 1) := by decide +kernel
theorem dX9_bestWork_0 : decode cX9_bestWork 0 = .ok (.iconst (-1), 1) := by decide +kernel
theorem dX9_bestWork_1 : decode cX9_bestWork 1 = .ok (.istore_n 1, 1) := by decide +kernel
theorem dX9_bestWork_2 : decode cX9_bestWork 2 = .ok (.iconst 0, 1) := by decide +kernel
theorem dX9_bestWork_3 : decode cX9_bestWork 3 = .ok (.istore_n 2, 1) := by decide +kernel
theorem dX9_bestWork_4 : decode cX9_bestWork 4 = .ok (.iload_n 2, 1) := by decide +kernel
theorem dX9_bestWork_5 : decode cX9_bestWork 5 = .ok (.aload_n 0, 1) := by decide +kernel
theorem dX9_bestWork_6 : decode cX9_bestWork 6 = .ok (.getfield 19, 3) := by decide +kernel
theorem dX9_bestWork_9 : decode cX9_bestWork 9 = .ok (.getfield 115, 3) := by decide +kernel
theorem dX9_bestWork_12 : decode cX9_bestWork 12 = .ok (.if_icmp .ge 116, 3) := by decide +kernel
theorem dX9_bestWork_128 : decode cX9_bestWork 128 = .ok (.iload_n 1, 1) := by decide +kernel
theorem dX9_bestWork_129 : decode cX9_bestWork 129 = .ok (.ireturn, 1) := by decide +kernel
theorem kk_X9_feed_0 : Cond.fieldLink RX9 10 "PaidBySigns" "reader" "LPaidBySigns$Reader;" ∈ wsX9_feed := by decide +kernel
theorem kk_X9_feed_1 : Cond.fieldLink RX9 86 "PaidBySigns$Reader" "length" "I" ∈ wsX9_feed := by decide +kernel
theorem kk_X7_append_0 : Cond.fieldLink RX7 9 "PaidBySigns$Reader" "length" "I" ∈ wsX7_append := by decide +kernel
theorem kk_X7_append_1 : Cond.fieldLink RX7 28 "PaidBySigns$Reader" "text" "[B" ∈ wsX7_append := by decide +kernel
theorem kk_X9_end_0 : Cond.fieldLink RX9 10 "PaidBySigns" "reader" "LPaidBySigns$Reader;" ∈ wsX9_end := by decide +kernel
theorem kk_X9_end_1 : Cond.fieldLink RX9 86 "PaidBySigns$Reader" "length" "I" ∈ wsX9_end := by decide +kernel
theorem kk_X9_hire_0 : Cond.fieldLink RX9 10 "PaidBySigns" "reader" "LPaidBySigns$Reader;" ∈ wsX9_hire := by decide +kernel
theorem kk_X7_readText_0 : Cond.fieldLink RX7 32 "PaidBySigns$Reader" "next" "I" ∈ wsX7_readText := by decide +kernel
theorem kk_X7_readText_1 : Cond.fieldLink RX7 24 "PaidBySigns$Reader" "into" "LPaidBySigns$Hire;" ∈ wsX7_readText := by decide +kernel
theorem kk_X7_readText_2 : Cond.fieldLink RX7 51 "PaidBySigns$Reader" "hasElse" "Z" ∈ wsX7_readText := by decide +kernel
theorem kk_X7_readText_3 : Cond.fieldLink RX7 55 "PaidBySigns$Reader" "hasLeast" "Z" ∈ wsX7_readText := by decide +kernel
theorem kk_X7_readText_4 : Cond.fieldLink RX7 58 "PaidBySigns$Reader" "hasFeel" "Z" ∈ wsX7_readText := by decide +kernel
theorem kk_X7_readText_5 : Cond.fieldLink RX7 15 "PaidBySigns$Reader" "faultKind" "I" ∈ wsX7_readText := by decide +kernel
theorem kk_X7_readText_6 : Cond.fieldLink RX7 18 "PaidBySigns$Reader" "faultPlace" "I" ∈ wsX7_readText := by decide +kernel
theorem kk_X7_advance_0 : Cond.fieldLink RX7 32 "PaidBySigns$Reader" "next" "I" ∈ wsX7_advance := by decide +kernel
theorem kk_X7_advance_1 : Cond.fieldLink RX7 9 "PaidBySigns$Reader" "length" "I" ∈ wsX7_advance := by decide +kernel
theorem kk_X7_advance_2 : Cond.fieldLink RX7 38 "PaidBySigns$Reader" "start" "I" ∈ wsX7_advance := by decide +kernel
theorem kk_X7_advance_3 : Cond.fieldLink RX7 35 "PaidBySigns$Reader" "token" "I" ∈ wsX7_advance := by decide +kernel
theorem kk_X7_isWord_0 : Cond.fieldLink RX7 35 "PaidBySigns$Reader" "token" "I" ∈ wsX7_isWord := by decide +kernel
theorem kk_X7_readSigns_0 : Cond.fieldLink RX7 24 "PaidBySigns$Reader" "into" "LPaidBySigns$Hire;" ∈ wsX7_readSigns := by decide +kernel
theorem kk_X7_readSigns_1 : Cond.fieldLink RX7 95 "PaidBySigns$Hire" "signs" "I" ∈ wsX7_readSigns := by decide +kernel
theorem kk_X7_fail_0 : Cond.fieldLink RX7 15 "PaidBySigns$Reader" "faultKind" "I" ∈ wsX7_fail := by decide +kernel
theorem kk_X7_fail_1 : Cond.fieldLink RX7 38 "PaidBySigns$Reader" "start" "I" ∈ wsX7_fail := by decide +kernel
theorem kk_X7_fail_2 : Cond.fieldLink RX7 18 "PaidBySigns$Reader" "faultPlace" "I" ∈ wsX7_fail := by decide +kernel
theorem kk_X9_hire_1 : Cond.fieldLink RX9 86 "PaidBySigns$Reader" "length" "I" ∈ wsX9_hire := by decide +kernel
theorem kk_X9_fault_0 : Cond.fieldLink RX9 10 "PaidBySigns" "reader" "LPaidBySigns$Reader;" ∈ wsX9_fault := by decide +kernel
theorem kk_X9_fault_1 : Cond.fieldLink RX9 121 "PaidBySigns$Reader" "faultPlace" "I" ∈ wsX9_fault := by decide +kernel
theorem kk_X9_fault_2 : Cond.fieldLink RX9 118 "PaidBySigns$Reader" "faultKind" "I" ∈ wsX9_fault := by decide +kernel
theorem kk_X9_told_0 : Cond.fieldLink RX9 19 "PaidBySigns" "hire" "LPaidBySigns$Hire;" ∈ wsX9_told := by decide +kernel
theorem kk_X9_told_1 : Cond.fieldLink RX9 124 "PaidBySigns$Hire" "signs" "I" ∈ wsX9_told := by decide +kernel
theorem kk_X9_told_2 : Cond.fieldLink RX9 115 "PaidBySigns$Hire" "works" "I" ∈ wsX9_told := by decide +kernel
theorem kk_X9_told_3 : Cond.fieldLink RX9 127 "PaidBySigns$Hire" "whole" "I" ∈ wsX9_told := by decide +kernel
theorem kk_X9_told_4 : Cond.fieldLink RX9 130 "PaidBySigns$Hire" "otherwise" "I" ∈ wsX9_told := by decide +kernel
theorem kk_X9_told_5 : Cond.fieldLink RX9 101 "PaidBySigns$Hire" "least" "I" ∈ wsX9_told := by decide +kernel
theorem kk_X9_told_6 : Cond.fieldLink RX9 133 "PaidBySigns$Hire" "rates" "I" ∈ wsX9_told := by decide +kernel
theorem kk_X9_toldOfOne_0 : Cond.fieldLink RX9 19 "PaidBySigns" "hire" "LPaidBySigns$Hire;" ∈ wsX9_toldOfOne := by decide +kernel
theorem kk_X9_toldOfOne_1 : Cond.fieldLink RX9 124 "PaidBySigns$Hire" "signs" "I" ∈ wsX9_toldOfOne := by decide +kernel
theorem kk_X9_toldOfOne_2 : Cond.fieldLink RX9 115 "PaidBySigns$Hire" "works" "I" ∈ wsX9_toldOfOne := by decide +kernel
theorem kk_X9_toldOfOne_3 : Cond.fieldLink RX9 133 "PaidBySigns$Hire" "rates" "I" ∈ wsX9_toldOfOne := by decide +kernel
theorem kk_X9_toldOfOne_4 : Cond.fieldLink RX9 301 "PaidBySigns$Hire" "rate" "[I" ∈ wsX9_toldOfOne := by decide +kernel
theorem kk_X9_isWork_0 : Cond.fieldLink RX9 19 "PaidBySigns" "hire" "LPaidBySigns$Hire;" ∈ wsX9_isWork := by decide +kernel
theorem kk_X9_isWork_1 : Cond.fieldLink RX9 115 "PaidBySigns$Hire" "works" "I" ∈ wsX9_isWork := by decide +kernel
theorem kk_X9_feeling_0 : Cond.fieldLink RX9 19 "PaidBySigns" "hire" "LPaidBySigns$Hire;" ∈ wsX9_feeling := by decide +kernel
theorem kk_X3_feltOf_0 : Cond.fieldLink RX3 48 "PaidBySigns$Hire" "rates" "I" ∈ wsX3_feltOf := by decide +kernel
theorem kk_X3_feltOf_1 : Cond.fieldLink RX3 23 "PaidBySigns$Hire" "rate" "[I" ∈ wsX3_feltOf := by decide +kernel
theorem kk_X9_isSign_0 : Cond.fieldLink RX9 19 "PaidBySigns" "hire" "LPaidBySigns$Hire;" ∈ wsX9_isSign := by decide +kernel
theorem kk_X9_isSign_1 : Cond.fieldLink RX9 124 "PaidBySigns$Hire" "signs" "I" ∈ wsX9_isSign := by decide +kernel
theorem kk_X9_worth_0 : Cond.constant RX9 158 (-2000000000) ∈ wsX9_worth := by decide +kernel
theorem kk_X9_leaves_0 : Cond.constant RX9 158 (-2000000000) ∈ wsX9_leaves := by decide +kernel
theorem kk_X9_does_0 : Cond.fieldLink RX9 19 "PaidBySigns" "hire" "LPaidBySigns$Hire;" ∈ wsX9_does := by decide +kernel
theorem kk_X9_does_1 : Cond.fieldLink RX9 115 "PaidBySigns$Hire" "works" "I" ∈ wsX9_does := by decide +kernel
theorem kk_X9_comes_0 : Cond.fieldLink RX9 19 "PaidBySigns" "hire" "LPaidBySigns$Hire;" ∈ wsX9_comes := by decide +kernel
theorem kk_X9_comes_1 : Cond.fieldLink RX9 115 "PaidBySigns$Hire" "works" "I" ∈ wsX9_comes := by decide +kernel
theorem kk_X9_upper_0 : Cond.fieldLink RX9 30 "PaidBySigns" "latest" "LPaidBySigns$Fraction;" ∈ wsX9_upper := by decide +kernel
theorem kk_X9_upper_1 : Cond.fieldLink RX9 166 "PaidBySigns$Fraction" "upper" "J" ∈ wsX9_upper := by decide +kernel
theorem kk_X9_lower_0 : Cond.fieldLink RX9 30 "PaidBySigns" "latest" "LPaidBySigns$Fraction;" ∈ wsX9_lower := by decide +kernel
theorem kk_X9_lower_1 : Cond.fieldLink RX9 170 "PaidBySigns$Fraction" "lower" "J" ∈ wsX9_lower := by decide +kernel
theorem kk_X9_wages_0 : Cond.fieldLink RX9 47 "PaidBySigns" "hasWages" "Z" ∈ wsX9_wages := by decide +kernel
theorem kk_X9_wages_1 : Cond.constantLong RX9 185 (-1) ∈ wsX9_wages := by decide +kernel
theorem kk_X9_bestWork_0 : Cond.fieldLink RX9 19 "PaidBySigns" "hire" "LPaidBySigns$Hire;" ∈ wsX9_bestWork := by decide +kernel
theorem kk_X9_bestWork_1 : Cond.fieldLink RX9 115 "PaidBySigns$Hire" "works" "I" ∈ wsX9_bestWork := by decide +kernel
theorem kk_X9_press_0 : Cond.fieldLink RX9 75 "PaidBySigns" "proofs" "LPaidBySigns$Proofs;" ∈ wsX9_press := by decide +kernel
theorem kk_X6_changeElse_0 : Cond.fieldLink RX6 19 "PaidBySigns$Proofs" "pressOfElse" "I" ∈ wsX6_changeElse := by decide +kernel
theorem kk_X9_by_0 : Cond.fieldLink RX9 75 "PaidBySigns" "proofs" "LPaidBySigns$Proofs;" ∈ wsX9_by := by decide +kernel
theorem kk_X9_by_1 : Cond.fieldLink RX9 251 "PaidBySigns$Proofs" "lowerNumber" "I" ∈ wsX9_by := by decide +kernel
theorem kk_X9_see_0 : Cond.fieldLink RX9 82 "PaidBySigns" "diary" "LPaidBySigns$Diary;" ∈ wsX9_see := by decide +kernel
theorem kk_X1_canTell_0 : Cond.fieldLink RX1 18 "PaidBySigns$Diary" "latestStep" "I" ∈ wsX1_canTell := by decide +kernel
theorem kk_X9_right_0 : Cond.fieldLink RX9 82 "PaidBySigns" "diary" "LPaidBySigns$Diary;" ∈ wsX9_right := by decide +kernel
theorem kk_X1_canCorrect_0 : Cond.fieldLink RX1 9 "PaidBySigns$Diary" "seen" "I" ∈ wsX1_canCorrect := by decide +kernel
theorem kk_X9_guess_0 : Cond.fieldLink RX9 19 "PaidBySigns" "hire" "LPaidBySigns$Hire;" ∈ wsX9_guess := by decide +kernel
theorem kk_X9_guess_1 : Cond.fieldLink RX9 115 "PaidBySigns$Hire" "works" "I" ∈ wsX9_guess := by decide +kernel
theorem kk_X9_count_0 : Cond.fieldLink RX9 82 "PaidBySigns" "diary" "LPaidBySigns$Diary;" ∈ wsX9_count := by decide +kernel
theorem kk_X9_count_1 : Cond.fieldLink RX9 278 "PaidBySigns$Diary" "seen" "I" ∈ wsX9_count := by decide +kernel
theorem kk_X9_count_2 : Cond.fieldLink RX9 287 "PaidBySigns$Diary" "rights" "I" ∈ wsX9_count := by decide +kernel
theorem kk_X9_count_3 : Cond.fieldLink RX9 75 "PaidBySigns" "proofs" "LPaidBySigns$Proofs;" ∈ wsX9_count := by decide +kernel
theorem kk_X9_count_4 : Cond.fieldLink RX9 251 "PaidBySigns$Proofs" "lowerNumber" "I" ∈ wsX9_count := by decide +kernel
theorem kk_X9_count_5 : Cond.fieldLink RX9 10 "PaidBySigns" "reader" "LPaidBySigns$Reader;" ∈ wsX9_count := by decide +kernel
theorem kk_X9_count_6 : Cond.fieldLink RX9 86 "PaidBySigns$Reader" "length" "I" ∈ wsX9_count := by decide +kernel
theorem iw_X9_feed_X9 : ∀ w ∈ wsX90, w ∈ wsX9_feed := by decide +kernel
theorem iw_X9_feed_X7 : ∀ w ∈ wsX70, w ∈ wsX9_feed := by decide +kernel
theorem iw_X7_append_X7 : ∀ w ∈ wsX70, w ∈ wsX7_append := by decide +kernel
theorem iw_X9_end_X9 : ∀ w ∈ wsX90, w ∈ wsX9_end := by decide +kernel
theorem iw_X9_end_X7 : ∀ w ∈ wsX70, w ∈ wsX9_end := by decide +kernel
theorem iw_X9_hire_X9 : ∀ w ∈ wsX90, w ∈ wsX9_hire := by decide +kernel
theorem iw_X7_readText_X7 : ∀ w ∈ wsX70, w ∈ wsX7_readText := by decide +kernel
theorem iw_X7_advance_X7 : ∀ w ∈ wsX70, w ∈ wsX7_advance := by decide +kernel
theorem iw_X7_isWord_X7 : ∀ w ∈ wsX70, w ∈ wsX7_isWord := by decide +kernel
theorem iw_X7_readSigns_X7 : ∀ w ∈ wsX70, w ∈ wsX7_readSigns := by decide +kernel
theorem iw_X7_readSigns_X3 : ∀ w ∈ wsX30, w ∈ wsX7_readSigns := by decide +kernel
theorem iw_X7_fail_X7 : ∀ w ∈ wsX70, w ∈ wsX7_fail := by decide +kernel
theorem iw_X9_hire_X7 : ∀ w ∈ wsX70, w ∈ wsX9_hire := by decide +kernel
theorem iw_X9_fault_X9 : ∀ w ∈ wsX90, w ∈ wsX9_fault := by decide +kernel
theorem iw_X9_fault_X7 : ∀ w ∈ wsX70, w ∈ wsX9_fault := by decide +kernel
theorem iw_X9_told_X9 : ∀ w ∈ wsX90, w ∈ wsX9_told := by decide +kernel
theorem iw_X9_told_X3 : ∀ w ∈ wsX30, w ∈ wsX9_told := by decide +kernel
theorem iw_X9_toldOfOne_X9 : ∀ w ∈ wsX90, w ∈ wsX9_toldOfOne := by decide +kernel
theorem iw_X9_toldOfOne_X3 : ∀ w ∈ wsX30, w ∈ wsX9_toldOfOne := by decide +kernel
theorem iw_X9_isWork_X9 : ∀ w ∈ wsX90, w ∈ wsX9_isWork := by decide +kernel
theorem iw_X9_isWork_X3 : ∀ w ∈ wsX30, w ∈ wsX9_isWork := by decide +kernel
theorem iw_X9_feeling_X9 : ∀ w ∈ wsX90, w ∈ wsX9_feeling := by decide +kernel
theorem iw_X3_feltOf_X3 : ∀ w ∈ wsX30, w ∈ wsX3_feltOf := by decide +kernel
theorem iw_X9_isSign_X9 : ∀ w ∈ wsX90, w ∈ wsX9_isSign := by decide +kernel
theorem iw_X9_isSign_X3 : ∀ w ∈ wsX30, w ∈ wsX9_isSign := by decide +kernel
theorem iw_X9_does_X9 : ∀ w ∈ wsX90, w ∈ wsX9_does := by decide +kernel
theorem iw_X9_does_X3 : ∀ w ∈ wsX30, w ∈ wsX9_does := by decide +kernel
theorem iw_X9_comes_X9 : ∀ w ∈ wsX90, w ∈ wsX9_comes := by decide +kernel
theorem iw_X9_comes_X3 : ∀ w ∈ wsX30, w ∈ wsX9_comes := by decide +kernel
theorem iw_X9_upper_X9 : ∀ w ∈ wsX90, w ∈ wsX9_upper := by decide +kernel
theorem iw_X9_upper_X2 : ∀ w ∈ wsX20, w ∈ wsX9_upper := by decide +kernel
theorem iw_X9_lower_X9 : ∀ w ∈ wsX90, w ∈ wsX9_lower := by decide +kernel
theorem iw_X9_lower_X2 : ∀ w ∈ wsX20, w ∈ wsX9_lower := by decide +kernel
theorem iw_X9_wages_X9 : ∀ w ∈ wsX90, w ∈ wsX9_wages := by decide +kernel
theorem iw_X9_bestWork_X9 : ∀ w ∈ wsX90, w ∈ wsX9_bestWork := by decide +kernel
theorem iw_X9_bestWork_X3 : ∀ w ∈ wsX30, w ∈ wsX9_bestWork := by decide +kernel
theorem iw_X9_press_X9 : ∀ w ∈ wsX90, w ∈ wsX9_press := by decide +kernel
theorem iw_X6_changeElse_X6 : ∀ w ∈ wsX60, w ∈ wsX6_changeElse := by decide +kernel
theorem iw_X9_by_X9 : ∀ w ∈ wsX90, w ∈ wsX9_by := by decide +kernel
theorem iw_X9_by_X6 : ∀ w ∈ wsX60, w ∈ wsX9_by := by decide +kernel
theorem iw_X9_see_X9 : ∀ w ∈ wsX90, w ∈ wsX9_see := by decide +kernel
theorem iw_X1_canTell_X1 : ∀ w ∈ wsX10, w ∈ wsX1_canTell := by decide +kernel
theorem iw_X9_right_X9 : ∀ w ∈ wsX90, w ∈ wsX9_right := by decide +kernel
theorem iw_X1_canCorrect_X1 : ∀ w ∈ wsX10, w ∈ wsX1_canCorrect := by decide +kernel
theorem iw_X9_guess_X9 : ∀ w ∈ wsX90, w ∈ wsX9_guess := by decide +kernel
theorem iw_X9_guess_X3 : ∀ w ∈ wsX30, w ∈ wsX9_guess := by decide +kernel
theorem iw_X9_count_X9 : ∀ w ∈ wsX90, w ∈ wsX9_count := by decide +kernel
theorem iw_X9_count_X1 : ∀ w ∈ wsX10, w ∈ wsX9_count := by decide +kernel
theorem iw_X9_count_X6 : ∀ w ∈ wsX60, w ∈ wsX9_count := by decide +kernel
theorem iw_X9_count_X7 : ∀ w ∈ wsX70, w ∈ wsX9_count := by decide +kernel
set_option maxHeartbeats 4000000 in
set_option maxRecDepth 100000 in
theorem ct_X7_append (l : Launch) (dC : Nat → ClassId) (dI : Nat → Nat → Nat) (ad0 : Nat) (vi0 : Int32) (ad1 : Nat) (ad2 : Nat) (ad3 : Nat) (ad4 : Nat) (ck0 : ClassId) (fn0 : Nat → Int32) (sz : Nat) : Met l yX7_append wsX7_append ({ frames := 0, cells := 0, slots := 0, locals := 0 }) (va_Pc [.ref ad0, .int vi0] (fun U => U.heap.size = sz ∧ va_P (dC, dI) vwCl [(ad0, .inr (7, [.int 0, .int 0, .int (-1), .ref ad1, .ref ad2, .int 0, .int 0, .int 0, .int 0, .ref ad3, .ref ad4, .int 0, .int 0, .int 0])), (ad2, .inl (ck0, 900, .inl fn0))] U.heap ∧ va_K (dC, dI) vwCl [(ck0, .byte)] U ∧ va_D (fun _ => True) [(ad0, .inr (7, [.int 0, .int 0, .int (-1), .ref ad1, .ref ad2, .int 0, .int 0, .int 0, .int 0, .ref ad3, .ref ad4, .int 0, .int 0, .int 0])), (ad2, .inl (ck0, 900, .inl fn0))])) (va_Qv (fun _ : Unit => True) (fun _ t => ∃ (f12 : Nat → Int32), va_P (dC, dI) vwCl [(ad0, .inr (7, [.int 4, .int 0, .int (-1), .ref ad1, .ref ad2, .int 0, .int 0, .int 0, .int 0, .ref ad3, .ref ad4, .int 0, .int 0, .int 0])), (ad2, .inl (ck0, 900, .inl f12))] t.heap ∧ va_K (dC, dI) vwCl [(ck0, .byte)] t ∧ va_D (va_A [(ad0, .inr (7, [.int 0, .int 0, .int (-1), .ref ad1, .ref ad2, .int 0, .int 0, .int 0, .int 0, .ref ad3, .ref ad4, .int 0, .int 0, .int 0])), (ad2, .inl (ck0, 900, .inl fn0))] sz) [(ad0, .inr (7, [.int 4, .int 0, .int (-1), .ref ad1, .ref ad2, .int 0, .int 0, .int 0, .int 0, .ref ad3, .ref ad4, .int 0, .int 0, .int 0])), (ad2, .inl (ck0, 900, .inl f12))]) (va_A [(ad0, .inr (7, [.int 0, .int 0, .int (-1), .ref ad1, .ref ad2, .int 0, .int 0, .int 0, .int 0, .ref ad3, .ref ad4, .int 0, .int 0, .int 0])), (ad2, .inl (ck0, 900, .inl fn0))] sz)) 0 0 (va_A [(ad0, .inr (7, [.int 0, .int 0, .int (-1), .ref ad1, .ref ad2, .int 0, .int 0, .int 0, .int 0, .ref ad3, .ref ad4, .int 0, .int 0, .int 0])), (ad2, .inl (ck0, 900, .inl fn0))] sz) := by
  refine Met.ofW (cc := cX7_append) (maxL := 3) (ret := none) (by decide) rfl ?_
  intro p e s m args below meth c s₁ B hml hv
  obtain ⟨rfl, hsz, hP, hK, hD0⟩ := hv
  have hx := B.exec
  have hb := B.bytes
  have hr := B.returns
  have hts := atoms_spec (ws := wsX7_append) B.pre
  have hown : s.vm.findClass RX7 = some m.cls := findClass_of_methodNamed B.named
  have hlocks := B.notSynchronized
  subst hsz
  have hD := hD0.self (sz := s.heap.size)
  generalize hAe : va_A [(ad0, .inr (7, [.int 0, .int 0, .int (-1), .ref ad1, .ref ad2, .int 0, .int 0, .int 0, .int 0, .ref ad3, .ref ad4, .int 0, .int 0, .int 0])), (ad2, .inl (ck0, 900, .inl fn0))] s.heap.size = A at hD ⊢
  have hA : ∀ q : Nat, s.heap.size ≤ q → A q := fun q h => by rw [← hAe]; exact Or.inr h
  have hS : va_S A s.heap s.heap [] := va_S.rf
  have hP : va_P (dC, dI) vwCl [(ad0, .inr (7, [.int 0, .int 0, .int (-1), .ref ad1, .ref ad2, .int 0, .int 0, .int 0, .int 0, .ref ad3, .ref ad4, .int 0, .int 0, .int 0])), (ad2, .inl (ck0, 900, .inl fn0))] s.heap := hP
  have hl := lv_entry ([.ref ad0, .int vi0]) (n := 3) (Nat.le_of_ble_eq_true rfl)
  rw [lg_entry_eq]
  generalize (lg_sl ([.ref ad0, .int vi0]) ++ List.replicate (3 - (lg_sl ([.ref ad0, .int vi0])).length) Slot.unset).toArray = ls at hl ⊢
  have hl : lv_has ls 3 [(0, .ref ad0), (1, .int vi0)] := hl
  refine lv_bipush (v := 24) hx hb dX7_append_0 (by decide) ?_
  refine lv_istore_n (lv' := [(2, .int 24), (0, .ref ad0), (1, .int vi0)]) hx hb dX7_append_2 rfl hl (by decide) rfl (fun ls hl => ?_)
  refine lv_iload_n hx hb dX7_append_3 rfl (lv_at hl 0 rfl) ?_
  refine lv_if_lt (tgt := 46) hx hb dX7_append_4 (by decide) (fun cz => absurd cz (by decide)) (fun _ => ?_)
  refine lv_aload_n hx hb dX7_append_7 rfl (lv_at hl 1 rfl) ?_
  refine va_get (D := (dC, dI)) (ci := 7) (v := .int 0) (C := RX7) (T := TX7) (N := 14) hx hb hts iw_X7_append_X7 hown hK hP 0 rfl rfl 0 (by decide) (hts _ kk_X7_append_0) (fun _ h9 => h9) rfl dX7_append_8 ?_
  refine lv_sipush (v := 900) hx hb dX7_append_11 (by decide) ?_
  refine lv_icmp_ge (tgt := 46) hx hb dX7_append_14 (by decide) (fun cz => absurd cz (by decide)) (fun _ => ?_)
  refine lv_aload_n hx hb dX7_append_17 rfl (lv_at hl 1 rfl) ?_
  refine va_get (D := (dC, dI)) (ci := 7) (v := .ref ad2) (C := RX7) (T := TX7) (N := 14) hx hb hts iw_X7_append_X7 hown hK hP 0 rfl rfl 4 (by decide) (hts _ kk_X7_append_1) (fun _ h9 => h9) rfl dX7_append_18 ?_
  refine lv_aload_n hx hb dX7_append_21 rfl (lv_at hl 1 rfl) ?_
  refine va_get (D := (dC, dI)) (ci := 7) (v := .int 0) (C := RX7) (T := TX7) (N := 14) hx hb hts iw_X7_append_X7 hown hK hP 0 rfl rfl 0 (by decide) (hts _ kk_X7_append_0) (fun _ h9 => h9) rfl dX7_append_22 ?_
  refine lv_iload_n hx hb dX7_append_25 rfl (lv_at hl 2 rfl) ?_
  refine lv_iload_n hx hb dX7_append_26 rfl (lv_at hl 0 rfl) ?_
  obtain ⟨x1, ex1⟩ : ∃ v : Int32, ((vi0 : Int32).toUInt32 >>> ((24 : Int32).toUInt32 &&& Int32.toUInt32 31)).toInt32 = v := ⟨_, rfl⟩
  refine lv_iushr hx hb dX7_append_27 ex1 ?_
  obtain ⟨x2, ex2⟩ : ∃ v : Int32, (x1 : Int32).toInt8.toInt32 = v := ⟨_, rfl⟩
  refine lv_i2b hx hb dX7_append_28 ex2 ?_
  refine va_bast hx hb hK hP hD hS 1 0 rfl rfl (vq_in 0 900 (by decide)) dX7_append_29 (fun H locs hP hD hS => ?_)
  have hP : va_P (dC, dI) vwCl [(ad0, .inr (7, [.int 0, .int 0, .int (-1), .ref ad1, .ref ad2, .int 0, .int 0, .int 0, .int 0, .ref ad3, .ref ad4, .int 0, .int 0, .int 0])), (ad2, .inl (ck0, 900, .inl (upd fn0 (Int32.toNatClampNeg 0) (vp_nar .byte x2))))] H := hP
  have hD : va_D A [(ad0, .inr (7, [.int 0, .int 0, .int (-1), .ref ad1, .ref ad2, .int 0, .int 0, .int 0, .int 0, .ref ad3, .ref ad4, .int 0, .int 0, .int 0])), (ad2, .inl (ck0, 900, .inl (upd fn0 (Int32.toNatClampNeg 0) (vp_nar .byte x2))))] := hD
  generalize upd fn0 (Int32.toNatClampNeg 0) (vp_nar .byte x2) = f3 at hP hD
  refine lv_aload_n hx hb dX7_append_30 rfl (lv_at hl 1 rfl) ?_
  refine lv_dup hx hb dX7_append_31 rfl ?_
  refine va_get (D := (dC, dI)) (ci := 7) (v := .int 0) (C := RX7) (T := TX7) (N := 14) hx hb hts iw_X7_append_X7 hown hK hP 0 rfl rfl 0 (by decide) (hts _ kk_X7_append_0) (fun _ h9 => h9) rfl dX7_append_32 ?_
  refine lv_iconst (v := 1) hx hb dX7_append_35 (by decide) ?_
  refine lv_iadd hx hb dX7_append_36 ?_
  refine px_i (v := 1) (by decide) ?_
  refine va_put (D := (dC, dI)) (ci := 7) (v := .int 1) (ty := .int) (C := RX7) (T := TX7) (N := 14) hx hb hts iw_X7_append_X7 tyX7 tyX7_ok nmX7 hown hK hP hD hS 0 rfl rfl 0 (by decide) (hts _ kk_X7_append_0) (fun _ h9 => h9) rfl (by decide +kernel) rfl rfl (Nat.le_of_ble_eq_true rfl) dX7_append_37 (fun H locs hP hD hS => ?_)
  have hP : va_P (dC, dI) vwCl [(ad0, .inr (7, [.int 1, .int 0, .int (-1), .ref ad1, .ref ad2, .int 0, .int 0, .int 0, .int 0, .ref ad3, .ref ad4, .int 0, .int 0, .int 0])), (ad2, .inl (ck0, 900, .inl f3))] H := hP
  have hD : va_D A [(ad0, .inr (7, [.int 1, .int 0, .int (-1), .ref ad1, .ref ad2, .int 0, .int 0, .int 0, .int 0, .ref ad3, .ref ad4, .int 0, .int 0, .int 0])), (ad2, .inl (ck0, 900, .inl f3))] := hD
  refine lv_iinc (v := 16) (lv' := [(2, .int 16), (0, .ref ad0), (1, .int vi0)]) hx hb dX7_append_40 hl (k := 0) rfl (by decide) (by decide) rfl (fun ls hl => ?_)
  refine lv_goto (tgt := 3) hx hb dX7_append_43 (by decide) ?_
  refine lv_iload_n hx hb dX7_append_3 rfl (lv_at hl 0 rfl) ?_
  refine lv_if_lt (tgt := 46) hx hb dX7_append_4 (by decide) (fun cz => absurd cz (by decide)) (fun _ => ?_)
  refine lv_aload_n hx hb dX7_append_7 rfl (lv_at hl 1 rfl) ?_
  refine va_get (D := (dC, dI)) (ci := 7) (v := .int 1) (C := RX7) (T := TX7) (N := 14) hx hb hts iw_X7_append_X7 hown hK hP 0 rfl rfl 0 (by decide) (hts _ kk_X7_append_0) (fun _ h9 => h9) rfl dX7_append_8 ?_
  refine lv_sipush (v := 900) hx hb dX7_append_11 (by decide) ?_
  refine lv_icmp_ge (tgt := 46) hx hb dX7_append_14 (by decide) (fun cz => absurd cz (by decide)) (fun _ => ?_)
  refine lv_aload_n hx hb dX7_append_17 rfl (lv_at hl 1 rfl) ?_
  refine va_get (D := (dC, dI)) (ci := 7) (v := .ref ad2) (C := RX7) (T := TX7) (N := 14) hx hb hts iw_X7_append_X7 hown hK hP 0 rfl rfl 4 (by decide) (hts _ kk_X7_append_1) (fun _ h9 => h9) rfl dX7_append_18 ?_
  refine lv_aload_n hx hb dX7_append_21 rfl (lv_at hl 1 rfl) ?_
  refine va_get (D := (dC, dI)) (ci := 7) (v := .int 1) (C := RX7) (T := TX7) (N := 14) hx hb hts iw_X7_append_X7 hown hK hP 0 rfl rfl 0 (by decide) (hts _ kk_X7_append_0) (fun _ h9 => h9) rfl dX7_append_22 ?_
  refine lv_iload_n hx hb dX7_append_25 rfl (lv_at hl 2 rfl) ?_
  refine lv_iload_n hx hb dX7_append_26 rfl (lv_at hl 0 rfl) ?_
  obtain ⟨x4, ex4⟩ : ∃ v : Int32, ((vi0 : Int32).toUInt32 >>> ((16 : Int32).toUInt32 &&& Int32.toUInt32 31)).toInt32 = v := ⟨_, rfl⟩
  refine lv_iushr hx hb dX7_append_27 ex4 ?_
  obtain ⟨x5, ex5⟩ : ∃ v : Int32, (x4 : Int32).toInt8.toInt32 = v := ⟨_, rfl⟩
  refine lv_i2b hx hb dX7_append_28 ex5 ?_
  refine va_bast hx hb hK hP hD hS 1 0 rfl rfl (vq_in 1 900 (by decide)) dX7_append_29 (fun H locs hP hD hS => ?_)
  have hP : va_P (dC, dI) vwCl [(ad0, .inr (7, [.int 1, .int 0, .int (-1), .ref ad1, .ref ad2, .int 0, .int 0, .int 0, .int 0, .ref ad3, .ref ad4, .int 0, .int 0, .int 0])), (ad2, .inl (ck0, 900, .inl (upd f3 (Int32.toNatClampNeg 1) (vp_nar .byte x5))))] H := hP
  have hD : va_D A [(ad0, .inr (7, [.int 1, .int 0, .int (-1), .ref ad1, .ref ad2, .int 0, .int 0, .int 0, .int 0, .ref ad3, .ref ad4, .int 0, .int 0, .int 0])), (ad2, .inl (ck0, 900, .inl (upd f3 (Int32.toNatClampNeg 1) (vp_nar .byte x5))))] := hD
  generalize upd f3 (Int32.toNatClampNeg 1) (vp_nar .byte x5) = f6 at hP hD
  refine lv_aload_n hx hb dX7_append_30 rfl (lv_at hl 1 rfl) ?_
  refine lv_dup hx hb dX7_append_31 rfl ?_
  refine va_get (D := (dC, dI)) (ci := 7) (v := .int 1) (C := RX7) (T := TX7) (N := 14) hx hb hts iw_X7_append_X7 hown hK hP 0 rfl rfl 0 (by decide) (hts _ kk_X7_append_0) (fun _ h9 => h9) rfl dX7_append_32 ?_
  refine lv_iconst (v := 1) hx hb dX7_append_35 (by decide) ?_
  refine lv_iadd hx hb dX7_append_36 ?_
  refine px_i (v := 2) (by decide) ?_
  refine va_put (D := (dC, dI)) (ci := 7) (v := .int 2) (ty := .int) (C := RX7) (T := TX7) (N := 14) hx hb hts iw_X7_append_X7 tyX7 tyX7_ok nmX7 hown hK hP hD hS 0 rfl rfl 0 (by decide) (hts _ kk_X7_append_0) (fun _ h9 => h9) rfl (by decide +kernel) rfl rfl (Nat.le_of_ble_eq_true rfl) dX7_append_37 (fun H locs hP hD hS => ?_)
  have hP : va_P (dC, dI) vwCl [(ad0, .inr (7, [.int 2, .int 0, .int (-1), .ref ad1, .ref ad2, .int 0, .int 0, .int 0, .int 0, .ref ad3, .ref ad4, .int 0, .int 0, .int 0])), (ad2, .inl (ck0, 900, .inl f6))] H := hP
  have hD : va_D A [(ad0, .inr (7, [.int 2, .int 0, .int (-1), .ref ad1, .ref ad2, .int 0, .int 0, .int 0, .int 0, .ref ad3, .ref ad4, .int 0, .int 0, .int 0])), (ad2, .inl (ck0, 900, .inl f6))] := hD
  refine lv_iinc (v := 8) (lv' := [(2, .int 8), (0, .ref ad0), (1, .int vi0)]) hx hb dX7_append_40 hl (k := 0) rfl (by decide) (by decide) rfl (fun ls hl => ?_)
  refine lv_goto (tgt := 3) hx hb dX7_append_43 (by decide) ?_
  refine lv_iload_n hx hb dX7_append_3 rfl (lv_at hl 0 rfl) ?_
  refine lv_if_lt (tgt := 46) hx hb dX7_append_4 (by decide) (fun cz => absurd cz (by decide)) (fun _ => ?_)
  refine lv_aload_n hx hb dX7_append_7 rfl (lv_at hl 1 rfl) ?_
  refine va_get (D := (dC, dI)) (ci := 7) (v := .int 2) (C := RX7) (T := TX7) (N := 14) hx hb hts iw_X7_append_X7 hown hK hP 0 rfl rfl 0 (by decide) (hts _ kk_X7_append_0) (fun _ h9 => h9) rfl dX7_append_8 ?_
  refine lv_sipush (v := 900) hx hb dX7_append_11 (by decide) ?_
  refine lv_icmp_ge (tgt := 46) hx hb dX7_append_14 (by decide) (fun cz => absurd cz (by decide)) (fun _ => ?_)
  refine lv_aload_n hx hb dX7_append_17 rfl (lv_at hl 1 rfl) ?_
  refine va_get (D := (dC, dI)) (ci := 7) (v := .ref ad2) (C := RX7) (T := TX7) (N := 14) hx hb hts iw_X7_append_X7 hown hK hP 0 rfl rfl 4 (by decide) (hts _ kk_X7_append_1) (fun _ h9 => h9) rfl dX7_append_18 ?_
  refine lv_aload_n hx hb dX7_append_21 rfl (lv_at hl 1 rfl) ?_
  refine va_get (D := (dC, dI)) (ci := 7) (v := .int 2) (C := RX7) (T := TX7) (N := 14) hx hb hts iw_X7_append_X7 hown hK hP 0 rfl rfl 0 (by decide) (hts _ kk_X7_append_0) (fun _ h9 => h9) rfl dX7_append_22 ?_
  refine lv_iload_n hx hb dX7_append_25 rfl (lv_at hl 2 rfl) ?_
  refine lv_iload_n hx hb dX7_append_26 rfl (lv_at hl 0 rfl) ?_
  obtain ⟨x7, ex7⟩ : ∃ v : Int32, ((vi0 : Int32).toUInt32 >>> ((8 : Int32).toUInt32 &&& Int32.toUInt32 31)).toInt32 = v := ⟨_, rfl⟩
  refine lv_iushr hx hb dX7_append_27 ex7 ?_
  obtain ⟨x8, ex8⟩ : ∃ v : Int32, (x7 : Int32).toInt8.toInt32 = v := ⟨_, rfl⟩
  refine lv_i2b hx hb dX7_append_28 ex8 ?_
  refine va_bast hx hb hK hP hD hS 1 0 rfl rfl (vq_in 2 900 (by decide)) dX7_append_29 (fun H locs hP hD hS => ?_)
  have hP : va_P (dC, dI) vwCl [(ad0, .inr (7, [.int 2, .int 0, .int (-1), .ref ad1, .ref ad2, .int 0, .int 0, .int 0, .int 0, .ref ad3, .ref ad4, .int 0, .int 0, .int 0])), (ad2, .inl (ck0, 900, .inl (upd f6 (Int32.toNatClampNeg 2) (vp_nar .byte x8))))] H := hP
  have hD : va_D A [(ad0, .inr (7, [.int 2, .int 0, .int (-1), .ref ad1, .ref ad2, .int 0, .int 0, .int 0, .int 0, .ref ad3, .ref ad4, .int 0, .int 0, .int 0])), (ad2, .inl (ck0, 900, .inl (upd f6 (Int32.toNatClampNeg 2) (vp_nar .byte x8))))] := hD
  generalize upd f6 (Int32.toNatClampNeg 2) (vp_nar .byte x8) = f9 at hP hD
  refine lv_aload_n hx hb dX7_append_30 rfl (lv_at hl 1 rfl) ?_
  refine lv_dup hx hb dX7_append_31 rfl ?_
  refine va_get (D := (dC, dI)) (ci := 7) (v := .int 2) (C := RX7) (T := TX7) (N := 14) hx hb hts iw_X7_append_X7 hown hK hP 0 rfl rfl 0 (by decide) (hts _ kk_X7_append_0) (fun _ h9 => h9) rfl dX7_append_32 ?_
  refine lv_iconst (v := 1) hx hb dX7_append_35 (by decide) ?_
  refine lv_iadd hx hb dX7_append_36 ?_
  refine px_i (v := 3) (by decide) ?_
  refine va_put (D := (dC, dI)) (ci := 7) (v := .int 3) (ty := .int) (C := RX7) (T := TX7) (N := 14) hx hb hts iw_X7_append_X7 tyX7 tyX7_ok nmX7 hown hK hP hD hS 0 rfl rfl 0 (by decide) (hts _ kk_X7_append_0) (fun _ h9 => h9) rfl (by decide +kernel) rfl rfl (Nat.le_of_ble_eq_true rfl) dX7_append_37 (fun H locs hP hD hS => ?_)
  have hP : va_P (dC, dI) vwCl [(ad0, .inr (7, [.int 3, .int 0, .int (-1), .ref ad1, .ref ad2, .int 0, .int 0, .int 0, .int 0, .ref ad3, .ref ad4, .int 0, .int 0, .int 0])), (ad2, .inl (ck0, 900, .inl f9))] H := hP
  have hD : va_D A [(ad0, .inr (7, [.int 3, .int 0, .int (-1), .ref ad1, .ref ad2, .int 0, .int 0, .int 0, .int 0, .ref ad3, .ref ad4, .int 0, .int 0, .int 0])), (ad2, .inl (ck0, 900, .inl f9))] := hD
  refine lv_iinc (v := 0) (lv' := [(2, .int 0), (0, .ref ad0), (1, .int vi0)]) hx hb dX7_append_40 hl (k := 0) rfl (by decide) (by decide) rfl (fun ls hl => ?_)
  refine lv_goto (tgt := 3) hx hb dX7_append_43 (by decide) ?_
  refine lv_iload_n hx hb dX7_append_3 rfl (lv_at hl 0 rfl) ?_
  refine lv_if_lt (tgt := 46) hx hb dX7_append_4 (by decide) (fun cz => absurd cz (by decide)) (fun _ => ?_)
  refine lv_aload_n hx hb dX7_append_7 rfl (lv_at hl 1 rfl) ?_
  refine va_get (D := (dC, dI)) (ci := 7) (v := .int 3) (C := RX7) (T := TX7) (N := 14) hx hb hts iw_X7_append_X7 hown hK hP 0 rfl rfl 0 (by decide) (hts _ kk_X7_append_0) (fun _ h9 => h9) rfl dX7_append_8 ?_
  refine lv_sipush (v := 900) hx hb dX7_append_11 (by decide) ?_
  refine lv_icmp_ge (tgt := 46) hx hb dX7_append_14 (by decide) (fun cz => absurd cz (by decide)) (fun _ => ?_)
  refine lv_aload_n hx hb dX7_append_17 rfl (lv_at hl 1 rfl) ?_
  refine va_get (D := (dC, dI)) (ci := 7) (v := .ref ad2) (C := RX7) (T := TX7) (N := 14) hx hb hts iw_X7_append_X7 hown hK hP 0 rfl rfl 4 (by decide) (hts _ kk_X7_append_1) (fun _ h9 => h9) rfl dX7_append_18 ?_
  refine lv_aload_n hx hb dX7_append_21 rfl (lv_at hl 1 rfl) ?_
  refine va_get (D := (dC, dI)) (ci := 7) (v := .int 3) (C := RX7) (T := TX7) (N := 14) hx hb hts iw_X7_append_X7 hown hK hP 0 rfl rfl 0 (by decide) (hts _ kk_X7_append_0) (fun _ h9 => h9) rfl dX7_append_22 ?_
  refine lv_iload_n hx hb dX7_append_25 rfl (lv_at hl 2 rfl) ?_
  refine lv_iload_n hx hb dX7_append_26 rfl (lv_at hl 0 rfl) ?_
  obtain ⟨x10, ex10⟩ : ∃ v : Int32, ((vi0 : Int32).toUInt32 >>> ((0 : Int32).toUInt32 &&& Int32.toUInt32 31)).toInt32 = v := ⟨_, rfl⟩
  refine lv_iushr hx hb dX7_append_27 ex10 ?_
  obtain ⟨x11, ex11⟩ : ∃ v : Int32, (x10 : Int32).toInt8.toInt32 = v := ⟨_, rfl⟩
  refine lv_i2b hx hb dX7_append_28 ex11 ?_
  refine va_bast hx hb hK hP hD hS 1 0 rfl rfl (vq_in 3 900 (by decide)) dX7_append_29 (fun H locs hP hD hS => ?_)
  have hP : va_P (dC, dI) vwCl [(ad0, .inr (7, [.int 3, .int 0, .int (-1), .ref ad1, .ref ad2, .int 0, .int 0, .int 0, .int 0, .ref ad3, .ref ad4, .int 0, .int 0, .int 0])), (ad2, .inl (ck0, 900, .inl (upd f9 (Int32.toNatClampNeg 3) (vp_nar .byte x11))))] H := hP
  have hD : va_D A [(ad0, .inr (7, [.int 3, .int 0, .int (-1), .ref ad1, .ref ad2, .int 0, .int 0, .int 0, .int 0, .ref ad3, .ref ad4, .int 0, .int 0, .int 0])), (ad2, .inl (ck0, 900, .inl (upd f9 (Int32.toNatClampNeg 3) (vp_nar .byte x11))))] := hD
  generalize upd f9 (Int32.toNatClampNeg 3) (vp_nar .byte x11) = f12 at hP hD
  refine lv_aload_n hx hb dX7_append_30 rfl (lv_at hl 1 rfl) ?_
  refine lv_dup hx hb dX7_append_31 rfl ?_
  refine va_get (D := (dC, dI)) (ci := 7) (v := .int 3) (C := RX7) (T := TX7) (N := 14) hx hb hts iw_X7_append_X7 hown hK hP 0 rfl rfl 0 (by decide) (hts _ kk_X7_append_0) (fun _ h9 => h9) rfl dX7_append_32 ?_
  refine lv_iconst (v := 1) hx hb dX7_append_35 (by decide) ?_
  refine lv_iadd hx hb dX7_append_36 ?_
  refine px_i (v := 4) (by decide) ?_
  refine va_put (D := (dC, dI)) (ci := 7) (v := .int 4) (ty := .int) (C := RX7) (T := TX7) (N := 14) hx hb hts iw_X7_append_X7 tyX7 tyX7_ok nmX7 hown hK hP hD hS 0 rfl rfl 0 (by decide) (hts _ kk_X7_append_0) (fun _ h9 => h9) rfl (by decide +kernel) rfl rfl (Nat.le_of_ble_eq_true rfl) dX7_append_37 (fun H locs hP hD hS => ?_)
  have hP : va_P (dC, dI) vwCl [(ad0, .inr (7, [.int 4, .int 0, .int (-1), .ref ad1, .ref ad2, .int 0, .int 0, .int 0, .int 0, .ref ad3, .ref ad4, .int 0, .int 0, .int 0])), (ad2, .inl (ck0, 900, .inl f12))] H := hP
  have hD : va_D A [(ad0, .inr (7, [.int 4, .int 0, .int (-1), .ref ad1, .ref ad2, .int 0, .int 0, .int 0, .int 0, .ref ad3, .ref ad4, .int 0, .int 0, .int 0])), (ad2, .inl (ck0, 900, .inl f12))] := hD
  refine lv_iinc (v := (-8)) (lv' := [(2, .int (-8)), (0, .ref ad0), (1, .int vi0)]) hx hb dX7_append_40 hl (k := 0) rfl (by decide) (by decide) rfl (fun ls hl => ?_)
  refine lv_goto (tgt := 3) hx hb dX7_append_43 (by decide) ?_
  refine lv_iload_n hx hb dX7_append_3 rfl (lv_at hl 0 rfl) ?_
  refine lv_if_lt (tgt := 46) hx hb dX7_append_4 (by decide) (fun _ => ?_) (fun cz => absurd cz (by decide))
  refine W.widen (k := 0) (n := 0) (by decide) (by decide) ?_
  have hP9 := hP.sub (ws' := [(ad0, .inr (7, [.int 4, .int 0, .int (-1), .ref ad1, .ref ad2, .int 0, .int 0, .int 0, .int 0, .ref ad3, .ref ad4, .int 0, .int 0, .int 0])), (ad2, .inl (ck0, 900, .inl f12))]) [0, 1] rfl
  have hD9 := hD.sub (ws' := [(ad0, .inr (7, [.int 4, .int 0, .int (-1), .ref ad1, .ref ad2, .int 0, .int 0, .int 0, .int 0, .ref ad3, .ref ad4, .int 0, .int 0, .int 0])), (ad2, .inl (ck0, 900, .inl f12))]) [0, 1] (by decide) rfl
  have hK9 := hK.sub (tys' := [(ck0, .byte)]) [0] rfl
  exact W.vret hx hb hr (fun t ht hW => ⟨⟨(), rfl, trivial, f12, by rw [ht]; exact hP9, va_K.moved hW.alike hK9, hD9⟩, hS.F ht⟩) hS.2.2 dX7_append_46

set_option maxHeartbeats 4000000 in
set_option maxRecDepth 100000 in
theorem ct_X7_append_v2 (l : Launch) (dC : Nat → ClassId) (dI : Nat → Nat → Nat) (ad0 : Nat) (vi0 : Int32) (ad1 : Nat) (ad2 : Nat) (ad3 : Nat) (ad4 : Nat) (ck0 : ClassId) (fn0 : Nat → Int32) (sz : Nat) : Met l yX7_append wsX7_append ({ frames := 0, cells := 0, slots := 0, locals := 0 }) (va_Pc [.ref ad0, .int vi0] (fun U => U.heap.size = sz ∧ va_P (dC, dI) vwCl [(ad0, .inr (7, [.int 4, .int 0, .int (-1), .ref ad1, .ref ad2, .int 0, .int 0, .int 0, .int 0, .ref ad3, .ref ad4, .int 0, .int 0, .int 0])), (ad2, .inl (ck0, 900, .inl fn0))] U.heap ∧ va_K (dC, dI) vwCl [(ck0, .byte)] U ∧ va_D (fun _ => True) [(ad0, .inr (7, [.int 4, .int 0, .int (-1), .ref ad1, .ref ad2, .int 0, .int 0, .int 0, .int 0, .ref ad3, .ref ad4, .int 0, .int 0, .int 0])), (ad2, .inl (ck0, 900, .inl fn0))])) (va_Qv (fun _ : Unit => True) (fun _ t => ∃ (f12 : Nat → Int32), va_P (dC, dI) vwCl [(ad0, .inr (7, [.int 8, .int 0, .int (-1), .ref ad1, .ref ad2, .int 0, .int 0, .int 0, .int 0, .ref ad3, .ref ad4, .int 0, .int 0, .int 0])), (ad2, .inl (ck0, 900, .inl f12))] t.heap ∧ va_K (dC, dI) vwCl [(ck0, .byte)] t ∧ va_D (va_A [(ad0, .inr (7, [.int 4, .int 0, .int (-1), .ref ad1, .ref ad2, .int 0, .int 0, .int 0, .int 0, .ref ad3, .ref ad4, .int 0, .int 0, .int 0])), (ad2, .inl (ck0, 900, .inl fn0))] sz) [(ad0, .inr (7, [.int 8, .int 0, .int (-1), .ref ad1, .ref ad2, .int 0, .int 0, .int 0, .int 0, .ref ad3, .ref ad4, .int 0, .int 0, .int 0])), (ad2, .inl (ck0, 900, .inl f12))]) (va_A [(ad0, .inr (7, [.int 4, .int 0, .int (-1), .ref ad1, .ref ad2, .int 0, .int 0, .int 0, .int 0, .ref ad3, .ref ad4, .int 0, .int 0, .int 0])), (ad2, .inl (ck0, 900, .inl fn0))] sz)) 0 0 (va_A [(ad0, .inr (7, [.int 4, .int 0, .int (-1), .ref ad1, .ref ad2, .int 0, .int 0, .int 0, .int 0, .ref ad3, .ref ad4, .int 0, .int 0, .int 0])), (ad2, .inl (ck0, 900, .inl fn0))] sz) := by
  refine Met.ofW (cc := cX7_append) (maxL := 3) (ret := none) (by decide) rfl ?_
  intro p e s m args below meth c s₁ B hml hv
  obtain ⟨rfl, hsz, hP, hK, hD0⟩ := hv
  have hx := B.exec
  have hb := B.bytes
  have hr := B.returns
  have hts := atoms_spec (ws := wsX7_append) B.pre
  have hown : s.vm.findClass RX7 = some m.cls := findClass_of_methodNamed B.named
  have hlocks := B.notSynchronized
  subst hsz
  have hD := hD0.self (sz := s.heap.size)
  generalize hAe : va_A [(ad0, .inr (7, [.int 4, .int 0, .int (-1), .ref ad1, .ref ad2, .int 0, .int 0, .int 0, .int 0, .ref ad3, .ref ad4, .int 0, .int 0, .int 0])), (ad2, .inl (ck0, 900, .inl fn0))] s.heap.size = A at hD ⊢
  have hA : ∀ q : Nat, s.heap.size ≤ q → A q := fun q h => by rw [← hAe]; exact Or.inr h
  have hS : va_S A s.heap s.heap [] := va_S.rf
  have hP : va_P (dC, dI) vwCl [(ad0, .inr (7, [.int 4, .int 0, .int (-1), .ref ad1, .ref ad2, .int 0, .int 0, .int 0, .int 0, .ref ad3, .ref ad4, .int 0, .int 0, .int 0])), (ad2, .inl (ck0, 900, .inl fn0))] s.heap := hP
  have hl := lv_entry ([.ref ad0, .int vi0]) (n := 3) (Nat.le_of_ble_eq_true rfl)
  rw [lg_entry_eq]
  generalize (lg_sl ([.ref ad0, .int vi0]) ++ List.replicate (3 - (lg_sl ([.ref ad0, .int vi0])).length) Slot.unset).toArray = ls at hl ⊢
  have hl : lv_has ls 3 [(0, .ref ad0), (1, .int vi0)] := hl
  refine lv_bipush (v := 24) hx hb dX7_append_0 (by decide) ?_
  refine lv_istore_n (lv' := [(2, .int 24), (0, .ref ad0), (1, .int vi0)]) hx hb dX7_append_2 rfl hl (by decide) rfl (fun ls hl => ?_)
  refine lv_iload_n hx hb dX7_append_3 rfl (lv_at hl 0 rfl) ?_
  refine lv_if_lt (tgt := 46) hx hb dX7_append_4 (by decide) (fun cz => absurd cz (by decide)) (fun _ => ?_)
  refine lv_aload_n hx hb dX7_append_7 rfl (lv_at hl 1 rfl) ?_
  refine va_get (D := (dC, dI)) (ci := 7) (v := .int 4) (C := RX7) (T := TX7) (N := 14) hx hb hts iw_X7_append_X7 hown hK hP 0 rfl rfl 0 (by decide) (hts _ kk_X7_append_0) (fun _ h9 => h9) rfl dX7_append_8 ?_
  refine lv_sipush (v := 900) hx hb dX7_append_11 (by decide) ?_
  refine lv_icmp_ge (tgt := 46) hx hb dX7_append_14 (by decide) (fun cz => absurd cz (by decide)) (fun _ => ?_)
  refine lv_aload_n hx hb dX7_append_17 rfl (lv_at hl 1 rfl) ?_
  refine va_get (D := (dC, dI)) (ci := 7) (v := .ref ad2) (C := RX7) (T := TX7) (N := 14) hx hb hts iw_X7_append_X7 hown hK hP 0 rfl rfl 4 (by decide) (hts _ kk_X7_append_1) (fun _ h9 => h9) rfl dX7_append_18 ?_
  refine lv_aload_n hx hb dX7_append_21 rfl (lv_at hl 1 rfl) ?_
  refine va_get (D := (dC, dI)) (ci := 7) (v := .int 4) (C := RX7) (T := TX7) (N := 14) hx hb hts iw_X7_append_X7 hown hK hP 0 rfl rfl 0 (by decide) (hts _ kk_X7_append_0) (fun _ h9 => h9) rfl dX7_append_22 ?_
  refine lv_iload_n hx hb dX7_append_25 rfl (lv_at hl 2 rfl) ?_
  refine lv_iload_n hx hb dX7_append_26 rfl (lv_at hl 0 rfl) ?_
  obtain ⟨x1, ex1⟩ : ∃ v : Int32, ((vi0 : Int32).toUInt32 >>> ((24 : Int32).toUInt32 &&& Int32.toUInt32 31)).toInt32 = v := ⟨_, rfl⟩
  refine lv_iushr hx hb dX7_append_27 ex1 ?_
  obtain ⟨x2, ex2⟩ : ∃ v : Int32, (x1 : Int32).toInt8.toInt32 = v := ⟨_, rfl⟩
  refine lv_i2b hx hb dX7_append_28 ex2 ?_
  refine va_bast hx hb hK hP hD hS 1 0 rfl rfl (vq_in 4 900 (by decide)) dX7_append_29 (fun H locs hP hD hS => ?_)
  have hP : va_P (dC, dI) vwCl [(ad0, .inr (7, [.int 4, .int 0, .int (-1), .ref ad1, .ref ad2, .int 0, .int 0, .int 0, .int 0, .ref ad3, .ref ad4, .int 0, .int 0, .int 0])), (ad2, .inl (ck0, 900, .inl (upd fn0 (Int32.toNatClampNeg 4) (vp_nar .byte x2))))] H := hP
  have hD : va_D A [(ad0, .inr (7, [.int 4, .int 0, .int (-1), .ref ad1, .ref ad2, .int 0, .int 0, .int 0, .int 0, .ref ad3, .ref ad4, .int 0, .int 0, .int 0])), (ad2, .inl (ck0, 900, .inl (upd fn0 (Int32.toNatClampNeg 4) (vp_nar .byte x2))))] := hD
  generalize upd fn0 (Int32.toNatClampNeg 4) (vp_nar .byte x2) = f3 at hP hD
  refine lv_aload_n hx hb dX7_append_30 rfl (lv_at hl 1 rfl) ?_
  refine lv_dup hx hb dX7_append_31 rfl ?_
  refine va_get (D := (dC, dI)) (ci := 7) (v := .int 4) (C := RX7) (T := TX7) (N := 14) hx hb hts iw_X7_append_X7 hown hK hP 0 rfl rfl 0 (by decide) (hts _ kk_X7_append_0) (fun _ h9 => h9) rfl dX7_append_32 ?_
  refine lv_iconst (v := 1) hx hb dX7_append_35 (by decide) ?_
  refine lv_iadd hx hb dX7_append_36 ?_
  refine px_i (v := 5) (by decide) ?_
  refine va_put (D := (dC, dI)) (ci := 7) (v := .int 5) (ty := .int) (C := RX7) (T := TX7) (N := 14) hx hb hts iw_X7_append_X7 tyX7 tyX7_ok nmX7 hown hK hP hD hS 0 rfl rfl 0 (by decide) (hts _ kk_X7_append_0) (fun _ h9 => h9) rfl (by decide +kernel) rfl rfl (Nat.le_of_ble_eq_true rfl) dX7_append_37 (fun H locs hP hD hS => ?_)
  have hP : va_P (dC, dI) vwCl [(ad0, .inr (7, [.int 5, .int 0, .int (-1), .ref ad1, .ref ad2, .int 0, .int 0, .int 0, .int 0, .ref ad3, .ref ad4, .int 0, .int 0, .int 0])), (ad2, .inl (ck0, 900, .inl f3))] H := hP
  have hD : va_D A [(ad0, .inr (7, [.int 5, .int 0, .int (-1), .ref ad1, .ref ad2, .int 0, .int 0, .int 0, .int 0, .ref ad3, .ref ad4, .int 0, .int 0, .int 0])), (ad2, .inl (ck0, 900, .inl f3))] := hD
  refine lv_iinc (v := 16) (lv' := [(2, .int 16), (0, .ref ad0), (1, .int vi0)]) hx hb dX7_append_40 hl (k := 0) rfl (by decide) (by decide) rfl (fun ls hl => ?_)
  refine lv_goto (tgt := 3) hx hb dX7_append_43 (by decide) ?_
  refine lv_iload_n hx hb dX7_append_3 rfl (lv_at hl 0 rfl) ?_
  refine lv_if_lt (tgt := 46) hx hb dX7_append_4 (by decide) (fun cz => absurd cz (by decide)) (fun _ => ?_)
  refine lv_aload_n hx hb dX7_append_7 rfl (lv_at hl 1 rfl) ?_
  refine va_get (D := (dC, dI)) (ci := 7) (v := .int 5) (C := RX7) (T := TX7) (N := 14) hx hb hts iw_X7_append_X7 hown hK hP 0 rfl rfl 0 (by decide) (hts _ kk_X7_append_0) (fun _ h9 => h9) rfl dX7_append_8 ?_
  refine lv_sipush (v := 900) hx hb dX7_append_11 (by decide) ?_
  refine lv_icmp_ge (tgt := 46) hx hb dX7_append_14 (by decide) (fun cz => absurd cz (by decide)) (fun _ => ?_)
  refine lv_aload_n hx hb dX7_append_17 rfl (lv_at hl 1 rfl) ?_
  refine va_get (D := (dC, dI)) (ci := 7) (v := .ref ad2) (C := RX7) (T := TX7) (N := 14) hx hb hts iw_X7_append_X7 hown hK hP 0 rfl rfl 4 (by decide) (hts _ kk_X7_append_1) (fun _ h9 => h9) rfl dX7_append_18 ?_
  refine lv_aload_n hx hb dX7_append_21 rfl (lv_at hl 1 rfl) ?_
  refine va_get (D := (dC, dI)) (ci := 7) (v := .int 5) (C := RX7) (T := TX7) (N := 14) hx hb hts iw_X7_append_X7 hown hK hP 0 rfl rfl 0 (by decide) (hts _ kk_X7_append_0) (fun _ h9 => h9) rfl dX7_append_22 ?_
  refine lv_iload_n hx hb dX7_append_25 rfl (lv_at hl 2 rfl) ?_
  refine lv_iload_n hx hb dX7_append_26 rfl (lv_at hl 0 rfl) ?_
  obtain ⟨x4, ex4⟩ : ∃ v : Int32, ((vi0 : Int32).toUInt32 >>> ((16 : Int32).toUInt32 &&& Int32.toUInt32 31)).toInt32 = v := ⟨_, rfl⟩
  refine lv_iushr hx hb dX7_append_27 ex4 ?_
  obtain ⟨x5, ex5⟩ : ∃ v : Int32, (x4 : Int32).toInt8.toInt32 = v := ⟨_, rfl⟩
  refine lv_i2b hx hb dX7_append_28 ex5 ?_
  refine va_bast hx hb hK hP hD hS 1 0 rfl rfl (vq_in 5 900 (by decide)) dX7_append_29 (fun H locs hP hD hS => ?_)
  have hP : va_P (dC, dI) vwCl [(ad0, .inr (7, [.int 5, .int 0, .int (-1), .ref ad1, .ref ad2, .int 0, .int 0, .int 0, .int 0, .ref ad3, .ref ad4, .int 0, .int 0, .int 0])), (ad2, .inl (ck0, 900, .inl (upd f3 (Int32.toNatClampNeg 5) (vp_nar .byte x5))))] H := hP
  have hD : va_D A [(ad0, .inr (7, [.int 5, .int 0, .int (-1), .ref ad1, .ref ad2, .int 0, .int 0, .int 0, .int 0, .ref ad3, .ref ad4, .int 0, .int 0, .int 0])), (ad2, .inl (ck0, 900, .inl (upd f3 (Int32.toNatClampNeg 5) (vp_nar .byte x5))))] := hD
  generalize upd f3 (Int32.toNatClampNeg 5) (vp_nar .byte x5) = f6 at hP hD
  refine lv_aload_n hx hb dX7_append_30 rfl (lv_at hl 1 rfl) ?_
  refine lv_dup hx hb dX7_append_31 rfl ?_
  refine va_get (D := (dC, dI)) (ci := 7) (v := .int 5) (C := RX7) (T := TX7) (N := 14) hx hb hts iw_X7_append_X7 hown hK hP 0 rfl rfl 0 (by decide) (hts _ kk_X7_append_0) (fun _ h9 => h9) rfl dX7_append_32 ?_
  refine lv_iconst (v := 1) hx hb dX7_append_35 (by decide) ?_
  refine lv_iadd hx hb dX7_append_36 ?_
  refine px_i (v := 6) (by decide) ?_
  refine va_put (D := (dC, dI)) (ci := 7) (v := .int 6) (ty := .int) (C := RX7) (T := TX7) (N := 14) hx hb hts iw_X7_append_X7 tyX7 tyX7_ok nmX7 hown hK hP hD hS 0 rfl rfl 0 (by decide) (hts _ kk_X7_append_0) (fun _ h9 => h9) rfl (by decide +kernel) rfl rfl (Nat.le_of_ble_eq_true rfl) dX7_append_37 (fun H locs hP hD hS => ?_)
  have hP : va_P (dC, dI) vwCl [(ad0, .inr (7, [.int 6, .int 0, .int (-1), .ref ad1, .ref ad2, .int 0, .int 0, .int 0, .int 0, .ref ad3, .ref ad4, .int 0, .int 0, .int 0])), (ad2, .inl (ck0, 900, .inl f6))] H := hP
  have hD : va_D A [(ad0, .inr (7, [.int 6, .int 0, .int (-1), .ref ad1, .ref ad2, .int 0, .int 0, .int 0, .int 0, .ref ad3, .ref ad4, .int 0, .int 0, .int 0])), (ad2, .inl (ck0, 900, .inl f6))] := hD
  refine lv_iinc (v := 8) (lv' := [(2, .int 8), (0, .ref ad0), (1, .int vi0)]) hx hb dX7_append_40 hl (k := 0) rfl (by decide) (by decide) rfl (fun ls hl => ?_)
  refine lv_goto (tgt := 3) hx hb dX7_append_43 (by decide) ?_
  refine lv_iload_n hx hb dX7_append_3 rfl (lv_at hl 0 rfl) ?_
  refine lv_if_lt (tgt := 46) hx hb dX7_append_4 (by decide) (fun cz => absurd cz (by decide)) (fun _ => ?_)
  refine lv_aload_n hx hb dX7_append_7 rfl (lv_at hl 1 rfl) ?_
  refine va_get (D := (dC, dI)) (ci := 7) (v := .int 6) (C := RX7) (T := TX7) (N := 14) hx hb hts iw_X7_append_X7 hown hK hP 0 rfl rfl 0 (by decide) (hts _ kk_X7_append_0) (fun _ h9 => h9) rfl dX7_append_8 ?_
  refine lv_sipush (v := 900) hx hb dX7_append_11 (by decide) ?_
  refine lv_icmp_ge (tgt := 46) hx hb dX7_append_14 (by decide) (fun cz => absurd cz (by decide)) (fun _ => ?_)
  refine lv_aload_n hx hb dX7_append_17 rfl (lv_at hl 1 rfl) ?_
  refine va_get (D := (dC, dI)) (ci := 7) (v := .ref ad2) (C := RX7) (T := TX7) (N := 14) hx hb hts iw_X7_append_X7 hown hK hP 0 rfl rfl 4 (by decide) (hts _ kk_X7_append_1) (fun _ h9 => h9) rfl dX7_append_18 ?_
  refine lv_aload_n hx hb dX7_append_21 rfl (lv_at hl 1 rfl) ?_
  refine va_get (D := (dC, dI)) (ci := 7) (v := .int 6) (C := RX7) (T := TX7) (N := 14) hx hb hts iw_X7_append_X7 hown hK hP 0 rfl rfl 0 (by decide) (hts _ kk_X7_append_0) (fun _ h9 => h9) rfl dX7_append_22 ?_
  refine lv_iload_n hx hb dX7_append_25 rfl (lv_at hl 2 rfl) ?_
  refine lv_iload_n hx hb dX7_append_26 rfl (lv_at hl 0 rfl) ?_
  obtain ⟨x7, ex7⟩ : ∃ v : Int32, ((vi0 : Int32).toUInt32 >>> ((8 : Int32).toUInt32 &&& Int32.toUInt32 31)).toInt32 = v := ⟨_, rfl⟩
  refine lv_iushr hx hb dX7_append_27 ex7 ?_
  obtain ⟨x8, ex8⟩ : ∃ v : Int32, (x7 : Int32).toInt8.toInt32 = v := ⟨_, rfl⟩
  refine lv_i2b hx hb dX7_append_28 ex8 ?_
  refine va_bast hx hb hK hP hD hS 1 0 rfl rfl (vq_in 6 900 (by decide)) dX7_append_29 (fun H locs hP hD hS => ?_)
  have hP : va_P (dC, dI) vwCl [(ad0, .inr (7, [.int 6, .int 0, .int (-1), .ref ad1, .ref ad2, .int 0, .int 0, .int 0, .int 0, .ref ad3, .ref ad4, .int 0, .int 0, .int 0])), (ad2, .inl (ck0, 900, .inl (upd f6 (Int32.toNatClampNeg 6) (vp_nar .byte x8))))] H := hP
  have hD : va_D A [(ad0, .inr (7, [.int 6, .int 0, .int (-1), .ref ad1, .ref ad2, .int 0, .int 0, .int 0, .int 0, .ref ad3, .ref ad4, .int 0, .int 0, .int 0])), (ad2, .inl (ck0, 900, .inl (upd f6 (Int32.toNatClampNeg 6) (vp_nar .byte x8))))] := hD
  generalize upd f6 (Int32.toNatClampNeg 6) (vp_nar .byte x8) = f9 at hP hD
  refine lv_aload_n hx hb dX7_append_30 rfl (lv_at hl 1 rfl) ?_
  refine lv_dup hx hb dX7_append_31 rfl ?_
  refine va_get (D := (dC, dI)) (ci := 7) (v := .int 6) (C := RX7) (T := TX7) (N := 14) hx hb hts iw_X7_append_X7 hown hK hP 0 rfl rfl 0 (by decide) (hts _ kk_X7_append_0) (fun _ h9 => h9) rfl dX7_append_32 ?_
  refine lv_iconst (v := 1) hx hb dX7_append_35 (by decide) ?_
  refine lv_iadd hx hb dX7_append_36 ?_
  refine px_i (v := 7) (by decide) ?_
  refine va_put (D := (dC, dI)) (ci := 7) (v := .int 7) (ty := .int) (C := RX7) (T := TX7) (N := 14) hx hb hts iw_X7_append_X7 tyX7 tyX7_ok nmX7 hown hK hP hD hS 0 rfl rfl 0 (by decide) (hts _ kk_X7_append_0) (fun _ h9 => h9) rfl (by decide +kernel) rfl rfl (Nat.le_of_ble_eq_true rfl) dX7_append_37 (fun H locs hP hD hS => ?_)
  have hP : va_P (dC, dI) vwCl [(ad0, .inr (7, [.int 7, .int 0, .int (-1), .ref ad1, .ref ad2, .int 0, .int 0, .int 0, .int 0, .ref ad3, .ref ad4, .int 0, .int 0, .int 0])), (ad2, .inl (ck0, 900, .inl f9))] H := hP
  have hD : va_D A [(ad0, .inr (7, [.int 7, .int 0, .int (-1), .ref ad1, .ref ad2, .int 0, .int 0, .int 0, .int 0, .ref ad3, .ref ad4, .int 0, .int 0, .int 0])), (ad2, .inl (ck0, 900, .inl f9))] := hD
  refine lv_iinc (v := 0) (lv' := [(2, .int 0), (0, .ref ad0), (1, .int vi0)]) hx hb dX7_append_40 hl (k := 0) rfl (by decide) (by decide) rfl (fun ls hl => ?_)
  refine lv_goto (tgt := 3) hx hb dX7_append_43 (by decide) ?_
  refine lv_iload_n hx hb dX7_append_3 rfl (lv_at hl 0 rfl) ?_
  refine lv_if_lt (tgt := 46) hx hb dX7_append_4 (by decide) (fun cz => absurd cz (by decide)) (fun _ => ?_)
  refine lv_aload_n hx hb dX7_append_7 rfl (lv_at hl 1 rfl) ?_
  refine va_get (D := (dC, dI)) (ci := 7) (v := .int 7) (C := RX7) (T := TX7) (N := 14) hx hb hts iw_X7_append_X7 hown hK hP 0 rfl rfl 0 (by decide) (hts _ kk_X7_append_0) (fun _ h9 => h9) rfl dX7_append_8 ?_
  refine lv_sipush (v := 900) hx hb dX7_append_11 (by decide) ?_
  refine lv_icmp_ge (tgt := 46) hx hb dX7_append_14 (by decide) (fun cz => absurd cz (by decide)) (fun _ => ?_)
  refine lv_aload_n hx hb dX7_append_17 rfl (lv_at hl 1 rfl) ?_
  refine va_get (D := (dC, dI)) (ci := 7) (v := .ref ad2) (C := RX7) (T := TX7) (N := 14) hx hb hts iw_X7_append_X7 hown hK hP 0 rfl rfl 4 (by decide) (hts _ kk_X7_append_1) (fun _ h9 => h9) rfl dX7_append_18 ?_
  refine lv_aload_n hx hb dX7_append_21 rfl (lv_at hl 1 rfl) ?_
  refine va_get (D := (dC, dI)) (ci := 7) (v := .int 7) (C := RX7) (T := TX7) (N := 14) hx hb hts iw_X7_append_X7 hown hK hP 0 rfl rfl 0 (by decide) (hts _ kk_X7_append_0) (fun _ h9 => h9) rfl dX7_append_22 ?_
  refine lv_iload_n hx hb dX7_append_25 rfl (lv_at hl 2 rfl) ?_
  refine lv_iload_n hx hb dX7_append_26 rfl (lv_at hl 0 rfl) ?_
  obtain ⟨x10, ex10⟩ : ∃ v : Int32, ((vi0 : Int32).toUInt32 >>> ((0 : Int32).toUInt32 &&& Int32.toUInt32 31)).toInt32 = v := ⟨_, rfl⟩
  refine lv_iushr hx hb dX7_append_27 ex10 ?_
  obtain ⟨x11, ex11⟩ : ∃ v : Int32, (x10 : Int32).toInt8.toInt32 = v := ⟨_, rfl⟩
  refine lv_i2b hx hb dX7_append_28 ex11 ?_
  refine va_bast hx hb hK hP hD hS 1 0 rfl rfl (vq_in 7 900 (by decide)) dX7_append_29 (fun H locs hP hD hS => ?_)
  have hP : va_P (dC, dI) vwCl [(ad0, .inr (7, [.int 7, .int 0, .int (-1), .ref ad1, .ref ad2, .int 0, .int 0, .int 0, .int 0, .ref ad3, .ref ad4, .int 0, .int 0, .int 0])), (ad2, .inl (ck0, 900, .inl (upd f9 (Int32.toNatClampNeg 7) (vp_nar .byte x11))))] H := hP
  have hD : va_D A [(ad0, .inr (7, [.int 7, .int 0, .int (-1), .ref ad1, .ref ad2, .int 0, .int 0, .int 0, .int 0, .ref ad3, .ref ad4, .int 0, .int 0, .int 0])), (ad2, .inl (ck0, 900, .inl (upd f9 (Int32.toNatClampNeg 7) (vp_nar .byte x11))))] := hD
  generalize upd f9 (Int32.toNatClampNeg 7) (vp_nar .byte x11) = f12 at hP hD
  refine lv_aload_n hx hb dX7_append_30 rfl (lv_at hl 1 rfl) ?_
  refine lv_dup hx hb dX7_append_31 rfl ?_
  refine va_get (D := (dC, dI)) (ci := 7) (v := .int 7) (C := RX7) (T := TX7) (N := 14) hx hb hts iw_X7_append_X7 hown hK hP 0 rfl rfl 0 (by decide) (hts _ kk_X7_append_0) (fun _ h9 => h9) rfl dX7_append_32 ?_
  refine lv_iconst (v := 1) hx hb dX7_append_35 (by decide) ?_
  refine lv_iadd hx hb dX7_append_36 ?_
  refine px_i (v := 8) (by decide) ?_
  refine va_put (D := (dC, dI)) (ci := 7) (v := .int 8) (ty := .int) (C := RX7) (T := TX7) (N := 14) hx hb hts iw_X7_append_X7 tyX7 tyX7_ok nmX7 hown hK hP hD hS 0 rfl rfl 0 (by decide) (hts _ kk_X7_append_0) (fun _ h9 => h9) rfl (by decide +kernel) rfl rfl (Nat.le_of_ble_eq_true rfl) dX7_append_37 (fun H locs hP hD hS => ?_)
  have hP : va_P (dC, dI) vwCl [(ad0, .inr (7, [.int 8, .int 0, .int (-1), .ref ad1, .ref ad2, .int 0, .int 0, .int 0, .int 0, .ref ad3, .ref ad4, .int 0, .int 0, .int 0])), (ad2, .inl (ck0, 900, .inl f12))] H := hP
  have hD : va_D A [(ad0, .inr (7, [.int 8, .int 0, .int (-1), .ref ad1, .ref ad2, .int 0, .int 0, .int 0, .int 0, .ref ad3, .ref ad4, .int 0, .int 0, .int 0])), (ad2, .inl (ck0, 900, .inl f12))] := hD
  refine lv_iinc (v := (-8)) (lv' := [(2, .int (-8)), (0, .ref ad0), (1, .int vi0)]) hx hb dX7_append_40 hl (k := 0) rfl (by decide) (by decide) rfl (fun ls hl => ?_)
  refine lv_goto (tgt := 3) hx hb dX7_append_43 (by decide) ?_
  refine lv_iload_n hx hb dX7_append_3 rfl (lv_at hl 0 rfl) ?_
  refine lv_if_lt (tgt := 46) hx hb dX7_append_4 (by decide) (fun _ => ?_) (fun cz => absurd cz (by decide))
  refine W.widen (k := 0) (n := 0) (by decide) (by decide) ?_
  have hP9 := hP.sub (ws' := [(ad0, .inr (7, [.int 8, .int 0, .int (-1), .ref ad1, .ref ad2, .int 0, .int 0, .int 0, .int 0, .ref ad3, .ref ad4, .int 0, .int 0, .int 0])), (ad2, .inl (ck0, 900, .inl f12))]) [0, 1] rfl
  have hD9 := hD.sub (ws' := [(ad0, .inr (7, [.int 8, .int 0, .int (-1), .ref ad1, .ref ad2, .int 0, .int 0, .int 0, .int 0, .ref ad3, .ref ad4, .int 0, .int 0, .int 0])), (ad2, .inl (ck0, 900, .inl f12))]) [0, 1] (by decide) rfl
  have hK9 := hK.sub (tys' := [(ck0, .byte)]) [0] rfl
  exact W.vret hx hb hr (fun t ht hW => ⟨⟨(), rfl, trivial, f12, by rw [ht]; exact hP9, va_K.moved hW.alike hK9, hD9⟩, hS.F ht⟩) hS.2.2 dX7_append_46

set_option maxHeartbeats 4000000 in
set_option maxRecDepth 100000 in
theorem ct_X7_append_v3 (l : Launch) (dC : Nat → ClassId) (dI : Nat → Nat → Nat) (ad0 : Nat) (vi0 : Int32) (ad1 : Nat) (ad2 : Nat) (ad3 : Nat) (ad4 : Nat) (ck0 : ClassId) (fn0 : Nat → Int32) (sz : Nat) : Met l yX7_append wsX7_append ({ frames := 0, cells := 0, slots := 0, locals := 0 }) (va_Pc [.ref ad0, .int vi0] (fun U => U.heap.size = sz ∧ va_P (dC, dI) vwCl [(ad0, .inr (7, [.int 8, .int 0, .int (-1), .ref ad1, .ref ad2, .int 0, .int 0, .int 0, .int 0, .ref ad3, .ref ad4, .int 0, .int 0, .int 0])), (ad2, .inl (ck0, 900, .inl fn0))] U.heap ∧ va_K (dC, dI) vwCl [(ck0, .byte)] U ∧ va_D (fun _ => True) [(ad0, .inr (7, [.int 8, .int 0, .int (-1), .ref ad1, .ref ad2, .int 0, .int 0, .int 0, .int 0, .ref ad3, .ref ad4, .int 0, .int 0, .int 0])), (ad2, .inl (ck0, 900, .inl fn0))])) (va_Qv (fun _ : Unit => True) (fun _ t => ∃ (f12 : Nat → Int32), va_P (dC, dI) vwCl [(ad0, .inr (7, [.int 12, .int 0, .int (-1), .ref ad1, .ref ad2, .int 0, .int 0, .int 0, .int 0, .ref ad3, .ref ad4, .int 0, .int 0, .int 0])), (ad2, .inl (ck0, 900, .inl f12))] t.heap ∧ va_K (dC, dI) vwCl [(ck0, .byte)] t ∧ va_D (va_A [(ad0, .inr (7, [.int 8, .int 0, .int (-1), .ref ad1, .ref ad2, .int 0, .int 0, .int 0, .int 0, .ref ad3, .ref ad4, .int 0, .int 0, .int 0])), (ad2, .inl (ck0, 900, .inl fn0))] sz) [(ad0, .inr (7, [.int 12, .int 0, .int (-1), .ref ad1, .ref ad2, .int 0, .int 0, .int 0, .int 0, .ref ad3, .ref ad4, .int 0, .int 0, .int 0])), (ad2, .inl (ck0, 900, .inl f12))]) (va_A [(ad0, .inr (7, [.int 8, .int 0, .int (-1), .ref ad1, .ref ad2, .int 0, .int 0, .int 0, .int 0, .ref ad3, .ref ad4, .int 0, .int 0, .int 0])), (ad2, .inl (ck0, 900, .inl fn0))] sz)) 0 0 (va_A [(ad0, .inr (7, [.int 8, .int 0, .int (-1), .ref ad1, .ref ad2, .int 0, .int 0, .int 0, .int 0, .ref ad3, .ref ad4, .int 0, .int 0, .int 0])), (ad2, .inl (ck0, 900, .inl fn0))] sz) := by
  refine Met.ofW (cc := cX7_append) (maxL := 3) (ret := none) (by decide) rfl ?_
  intro p e s m args below meth c s₁ B hml hv
  obtain ⟨rfl, hsz, hP, hK, hD0⟩ := hv
  have hx := B.exec
  have hb := B.bytes
  have hr := B.returns
  have hts := atoms_spec (ws := wsX7_append) B.pre
  have hown : s.vm.findClass RX7 = some m.cls := findClass_of_methodNamed B.named
  have hlocks := B.notSynchronized
  subst hsz
  have hD := hD0.self (sz := s.heap.size)
  generalize hAe : va_A [(ad0, .inr (7, [.int 8, .int 0, .int (-1), .ref ad1, .ref ad2, .int 0, .int 0, .int 0, .int 0, .ref ad3, .ref ad4, .int 0, .int 0, .int 0])), (ad2, .inl (ck0, 900, .inl fn0))] s.heap.size = A at hD ⊢
  have hA : ∀ q : Nat, s.heap.size ≤ q → A q := fun q h => by rw [← hAe]; exact Or.inr h
  have hS : va_S A s.heap s.heap [] := va_S.rf
  have hP : va_P (dC, dI) vwCl [(ad0, .inr (7, [.int 8, .int 0, .int (-1), .ref ad1, .ref ad2, .int 0, .int 0, .int 0, .int 0, .ref ad3, .ref ad4, .int 0, .int 0, .int 0])), (ad2, .inl (ck0, 900, .inl fn0))] s.heap := hP
  have hl := lv_entry ([.ref ad0, .int vi0]) (n := 3) (Nat.le_of_ble_eq_true rfl)
  rw [lg_entry_eq]
  generalize (lg_sl ([.ref ad0, .int vi0]) ++ List.replicate (3 - (lg_sl ([.ref ad0, .int vi0])).length) Slot.unset).toArray = ls at hl ⊢
  have hl : lv_has ls 3 [(0, .ref ad0), (1, .int vi0)] := hl
  refine lv_bipush (v := 24) hx hb dX7_append_0 (by decide) ?_
  refine lv_istore_n (lv' := [(2, .int 24), (0, .ref ad0), (1, .int vi0)]) hx hb dX7_append_2 rfl hl (by decide) rfl (fun ls hl => ?_)
  refine lv_iload_n hx hb dX7_append_3 rfl (lv_at hl 0 rfl) ?_
  refine lv_if_lt (tgt := 46) hx hb dX7_append_4 (by decide) (fun cz => absurd cz (by decide)) (fun _ => ?_)
  refine lv_aload_n hx hb dX7_append_7 rfl (lv_at hl 1 rfl) ?_
  refine va_get (D := (dC, dI)) (ci := 7) (v := .int 8) (C := RX7) (T := TX7) (N := 14) hx hb hts iw_X7_append_X7 hown hK hP 0 rfl rfl 0 (by decide) (hts _ kk_X7_append_0) (fun _ h9 => h9) rfl dX7_append_8 ?_
  refine lv_sipush (v := 900) hx hb dX7_append_11 (by decide) ?_
  refine lv_icmp_ge (tgt := 46) hx hb dX7_append_14 (by decide) (fun cz => absurd cz (by decide)) (fun _ => ?_)
  refine lv_aload_n hx hb dX7_append_17 rfl (lv_at hl 1 rfl) ?_
  refine va_get (D := (dC, dI)) (ci := 7) (v := .ref ad2) (C := RX7) (T := TX7) (N := 14) hx hb hts iw_X7_append_X7 hown hK hP 0 rfl rfl 4 (by decide) (hts _ kk_X7_append_1) (fun _ h9 => h9) rfl dX7_append_18 ?_
  refine lv_aload_n hx hb dX7_append_21 rfl (lv_at hl 1 rfl) ?_
  refine va_get (D := (dC, dI)) (ci := 7) (v := .int 8) (C := RX7) (T := TX7) (N := 14) hx hb hts iw_X7_append_X7 hown hK hP 0 rfl rfl 0 (by decide) (hts _ kk_X7_append_0) (fun _ h9 => h9) rfl dX7_append_22 ?_
  refine lv_iload_n hx hb dX7_append_25 rfl (lv_at hl 2 rfl) ?_
  refine lv_iload_n hx hb dX7_append_26 rfl (lv_at hl 0 rfl) ?_
  obtain ⟨x1, ex1⟩ : ∃ v : Int32, ((vi0 : Int32).toUInt32 >>> ((24 : Int32).toUInt32 &&& Int32.toUInt32 31)).toInt32 = v := ⟨_, rfl⟩
  refine lv_iushr hx hb dX7_append_27 ex1 ?_
  obtain ⟨x2, ex2⟩ : ∃ v : Int32, (x1 : Int32).toInt8.toInt32 = v := ⟨_, rfl⟩
  refine lv_i2b hx hb dX7_append_28 ex2 ?_
  refine va_bast hx hb hK hP hD hS 1 0 rfl rfl (vq_in 8 900 (by decide)) dX7_append_29 (fun H locs hP hD hS => ?_)
  have hP : va_P (dC, dI) vwCl [(ad0, .inr (7, [.int 8, .int 0, .int (-1), .ref ad1, .ref ad2, .int 0, .int 0, .int 0, .int 0, .ref ad3, .ref ad4, .int 0, .int 0, .int 0])), (ad2, .inl (ck0, 900, .inl (upd fn0 (Int32.toNatClampNeg 8) (vp_nar .byte x2))))] H := hP
  have hD : va_D A [(ad0, .inr (7, [.int 8, .int 0, .int (-1), .ref ad1, .ref ad2, .int 0, .int 0, .int 0, .int 0, .ref ad3, .ref ad4, .int 0, .int 0, .int 0])), (ad2, .inl (ck0, 900, .inl (upd fn0 (Int32.toNatClampNeg 8) (vp_nar .byte x2))))] := hD
  generalize upd fn0 (Int32.toNatClampNeg 8) (vp_nar .byte x2) = f3 at hP hD
  refine lv_aload_n hx hb dX7_append_30 rfl (lv_at hl 1 rfl) ?_
  refine lv_dup hx hb dX7_append_31 rfl ?_
  refine va_get (D := (dC, dI)) (ci := 7) (v := .int 8) (C := RX7) (T := TX7) (N := 14) hx hb hts iw_X7_append_X7 hown hK hP 0 rfl rfl 0 (by decide) (hts _ kk_X7_append_0) (fun _ h9 => h9) rfl dX7_append_32 ?_
  refine lv_iconst (v := 1) hx hb dX7_append_35 (by decide) ?_
  refine lv_iadd hx hb dX7_append_36 ?_
  refine px_i (v := 9) (by decide) ?_
  refine va_put (D := (dC, dI)) (ci := 7) (v := .int 9) (ty := .int) (C := RX7) (T := TX7) (N := 14) hx hb hts iw_X7_append_X7 tyX7 tyX7_ok nmX7 hown hK hP hD hS 0 rfl rfl 0 (by decide) (hts _ kk_X7_append_0) (fun _ h9 => h9) rfl (by decide +kernel) rfl rfl (Nat.le_of_ble_eq_true rfl) dX7_append_37 (fun H locs hP hD hS => ?_)
  have hP : va_P (dC, dI) vwCl [(ad0, .inr (7, [.int 9, .int 0, .int (-1), .ref ad1, .ref ad2, .int 0, .int 0, .int 0, .int 0, .ref ad3, .ref ad4, .int 0, .int 0, .int 0])), (ad2, .inl (ck0, 900, .inl f3))] H := hP
  have hD : va_D A [(ad0, .inr (7, [.int 9, .int 0, .int (-1), .ref ad1, .ref ad2, .int 0, .int 0, .int 0, .int 0, .ref ad3, .ref ad4, .int 0, .int 0, .int 0])), (ad2, .inl (ck0, 900, .inl f3))] := hD
  refine lv_iinc (v := 16) (lv' := [(2, .int 16), (0, .ref ad0), (1, .int vi0)]) hx hb dX7_append_40 hl (k := 0) rfl (by decide) (by decide) rfl (fun ls hl => ?_)
  refine lv_goto (tgt := 3) hx hb dX7_append_43 (by decide) ?_
  refine lv_iload_n hx hb dX7_append_3 rfl (lv_at hl 0 rfl) ?_
  refine lv_if_lt (tgt := 46) hx hb dX7_append_4 (by decide) (fun cz => absurd cz (by decide)) (fun _ => ?_)
  refine lv_aload_n hx hb dX7_append_7 rfl (lv_at hl 1 rfl) ?_
  refine va_get (D := (dC, dI)) (ci := 7) (v := .int 9) (C := RX7) (T := TX7) (N := 14) hx hb hts iw_X7_append_X7 hown hK hP 0 rfl rfl 0 (by decide) (hts _ kk_X7_append_0) (fun _ h9 => h9) rfl dX7_append_8 ?_
  refine lv_sipush (v := 900) hx hb dX7_append_11 (by decide) ?_
  refine lv_icmp_ge (tgt := 46) hx hb dX7_append_14 (by decide) (fun cz => absurd cz (by decide)) (fun _ => ?_)
  refine lv_aload_n hx hb dX7_append_17 rfl (lv_at hl 1 rfl) ?_
  refine va_get (D := (dC, dI)) (ci := 7) (v := .ref ad2) (C := RX7) (T := TX7) (N := 14) hx hb hts iw_X7_append_X7 hown hK hP 0 rfl rfl 4 (by decide) (hts _ kk_X7_append_1) (fun _ h9 => h9) rfl dX7_append_18 ?_
  refine lv_aload_n hx hb dX7_append_21 rfl (lv_at hl 1 rfl) ?_
  refine va_get (D := (dC, dI)) (ci := 7) (v := .int 9) (C := RX7) (T := TX7) (N := 14) hx hb hts iw_X7_append_X7 hown hK hP 0 rfl rfl 0 (by decide) (hts _ kk_X7_append_0) (fun _ h9 => h9) rfl dX7_append_22 ?_
  refine lv_iload_n hx hb dX7_append_25 rfl (lv_at hl 2 rfl) ?_
  refine lv_iload_n hx hb dX7_append_26 rfl (lv_at hl 0 rfl) ?_
  obtain ⟨x4, ex4⟩ : ∃ v : Int32, ((vi0 : Int32).toUInt32 >>> ((16 : Int32).toUInt32 &&& Int32.toUInt32 31)).toInt32 = v := ⟨_, rfl⟩
  refine lv_iushr hx hb dX7_append_27 ex4 ?_
  obtain ⟨x5, ex5⟩ : ∃ v : Int32, (x4 : Int32).toInt8.toInt32 = v := ⟨_, rfl⟩
  refine lv_i2b hx hb dX7_append_28 ex5 ?_
  refine va_bast hx hb hK hP hD hS 1 0 rfl rfl (vq_in 9 900 (by decide)) dX7_append_29 (fun H locs hP hD hS => ?_)
  have hP : va_P (dC, dI) vwCl [(ad0, .inr (7, [.int 9, .int 0, .int (-1), .ref ad1, .ref ad2, .int 0, .int 0, .int 0, .int 0, .ref ad3, .ref ad4, .int 0, .int 0, .int 0])), (ad2, .inl (ck0, 900, .inl (upd f3 (Int32.toNatClampNeg 9) (vp_nar .byte x5))))] H := hP
  have hD : va_D A [(ad0, .inr (7, [.int 9, .int 0, .int (-1), .ref ad1, .ref ad2, .int 0, .int 0, .int 0, .int 0, .ref ad3, .ref ad4, .int 0, .int 0, .int 0])), (ad2, .inl (ck0, 900, .inl (upd f3 (Int32.toNatClampNeg 9) (vp_nar .byte x5))))] := hD
  generalize upd f3 (Int32.toNatClampNeg 9) (vp_nar .byte x5) = f6 at hP hD
  refine lv_aload_n hx hb dX7_append_30 rfl (lv_at hl 1 rfl) ?_
  refine lv_dup hx hb dX7_append_31 rfl ?_
  refine va_get (D := (dC, dI)) (ci := 7) (v := .int 9) (C := RX7) (T := TX7) (N := 14) hx hb hts iw_X7_append_X7 hown hK hP 0 rfl rfl 0 (by decide) (hts _ kk_X7_append_0) (fun _ h9 => h9) rfl dX7_append_32 ?_
  refine lv_iconst (v := 1) hx hb dX7_append_35 (by decide) ?_
  refine lv_iadd hx hb dX7_append_36 ?_
  refine px_i (v := 10) (by decide) ?_
  refine va_put (D := (dC, dI)) (ci := 7) (v := .int 10) (ty := .int) (C := RX7) (T := TX7) (N := 14) hx hb hts iw_X7_append_X7 tyX7 tyX7_ok nmX7 hown hK hP hD hS 0 rfl rfl 0 (by decide) (hts _ kk_X7_append_0) (fun _ h9 => h9) rfl (by decide +kernel) rfl rfl (Nat.le_of_ble_eq_true rfl) dX7_append_37 (fun H locs hP hD hS => ?_)
  have hP : va_P (dC, dI) vwCl [(ad0, .inr (7, [.int 10, .int 0, .int (-1), .ref ad1, .ref ad2, .int 0, .int 0, .int 0, .int 0, .ref ad3, .ref ad4, .int 0, .int 0, .int 0])), (ad2, .inl (ck0, 900, .inl f6))] H := hP
  have hD : va_D A [(ad0, .inr (7, [.int 10, .int 0, .int (-1), .ref ad1, .ref ad2, .int 0, .int 0, .int 0, .int 0, .ref ad3, .ref ad4, .int 0, .int 0, .int 0])), (ad2, .inl (ck0, 900, .inl f6))] := hD
  refine lv_iinc (v := 8) (lv' := [(2, .int 8), (0, .ref ad0), (1, .int vi0)]) hx hb dX7_append_40 hl (k := 0) rfl (by decide) (by decide) rfl (fun ls hl => ?_)
  refine lv_goto (tgt := 3) hx hb dX7_append_43 (by decide) ?_
  refine lv_iload_n hx hb dX7_append_3 rfl (lv_at hl 0 rfl) ?_
  refine lv_if_lt (tgt := 46) hx hb dX7_append_4 (by decide) (fun cz => absurd cz (by decide)) (fun _ => ?_)
  refine lv_aload_n hx hb dX7_append_7 rfl (lv_at hl 1 rfl) ?_
  refine va_get (D := (dC, dI)) (ci := 7) (v := .int 10) (C := RX7) (T := TX7) (N := 14) hx hb hts iw_X7_append_X7 hown hK hP 0 rfl rfl 0 (by decide) (hts _ kk_X7_append_0) (fun _ h9 => h9) rfl dX7_append_8 ?_
  refine lv_sipush (v := 900) hx hb dX7_append_11 (by decide) ?_
  refine lv_icmp_ge (tgt := 46) hx hb dX7_append_14 (by decide) (fun cz => absurd cz (by decide)) (fun _ => ?_)
  refine lv_aload_n hx hb dX7_append_17 rfl (lv_at hl 1 rfl) ?_
  refine va_get (D := (dC, dI)) (ci := 7) (v := .ref ad2) (C := RX7) (T := TX7) (N := 14) hx hb hts iw_X7_append_X7 hown hK hP 0 rfl rfl 4 (by decide) (hts _ kk_X7_append_1) (fun _ h9 => h9) rfl dX7_append_18 ?_
  refine lv_aload_n hx hb dX7_append_21 rfl (lv_at hl 1 rfl) ?_
  refine va_get (D := (dC, dI)) (ci := 7) (v := .int 10) (C := RX7) (T := TX7) (N := 14) hx hb hts iw_X7_append_X7 hown hK hP 0 rfl rfl 0 (by decide) (hts _ kk_X7_append_0) (fun _ h9 => h9) rfl dX7_append_22 ?_
  refine lv_iload_n hx hb dX7_append_25 rfl (lv_at hl 2 rfl) ?_
  refine lv_iload_n hx hb dX7_append_26 rfl (lv_at hl 0 rfl) ?_
  obtain ⟨x7, ex7⟩ : ∃ v : Int32, ((vi0 : Int32).toUInt32 >>> ((8 : Int32).toUInt32 &&& Int32.toUInt32 31)).toInt32 = v := ⟨_, rfl⟩
  refine lv_iushr hx hb dX7_append_27 ex7 ?_
  obtain ⟨x8, ex8⟩ : ∃ v : Int32, (x7 : Int32).toInt8.toInt32 = v := ⟨_, rfl⟩
  refine lv_i2b hx hb dX7_append_28 ex8 ?_
  refine va_bast hx hb hK hP hD hS 1 0 rfl rfl (vq_in 10 900 (by decide)) dX7_append_29 (fun H locs hP hD hS => ?_)
  have hP : va_P (dC, dI) vwCl [(ad0, .inr (7, [.int 10, .int 0, .int (-1), .ref ad1, .ref ad2, .int 0, .int 0, .int 0, .int 0, .ref ad3, .ref ad4, .int 0, .int 0, .int 0])), (ad2, .inl (ck0, 900, .inl (upd f6 (Int32.toNatClampNeg 10) (vp_nar .byte x8))))] H := hP
  have hD : va_D A [(ad0, .inr (7, [.int 10, .int 0, .int (-1), .ref ad1, .ref ad2, .int 0, .int 0, .int 0, .int 0, .ref ad3, .ref ad4, .int 0, .int 0, .int 0])), (ad2, .inl (ck0, 900, .inl (upd f6 (Int32.toNatClampNeg 10) (vp_nar .byte x8))))] := hD
  generalize upd f6 (Int32.toNatClampNeg 10) (vp_nar .byte x8) = f9 at hP hD
  refine lv_aload_n hx hb dX7_append_30 rfl (lv_at hl 1 rfl) ?_
  refine lv_dup hx hb dX7_append_31 rfl ?_
  refine va_get (D := (dC, dI)) (ci := 7) (v := .int 10) (C := RX7) (T := TX7) (N := 14) hx hb hts iw_X7_append_X7 hown hK hP 0 rfl rfl 0 (by decide) (hts _ kk_X7_append_0) (fun _ h9 => h9) rfl dX7_append_32 ?_
  refine lv_iconst (v := 1) hx hb dX7_append_35 (by decide) ?_
  refine lv_iadd hx hb dX7_append_36 ?_
  refine px_i (v := 11) (by decide) ?_
  refine va_put (D := (dC, dI)) (ci := 7) (v := .int 11) (ty := .int) (C := RX7) (T := TX7) (N := 14) hx hb hts iw_X7_append_X7 tyX7 tyX7_ok nmX7 hown hK hP hD hS 0 rfl rfl 0 (by decide) (hts _ kk_X7_append_0) (fun _ h9 => h9) rfl (by decide +kernel) rfl rfl (Nat.le_of_ble_eq_true rfl) dX7_append_37 (fun H locs hP hD hS => ?_)
  have hP : va_P (dC, dI) vwCl [(ad0, .inr (7, [.int 11, .int 0, .int (-1), .ref ad1, .ref ad2, .int 0, .int 0, .int 0, .int 0, .ref ad3, .ref ad4, .int 0, .int 0, .int 0])), (ad2, .inl (ck0, 900, .inl f9))] H := hP
  have hD : va_D A [(ad0, .inr (7, [.int 11, .int 0, .int (-1), .ref ad1, .ref ad2, .int 0, .int 0, .int 0, .int 0, .ref ad3, .ref ad4, .int 0, .int 0, .int 0])), (ad2, .inl (ck0, 900, .inl f9))] := hD
  refine lv_iinc (v := 0) (lv' := [(2, .int 0), (0, .ref ad0), (1, .int vi0)]) hx hb dX7_append_40 hl (k := 0) rfl (by decide) (by decide) rfl (fun ls hl => ?_)
  refine lv_goto (tgt := 3) hx hb dX7_append_43 (by decide) ?_
  refine lv_iload_n hx hb dX7_append_3 rfl (lv_at hl 0 rfl) ?_
  refine lv_if_lt (tgt := 46) hx hb dX7_append_4 (by decide) (fun cz => absurd cz (by decide)) (fun _ => ?_)
  refine lv_aload_n hx hb dX7_append_7 rfl (lv_at hl 1 rfl) ?_
  refine va_get (D := (dC, dI)) (ci := 7) (v := .int 11) (C := RX7) (T := TX7) (N := 14) hx hb hts iw_X7_append_X7 hown hK hP 0 rfl rfl 0 (by decide) (hts _ kk_X7_append_0) (fun _ h9 => h9) rfl dX7_append_8 ?_
  refine lv_sipush (v := 900) hx hb dX7_append_11 (by decide) ?_
  refine lv_icmp_ge (tgt := 46) hx hb dX7_append_14 (by decide) (fun cz => absurd cz (by decide)) (fun _ => ?_)
  refine lv_aload_n hx hb dX7_append_17 rfl (lv_at hl 1 rfl) ?_
  refine va_get (D := (dC, dI)) (ci := 7) (v := .ref ad2) (C := RX7) (T := TX7) (N := 14) hx hb hts iw_X7_append_X7 hown hK hP 0 rfl rfl 4 (by decide) (hts _ kk_X7_append_1) (fun _ h9 => h9) rfl dX7_append_18 ?_
  refine lv_aload_n hx hb dX7_append_21 rfl (lv_at hl 1 rfl) ?_
  refine va_get (D := (dC, dI)) (ci := 7) (v := .int 11) (C := RX7) (T := TX7) (N := 14) hx hb hts iw_X7_append_X7 hown hK hP 0 rfl rfl 0 (by decide) (hts _ kk_X7_append_0) (fun _ h9 => h9) rfl dX7_append_22 ?_
  refine lv_iload_n hx hb dX7_append_25 rfl (lv_at hl 2 rfl) ?_
  refine lv_iload_n hx hb dX7_append_26 rfl (lv_at hl 0 rfl) ?_
  obtain ⟨x10, ex10⟩ : ∃ v : Int32, ((vi0 : Int32).toUInt32 >>> ((0 : Int32).toUInt32 &&& Int32.toUInt32 31)).toInt32 = v := ⟨_, rfl⟩
  refine lv_iushr hx hb dX7_append_27 ex10 ?_
  obtain ⟨x11, ex11⟩ : ∃ v : Int32, (x10 : Int32).toInt8.toInt32 = v := ⟨_, rfl⟩
  refine lv_i2b hx hb dX7_append_28 ex11 ?_
  refine va_bast hx hb hK hP hD hS 1 0 rfl rfl (vq_in 11 900 (by decide)) dX7_append_29 (fun H locs hP hD hS => ?_)
  have hP : va_P (dC, dI) vwCl [(ad0, .inr (7, [.int 11, .int 0, .int (-1), .ref ad1, .ref ad2, .int 0, .int 0, .int 0, .int 0, .ref ad3, .ref ad4, .int 0, .int 0, .int 0])), (ad2, .inl (ck0, 900, .inl (upd f9 (Int32.toNatClampNeg 11) (vp_nar .byte x11))))] H := hP
  have hD : va_D A [(ad0, .inr (7, [.int 11, .int 0, .int (-1), .ref ad1, .ref ad2, .int 0, .int 0, .int 0, .int 0, .ref ad3, .ref ad4, .int 0, .int 0, .int 0])), (ad2, .inl (ck0, 900, .inl (upd f9 (Int32.toNatClampNeg 11) (vp_nar .byte x11))))] := hD
  generalize upd f9 (Int32.toNatClampNeg 11) (vp_nar .byte x11) = f12 at hP hD
  refine lv_aload_n hx hb dX7_append_30 rfl (lv_at hl 1 rfl) ?_
  refine lv_dup hx hb dX7_append_31 rfl ?_
  refine va_get (D := (dC, dI)) (ci := 7) (v := .int 11) (C := RX7) (T := TX7) (N := 14) hx hb hts iw_X7_append_X7 hown hK hP 0 rfl rfl 0 (by decide) (hts _ kk_X7_append_0) (fun _ h9 => h9) rfl dX7_append_32 ?_
  refine lv_iconst (v := 1) hx hb dX7_append_35 (by decide) ?_
  refine lv_iadd hx hb dX7_append_36 ?_
  refine px_i (v := 12) (by decide) ?_
  refine va_put (D := (dC, dI)) (ci := 7) (v := .int 12) (ty := .int) (C := RX7) (T := TX7) (N := 14) hx hb hts iw_X7_append_X7 tyX7 tyX7_ok nmX7 hown hK hP hD hS 0 rfl rfl 0 (by decide) (hts _ kk_X7_append_0) (fun _ h9 => h9) rfl (by decide +kernel) rfl rfl (Nat.le_of_ble_eq_true rfl) dX7_append_37 (fun H locs hP hD hS => ?_)
  have hP : va_P (dC, dI) vwCl [(ad0, .inr (7, [.int 12, .int 0, .int (-1), .ref ad1, .ref ad2, .int 0, .int 0, .int 0, .int 0, .ref ad3, .ref ad4, .int 0, .int 0, .int 0])), (ad2, .inl (ck0, 900, .inl f12))] H := hP
  have hD : va_D A [(ad0, .inr (7, [.int 12, .int 0, .int (-1), .ref ad1, .ref ad2, .int 0, .int 0, .int 0, .int 0, .ref ad3, .ref ad4, .int 0, .int 0, .int 0])), (ad2, .inl (ck0, 900, .inl f12))] := hD
  refine lv_iinc (v := (-8)) (lv' := [(2, .int (-8)), (0, .ref ad0), (1, .int vi0)]) hx hb dX7_append_40 hl (k := 0) rfl (by decide) (by decide) rfl (fun ls hl => ?_)
  refine lv_goto (tgt := 3) hx hb dX7_append_43 (by decide) ?_
  refine lv_iload_n hx hb dX7_append_3 rfl (lv_at hl 0 rfl) ?_
  refine lv_if_lt (tgt := 46) hx hb dX7_append_4 (by decide) (fun _ => ?_) (fun cz => absurd cz (by decide))
  refine W.widen (k := 0) (n := 0) (by decide) (by decide) ?_
  have hP9 := hP.sub (ws' := [(ad0, .inr (7, [.int 12, .int 0, .int (-1), .ref ad1, .ref ad2, .int 0, .int 0, .int 0, .int 0, .ref ad3, .ref ad4, .int 0, .int 0, .int 0])), (ad2, .inl (ck0, 900, .inl f12))]) [0, 1] rfl
  have hD9 := hD.sub (ws' := [(ad0, .inr (7, [.int 12, .int 0, .int (-1), .ref ad1, .ref ad2, .int 0, .int 0, .int 0, .int 0, .ref ad3, .ref ad4, .int 0, .int 0, .int 0])), (ad2, .inl (ck0, 900, .inl f12))]) [0, 1] (by decide) rfl
  have hK9 := hK.sub (tys' := [(ck0, .byte)]) [0] rfl
  exact W.vret hx hb hr (fun t ht hW => ⟨⟨(), rfl, trivial, f12, by rw [ht]; exact hP9, va_K.moved hW.alike hK9, hD9⟩, hS.F ht⟩) hS.2.2 dX7_append_46

set_option maxHeartbeats 4000000 in
set_option maxRecDepth 100000 in
theorem ct_X7_append_v4 (l : Launch) (dC : Nat → ClassId) (dI : Nat → Nat → Nat) (ad0 : Nat) (vi0 : Int32) (ad1 : Nat) (ad2 : Nat) (ad3 : Nat) (ad4 : Nat) (ck0 : ClassId) (fn0 : Nat → Int32) (sz : Nat) : Met l yX7_append wsX7_append ({ frames := 0, cells := 0, slots := 0, locals := 0 }) (va_Pc [.ref ad0, .int vi0] (fun U => U.heap.size = sz ∧ va_P (dC, dI) vwCl [(ad0, .inr (7, [.int 12, .int 0, .int (-1), .ref ad1, .ref ad2, .int 0, .int 0, .int 0, .int 0, .ref ad3, .ref ad4, .int 0, .int 0, .int 0])), (ad2, .inl (ck0, 900, .inl fn0))] U.heap ∧ va_K (dC, dI) vwCl [(ck0, .byte)] U ∧ va_D (fun _ => True) [(ad0, .inr (7, [.int 12, .int 0, .int (-1), .ref ad1, .ref ad2, .int 0, .int 0, .int 0, .int 0, .ref ad3, .ref ad4, .int 0, .int 0, .int 0])), (ad2, .inl (ck0, 900, .inl fn0))])) (va_Qv (fun _ : Unit => True) (fun _ t => ∃ (f12 : Nat → Int32), va_P (dC, dI) vwCl [(ad0, .inr (7, [.int 16, .int 0, .int (-1), .ref ad1, .ref ad2, .int 0, .int 0, .int 0, .int 0, .ref ad3, .ref ad4, .int 0, .int 0, .int 0])), (ad2, .inl (ck0, 900, .inl f12))] t.heap ∧ va_K (dC, dI) vwCl [(ck0, .byte)] t ∧ va_D (va_A [(ad0, .inr (7, [.int 12, .int 0, .int (-1), .ref ad1, .ref ad2, .int 0, .int 0, .int 0, .int 0, .ref ad3, .ref ad4, .int 0, .int 0, .int 0])), (ad2, .inl (ck0, 900, .inl fn0))] sz) [(ad0, .inr (7, [.int 16, .int 0, .int (-1), .ref ad1, .ref ad2, .int 0, .int 0, .int 0, .int 0, .ref ad3, .ref ad4, .int 0, .int 0, .int 0])), (ad2, .inl (ck0, 900, .inl f12))]) (va_A [(ad0, .inr (7, [.int 12, .int 0, .int (-1), .ref ad1, .ref ad2, .int 0, .int 0, .int 0, .int 0, .ref ad3, .ref ad4, .int 0, .int 0, .int 0])), (ad2, .inl (ck0, 900, .inl fn0))] sz)) 0 0 (va_A [(ad0, .inr (7, [.int 12, .int 0, .int (-1), .ref ad1, .ref ad2, .int 0, .int 0, .int 0, .int 0, .ref ad3, .ref ad4, .int 0, .int 0, .int 0])), (ad2, .inl (ck0, 900, .inl fn0))] sz) := by
  refine Met.ofW (cc := cX7_append) (maxL := 3) (ret := none) (by decide) rfl ?_
  intro p e s m args below meth c s₁ B hml hv
  obtain ⟨rfl, hsz, hP, hK, hD0⟩ := hv
  have hx := B.exec
  have hb := B.bytes
  have hr := B.returns
  have hts := atoms_spec (ws := wsX7_append) B.pre
  have hown : s.vm.findClass RX7 = some m.cls := findClass_of_methodNamed B.named
  have hlocks := B.notSynchronized
  subst hsz
  have hD := hD0.self (sz := s.heap.size)
  generalize hAe : va_A [(ad0, .inr (7, [.int 12, .int 0, .int (-1), .ref ad1, .ref ad2, .int 0, .int 0, .int 0, .int 0, .ref ad3, .ref ad4, .int 0, .int 0, .int 0])), (ad2, .inl (ck0, 900, .inl fn0))] s.heap.size = A at hD ⊢
  have hA : ∀ q : Nat, s.heap.size ≤ q → A q := fun q h => by rw [← hAe]; exact Or.inr h
  have hS : va_S A s.heap s.heap [] := va_S.rf
  have hP : va_P (dC, dI) vwCl [(ad0, .inr (7, [.int 12, .int 0, .int (-1), .ref ad1, .ref ad2, .int 0, .int 0, .int 0, .int 0, .ref ad3, .ref ad4, .int 0, .int 0, .int 0])), (ad2, .inl (ck0, 900, .inl fn0))] s.heap := hP
  have hl := lv_entry ([.ref ad0, .int vi0]) (n := 3) (Nat.le_of_ble_eq_true rfl)
  rw [lg_entry_eq]
  generalize (lg_sl ([.ref ad0, .int vi0]) ++ List.replicate (3 - (lg_sl ([.ref ad0, .int vi0])).length) Slot.unset).toArray = ls at hl ⊢
  have hl : lv_has ls 3 [(0, .ref ad0), (1, .int vi0)] := hl
  refine lv_bipush (v := 24) hx hb dX7_append_0 (by decide) ?_
  refine lv_istore_n (lv' := [(2, .int 24), (0, .ref ad0), (1, .int vi0)]) hx hb dX7_append_2 rfl hl (by decide) rfl (fun ls hl => ?_)
  refine lv_iload_n hx hb dX7_append_3 rfl (lv_at hl 0 rfl) ?_
  refine lv_if_lt (tgt := 46) hx hb dX7_append_4 (by decide) (fun cz => absurd cz (by decide)) (fun _ => ?_)
  refine lv_aload_n hx hb dX7_append_7 rfl (lv_at hl 1 rfl) ?_
  refine va_get (D := (dC, dI)) (ci := 7) (v := .int 12) (C := RX7) (T := TX7) (N := 14) hx hb hts iw_X7_append_X7 hown hK hP 0 rfl rfl 0 (by decide) (hts _ kk_X7_append_0) (fun _ h9 => h9) rfl dX7_append_8 ?_
  refine lv_sipush (v := 900) hx hb dX7_append_11 (by decide) ?_
  refine lv_icmp_ge (tgt := 46) hx hb dX7_append_14 (by decide) (fun cz => absurd cz (by decide)) (fun _ => ?_)
  refine lv_aload_n hx hb dX7_append_17 rfl (lv_at hl 1 rfl) ?_
  refine va_get (D := (dC, dI)) (ci := 7) (v := .ref ad2) (C := RX7) (T := TX7) (N := 14) hx hb hts iw_X7_append_X7 hown hK hP 0 rfl rfl 4 (by decide) (hts _ kk_X7_append_1) (fun _ h9 => h9) rfl dX7_append_18 ?_
  refine lv_aload_n hx hb dX7_append_21 rfl (lv_at hl 1 rfl) ?_
  refine va_get (D := (dC, dI)) (ci := 7) (v := .int 12) (C := RX7) (T := TX7) (N := 14) hx hb hts iw_X7_append_X7 hown hK hP 0 rfl rfl 0 (by decide) (hts _ kk_X7_append_0) (fun _ h9 => h9) rfl dX7_append_22 ?_
  refine lv_iload_n hx hb dX7_append_25 rfl (lv_at hl 2 rfl) ?_
  refine lv_iload_n hx hb dX7_append_26 rfl (lv_at hl 0 rfl) ?_
  obtain ⟨x1, ex1⟩ : ∃ v : Int32, ((vi0 : Int32).toUInt32 >>> ((24 : Int32).toUInt32 &&& Int32.toUInt32 31)).toInt32 = v := ⟨_, rfl⟩
  refine lv_iushr hx hb dX7_append_27 ex1 ?_
  obtain ⟨x2, ex2⟩ : ∃ v : Int32, (x1 : Int32).toInt8.toInt32 = v := ⟨_, rfl⟩
  refine lv_i2b hx hb dX7_append_28 ex2 ?_
  refine va_bast hx hb hK hP hD hS 1 0 rfl rfl (vq_in 12 900 (by decide)) dX7_append_29 (fun H locs hP hD hS => ?_)
  have hP : va_P (dC, dI) vwCl [(ad0, .inr (7, [.int 12, .int 0, .int (-1), .ref ad1, .ref ad2, .int 0, .int 0, .int 0, .int 0, .ref ad3, .ref ad4, .int 0, .int 0, .int 0])), (ad2, .inl (ck0, 900, .inl (upd fn0 (Int32.toNatClampNeg 12) (vp_nar .byte x2))))] H := hP
  have hD : va_D A [(ad0, .inr (7, [.int 12, .int 0, .int (-1), .ref ad1, .ref ad2, .int 0, .int 0, .int 0, .int 0, .ref ad3, .ref ad4, .int 0, .int 0, .int 0])), (ad2, .inl (ck0, 900, .inl (upd fn0 (Int32.toNatClampNeg 12) (vp_nar .byte x2))))] := hD
  generalize upd fn0 (Int32.toNatClampNeg 12) (vp_nar .byte x2) = f3 at hP hD
  refine lv_aload_n hx hb dX7_append_30 rfl (lv_at hl 1 rfl) ?_
  refine lv_dup hx hb dX7_append_31 rfl ?_
  refine va_get (D := (dC, dI)) (ci := 7) (v := .int 12) (C := RX7) (T := TX7) (N := 14) hx hb hts iw_X7_append_X7 hown hK hP 0 rfl rfl 0 (by decide) (hts _ kk_X7_append_0) (fun _ h9 => h9) rfl dX7_append_32 ?_
  refine lv_iconst (v := 1) hx hb dX7_append_35 (by decide) ?_
  refine lv_iadd hx hb dX7_append_36 ?_
  refine px_i (v := 13) (by decide) ?_
  refine va_put (D := (dC, dI)) (ci := 7) (v := .int 13) (ty := .int) (C := RX7) (T := TX7) (N := 14) hx hb hts iw_X7_append_X7 tyX7 tyX7_ok nmX7 hown hK hP hD hS 0 rfl rfl 0 (by decide) (hts _ kk_X7_append_0) (fun _ h9 => h9) rfl (by decide +kernel) rfl rfl (Nat.le_of_ble_eq_true rfl) dX7_append_37 (fun H locs hP hD hS => ?_)
  have hP : va_P (dC, dI) vwCl [(ad0, .inr (7, [.int 13, .int 0, .int (-1), .ref ad1, .ref ad2, .int 0, .int 0, .int 0, .int 0, .ref ad3, .ref ad4, .int 0, .int 0, .int 0])), (ad2, .inl (ck0, 900, .inl f3))] H := hP
  have hD : va_D A [(ad0, .inr (7, [.int 13, .int 0, .int (-1), .ref ad1, .ref ad2, .int 0, .int 0, .int 0, .int 0, .ref ad3, .ref ad4, .int 0, .int 0, .int 0])), (ad2, .inl (ck0, 900, .inl f3))] := hD
  refine lv_iinc (v := 16) (lv' := [(2, .int 16), (0, .ref ad0), (1, .int vi0)]) hx hb dX7_append_40 hl (k := 0) rfl (by decide) (by decide) rfl (fun ls hl => ?_)
  refine lv_goto (tgt := 3) hx hb dX7_append_43 (by decide) ?_
  refine lv_iload_n hx hb dX7_append_3 rfl (lv_at hl 0 rfl) ?_
  refine lv_if_lt (tgt := 46) hx hb dX7_append_4 (by decide) (fun cz => absurd cz (by decide)) (fun _ => ?_)
  refine lv_aload_n hx hb dX7_append_7 rfl (lv_at hl 1 rfl) ?_
  refine va_get (D := (dC, dI)) (ci := 7) (v := .int 13) (C := RX7) (T := TX7) (N := 14) hx hb hts iw_X7_append_X7 hown hK hP 0 rfl rfl 0 (by decide) (hts _ kk_X7_append_0) (fun _ h9 => h9) rfl dX7_append_8 ?_
  refine lv_sipush (v := 900) hx hb dX7_append_11 (by decide) ?_
  refine lv_icmp_ge (tgt := 46) hx hb dX7_append_14 (by decide) (fun cz => absurd cz (by decide)) (fun _ => ?_)
  refine lv_aload_n hx hb dX7_append_17 rfl (lv_at hl 1 rfl) ?_
  refine va_get (D := (dC, dI)) (ci := 7) (v := .ref ad2) (C := RX7) (T := TX7) (N := 14) hx hb hts iw_X7_append_X7 hown hK hP 0 rfl rfl 4 (by decide) (hts _ kk_X7_append_1) (fun _ h9 => h9) rfl dX7_append_18 ?_
  refine lv_aload_n hx hb dX7_append_21 rfl (lv_at hl 1 rfl) ?_
  refine va_get (D := (dC, dI)) (ci := 7) (v := .int 13) (C := RX7) (T := TX7) (N := 14) hx hb hts iw_X7_append_X7 hown hK hP 0 rfl rfl 0 (by decide) (hts _ kk_X7_append_0) (fun _ h9 => h9) rfl dX7_append_22 ?_
  refine lv_iload_n hx hb dX7_append_25 rfl (lv_at hl 2 rfl) ?_
  refine lv_iload_n hx hb dX7_append_26 rfl (lv_at hl 0 rfl) ?_
  obtain ⟨x4, ex4⟩ : ∃ v : Int32, ((vi0 : Int32).toUInt32 >>> ((16 : Int32).toUInt32 &&& Int32.toUInt32 31)).toInt32 = v := ⟨_, rfl⟩
  refine lv_iushr hx hb dX7_append_27 ex4 ?_
  obtain ⟨x5, ex5⟩ : ∃ v : Int32, (x4 : Int32).toInt8.toInt32 = v := ⟨_, rfl⟩
  refine lv_i2b hx hb dX7_append_28 ex5 ?_
  refine va_bast hx hb hK hP hD hS 1 0 rfl rfl (vq_in 13 900 (by decide)) dX7_append_29 (fun H locs hP hD hS => ?_)
  have hP : va_P (dC, dI) vwCl [(ad0, .inr (7, [.int 13, .int 0, .int (-1), .ref ad1, .ref ad2, .int 0, .int 0, .int 0, .int 0, .ref ad3, .ref ad4, .int 0, .int 0, .int 0])), (ad2, .inl (ck0, 900, .inl (upd f3 (Int32.toNatClampNeg 13) (vp_nar .byte x5))))] H := hP
  have hD : va_D A [(ad0, .inr (7, [.int 13, .int 0, .int (-1), .ref ad1, .ref ad2, .int 0, .int 0, .int 0, .int 0, .ref ad3, .ref ad4, .int 0, .int 0, .int 0])), (ad2, .inl (ck0, 900, .inl (upd f3 (Int32.toNatClampNeg 13) (vp_nar .byte x5))))] := hD
  generalize upd f3 (Int32.toNatClampNeg 13) (vp_nar .byte x5) = f6 at hP hD
  refine lv_aload_n hx hb dX7_append_30 rfl (lv_at hl 1 rfl) ?_
  refine lv_dup hx hb dX7_append_31 rfl ?_
  refine va_get (D := (dC, dI)) (ci := 7) (v := .int 13) (C := RX7) (T := TX7) (N := 14) hx hb hts iw_X7_append_X7 hown hK hP 0 rfl rfl 0 (by decide) (hts _ kk_X7_append_0) (fun _ h9 => h9) rfl dX7_append_32 ?_
  refine lv_iconst (v := 1) hx hb dX7_append_35 (by decide) ?_
  refine lv_iadd hx hb dX7_append_36 ?_
  refine px_i (v := 14) (by decide) ?_
  refine va_put (D := (dC, dI)) (ci := 7) (v := .int 14) (ty := .int) (C := RX7) (T := TX7) (N := 14) hx hb hts iw_X7_append_X7 tyX7 tyX7_ok nmX7 hown hK hP hD hS 0 rfl rfl 0 (by decide) (hts _ kk_X7_append_0) (fun _ h9 => h9) rfl (by decide +kernel) rfl rfl (Nat.le_of_ble_eq_true rfl) dX7_append_37 (fun H locs hP hD hS => ?_)
  have hP : va_P (dC, dI) vwCl [(ad0, .inr (7, [.int 14, .int 0, .int (-1), .ref ad1, .ref ad2, .int 0, .int 0, .int 0, .int 0, .ref ad3, .ref ad4, .int 0, .int 0, .int 0])), (ad2, .inl (ck0, 900, .inl f6))] H := hP
  have hD : va_D A [(ad0, .inr (7, [.int 14, .int 0, .int (-1), .ref ad1, .ref ad2, .int 0, .int 0, .int 0, .int 0, .ref ad3, .ref ad4, .int 0, .int 0, .int 0])), (ad2, .inl (ck0, 900, .inl f6))] := hD
  refine lv_iinc (v := 8) (lv' := [(2, .int 8), (0, .ref ad0), (1, .int vi0)]) hx hb dX7_append_40 hl (k := 0) rfl (by decide) (by decide) rfl (fun ls hl => ?_)
  refine lv_goto (tgt := 3) hx hb dX7_append_43 (by decide) ?_
  refine lv_iload_n hx hb dX7_append_3 rfl (lv_at hl 0 rfl) ?_
  refine lv_if_lt (tgt := 46) hx hb dX7_append_4 (by decide) (fun cz => absurd cz (by decide)) (fun _ => ?_)
  refine lv_aload_n hx hb dX7_append_7 rfl (lv_at hl 1 rfl) ?_
  refine va_get (D := (dC, dI)) (ci := 7) (v := .int 14) (C := RX7) (T := TX7) (N := 14) hx hb hts iw_X7_append_X7 hown hK hP 0 rfl rfl 0 (by decide) (hts _ kk_X7_append_0) (fun _ h9 => h9) rfl dX7_append_8 ?_
  refine lv_sipush (v := 900) hx hb dX7_append_11 (by decide) ?_
  refine lv_icmp_ge (tgt := 46) hx hb dX7_append_14 (by decide) (fun cz => absurd cz (by decide)) (fun _ => ?_)
  refine lv_aload_n hx hb dX7_append_17 rfl (lv_at hl 1 rfl) ?_
  refine va_get (D := (dC, dI)) (ci := 7) (v := .ref ad2) (C := RX7) (T := TX7) (N := 14) hx hb hts iw_X7_append_X7 hown hK hP 0 rfl rfl 4 (by decide) (hts _ kk_X7_append_1) (fun _ h9 => h9) rfl dX7_append_18 ?_
  refine lv_aload_n hx hb dX7_append_21 rfl (lv_at hl 1 rfl) ?_
  refine va_get (D := (dC, dI)) (ci := 7) (v := .int 14) (C := RX7) (T := TX7) (N := 14) hx hb hts iw_X7_append_X7 hown hK hP 0 rfl rfl 0 (by decide) (hts _ kk_X7_append_0) (fun _ h9 => h9) rfl dX7_append_22 ?_
  refine lv_iload_n hx hb dX7_append_25 rfl (lv_at hl 2 rfl) ?_
  refine lv_iload_n hx hb dX7_append_26 rfl (lv_at hl 0 rfl) ?_
  obtain ⟨x7, ex7⟩ : ∃ v : Int32, ((vi0 : Int32).toUInt32 >>> ((8 : Int32).toUInt32 &&& Int32.toUInt32 31)).toInt32 = v := ⟨_, rfl⟩
  refine lv_iushr hx hb dX7_append_27 ex7 ?_
  obtain ⟨x8, ex8⟩ : ∃ v : Int32, (x7 : Int32).toInt8.toInt32 = v := ⟨_, rfl⟩
  refine lv_i2b hx hb dX7_append_28 ex8 ?_
  refine va_bast hx hb hK hP hD hS 1 0 rfl rfl (vq_in 14 900 (by decide)) dX7_append_29 (fun H locs hP hD hS => ?_)
  have hP : va_P (dC, dI) vwCl [(ad0, .inr (7, [.int 14, .int 0, .int (-1), .ref ad1, .ref ad2, .int 0, .int 0, .int 0, .int 0, .ref ad3, .ref ad4, .int 0, .int 0, .int 0])), (ad2, .inl (ck0, 900, .inl (upd f6 (Int32.toNatClampNeg 14) (vp_nar .byte x8))))] H := hP
  have hD : va_D A [(ad0, .inr (7, [.int 14, .int 0, .int (-1), .ref ad1, .ref ad2, .int 0, .int 0, .int 0, .int 0, .ref ad3, .ref ad4, .int 0, .int 0, .int 0])), (ad2, .inl (ck0, 900, .inl (upd f6 (Int32.toNatClampNeg 14) (vp_nar .byte x8))))] := hD
  generalize upd f6 (Int32.toNatClampNeg 14) (vp_nar .byte x8) = f9 at hP hD
  refine lv_aload_n hx hb dX7_append_30 rfl (lv_at hl 1 rfl) ?_
  refine lv_dup hx hb dX7_append_31 rfl ?_
  refine va_get (D := (dC, dI)) (ci := 7) (v := .int 14) (C := RX7) (T := TX7) (N := 14) hx hb hts iw_X7_append_X7 hown hK hP 0 rfl rfl 0 (by decide) (hts _ kk_X7_append_0) (fun _ h9 => h9) rfl dX7_append_32 ?_
  refine lv_iconst (v := 1) hx hb dX7_append_35 (by decide) ?_
  refine lv_iadd hx hb dX7_append_36 ?_
  refine px_i (v := 15) (by decide) ?_
  refine va_put (D := (dC, dI)) (ci := 7) (v := .int 15) (ty := .int) (C := RX7) (T := TX7) (N := 14) hx hb hts iw_X7_append_X7 tyX7 tyX7_ok nmX7 hown hK hP hD hS 0 rfl rfl 0 (by decide) (hts _ kk_X7_append_0) (fun _ h9 => h9) rfl (by decide +kernel) rfl rfl (Nat.le_of_ble_eq_true rfl) dX7_append_37 (fun H locs hP hD hS => ?_)
  have hP : va_P (dC, dI) vwCl [(ad0, .inr (7, [.int 15, .int 0, .int (-1), .ref ad1, .ref ad2, .int 0, .int 0, .int 0, .int 0, .ref ad3, .ref ad4, .int 0, .int 0, .int 0])), (ad2, .inl (ck0, 900, .inl f9))] H := hP
  have hD : va_D A [(ad0, .inr (7, [.int 15, .int 0, .int (-1), .ref ad1, .ref ad2, .int 0, .int 0, .int 0, .int 0, .ref ad3, .ref ad4, .int 0, .int 0, .int 0])), (ad2, .inl (ck0, 900, .inl f9))] := hD
  refine lv_iinc (v := 0) (lv' := [(2, .int 0), (0, .ref ad0), (1, .int vi0)]) hx hb dX7_append_40 hl (k := 0) rfl (by decide) (by decide) rfl (fun ls hl => ?_)
  refine lv_goto (tgt := 3) hx hb dX7_append_43 (by decide) ?_
  refine lv_iload_n hx hb dX7_append_3 rfl (lv_at hl 0 rfl) ?_
  refine lv_if_lt (tgt := 46) hx hb dX7_append_4 (by decide) (fun cz => absurd cz (by decide)) (fun _ => ?_)
  refine lv_aload_n hx hb dX7_append_7 rfl (lv_at hl 1 rfl) ?_
  refine va_get (D := (dC, dI)) (ci := 7) (v := .int 15) (C := RX7) (T := TX7) (N := 14) hx hb hts iw_X7_append_X7 hown hK hP 0 rfl rfl 0 (by decide) (hts _ kk_X7_append_0) (fun _ h9 => h9) rfl dX7_append_8 ?_
  refine lv_sipush (v := 900) hx hb dX7_append_11 (by decide) ?_
  refine lv_icmp_ge (tgt := 46) hx hb dX7_append_14 (by decide) (fun cz => absurd cz (by decide)) (fun _ => ?_)
  refine lv_aload_n hx hb dX7_append_17 rfl (lv_at hl 1 rfl) ?_
  refine va_get (D := (dC, dI)) (ci := 7) (v := .ref ad2) (C := RX7) (T := TX7) (N := 14) hx hb hts iw_X7_append_X7 hown hK hP 0 rfl rfl 4 (by decide) (hts _ kk_X7_append_1) (fun _ h9 => h9) rfl dX7_append_18 ?_
  refine lv_aload_n hx hb dX7_append_21 rfl (lv_at hl 1 rfl) ?_
  refine va_get (D := (dC, dI)) (ci := 7) (v := .int 15) (C := RX7) (T := TX7) (N := 14) hx hb hts iw_X7_append_X7 hown hK hP 0 rfl rfl 0 (by decide) (hts _ kk_X7_append_0) (fun _ h9 => h9) rfl dX7_append_22 ?_
  refine lv_iload_n hx hb dX7_append_25 rfl (lv_at hl 2 rfl) ?_
  refine lv_iload_n hx hb dX7_append_26 rfl (lv_at hl 0 rfl) ?_
  obtain ⟨x10, ex10⟩ : ∃ v : Int32, ((vi0 : Int32).toUInt32 >>> ((0 : Int32).toUInt32 &&& Int32.toUInt32 31)).toInt32 = v := ⟨_, rfl⟩
  refine lv_iushr hx hb dX7_append_27 ex10 ?_
  obtain ⟨x11, ex11⟩ : ∃ v : Int32, (x10 : Int32).toInt8.toInt32 = v := ⟨_, rfl⟩
  refine lv_i2b hx hb dX7_append_28 ex11 ?_
  refine va_bast hx hb hK hP hD hS 1 0 rfl rfl (vq_in 15 900 (by decide)) dX7_append_29 (fun H locs hP hD hS => ?_)
  have hP : va_P (dC, dI) vwCl [(ad0, .inr (7, [.int 15, .int 0, .int (-1), .ref ad1, .ref ad2, .int 0, .int 0, .int 0, .int 0, .ref ad3, .ref ad4, .int 0, .int 0, .int 0])), (ad2, .inl (ck0, 900, .inl (upd f9 (Int32.toNatClampNeg 15) (vp_nar .byte x11))))] H := hP
  have hD : va_D A [(ad0, .inr (7, [.int 15, .int 0, .int (-1), .ref ad1, .ref ad2, .int 0, .int 0, .int 0, .int 0, .ref ad3, .ref ad4, .int 0, .int 0, .int 0])), (ad2, .inl (ck0, 900, .inl (upd f9 (Int32.toNatClampNeg 15) (vp_nar .byte x11))))] := hD
  generalize upd f9 (Int32.toNatClampNeg 15) (vp_nar .byte x11) = f12 at hP hD
  refine lv_aload_n hx hb dX7_append_30 rfl (lv_at hl 1 rfl) ?_
  refine lv_dup hx hb dX7_append_31 rfl ?_
  refine va_get (D := (dC, dI)) (ci := 7) (v := .int 15) (C := RX7) (T := TX7) (N := 14) hx hb hts iw_X7_append_X7 hown hK hP 0 rfl rfl 0 (by decide) (hts _ kk_X7_append_0) (fun _ h9 => h9) rfl dX7_append_32 ?_
  refine lv_iconst (v := 1) hx hb dX7_append_35 (by decide) ?_
  refine lv_iadd hx hb dX7_append_36 ?_
  refine px_i (v := 16) (by decide) ?_
  refine va_put (D := (dC, dI)) (ci := 7) (v := .int 16) (ty := .int) (C := RX7) (T := TX7) (N := 14) hx hb hts iw_X7_append_X7 tyX7 tyX7_ok nmX7 hown hK hP hD hS 0 rfl rfl 0 (by decide) (hts _ kk_X7_append_0) (fun _ h9 => h9) rfl (by decide +kernel) rfl rfl (Nat.le_of_ble_eq_true rfl) dX7_append_37 (fun H locs hP hD hS => ?_)
  have hP : va_P (dC, dI) vwCl [(ad0, .inr (7, [.int 16, .int 0, .int (-1), .ref ad1, .ref ad2, .int 0, .int 0, .int 0, .int 0, .ref ad3, .ref ad4, .int 0, .int 0, .int 0])), (ad2, .inl (ck0, 900, .inl f12))] H := hP
  have hD : va_D A [(ad0, .inr (7, [.int 16, .int 0, .int (-1), .ref ad1, .ref ad2, .int 0, .int 0, .int 0, .int 0, .ref ad3, .ref ad4, .int 0, .int 0, .int 0])), (ad2, .inl (ck0, 900, .inl f12))] := hD
  refine lv_iinc (v := (-8)) (lv' := [(2, .int (-8)), (0, .ref ad0), (1, .int vi0)]) hx hb dX7_append_40 hl (k := 0) rfl (by decide) (by decide) rfl (fun ls hl => ?_)
  refine lv_goto (tgt := 3) hx hb dX7_append_43 (by decide) ?_
  refine lv_iload_n hx hb dX7_append_3 rfl (lv_at hl 0 rfl) ?_
  refine lv_if_lt (tgt := 46) hx hb dX7_append_4 (by decide) (fun _ => ?_) (fun cz => absurd cz (by decide))
  refine W.widen (k := 0) (n := 0) (by decide) (by decide) ?_
  have hP9 := hP.sub (ws' := [(ad0, .inr (7, [.int 16, .int 0, .int (-1), .ref ad1, .ref ad2, .int 0, .int 0, .int 0, .int 0, .ref ad3, .ref ad4, .int 0, .int 0, .int 0])), (ad2, .inl (ck0, 900, .inl f12))]) [0, 1] rfl
  have hD9 := hD.sub (ws' := [(ad0, .inr (7, [.int 16, .int 0, .int (-1), .ref ad1, .ref ad2, .int 0, .int 0, .int 0, .int 0, .ref ad3, .ref ad4, .int 0, .int 0, .int 0])), (ad2, .inl (ck0, 900, .inl f12))]) [0, 1] (by decide) rfl
  have hK9 := hK.sub (tys' := [(ck0, .byte)]) [0] rfl
  exact W.vret hx hb hr (fun t ht hW => ⟨⟨(), rfl, trivial, f12, by rw [ht]; exact hP9, va_K.moved hW.alike hK9, hD9⟩, hS.F ht⟩) hS.2.2 dX7_append_46

set_option maxHeartbeats 4000000 in
set_option maxRecDepth 100000 in
theorem ct_X7_append_v5 (l : Launch) (dC : Nat → ClassId) (dI : Nat → Nat → Nat) (ad0 : Nat) (vi0 : Int32) (ad1 : Nat) (ad2 : Nat) (ad3 : Nat) (ad4 : Nat) (ck0 : ClassId) (fn0 : Nat → Int32) (sz : Nat) : Met l yX7_append wsX7_append ({ frames := 0, cells := 0, slots := 0, locals := 0 }) (va_Pc [.ref ad0, .int vi0] (fun U => U.heap.size = sz ∧ va_P (dC, dI) vwCl [(ad0, .inr (7, [.int 16, .int 0, .int (-1), .ref ad1, .ref ad2, .int 0, .int 0, .int 0, .int 0, .ref ad3, .ref ad4, .int 0, .int 0, .int 0])), (ad2, .inl (ck0, 900, .inl fn0))] U.heap ∧ va_K (dC, dI) vwCl [(ck0, .byte)] U ∧ va_D (fun _ => True) [(ad0, .inr (7, [.int 16, .int 0, .int (-1), .ref ad1, .ref ad2, .int 0, .int 0, .int 0, .int 0, .ref ad3, .ref ad4, .int 0, .int 0, .int 0])), (ad2, .inl (ck0, 900, .inl fn0))])) (va_Qv (fun _ : Unit => True) (fun _ t => ∃ (f12 : Nat → Int32), va_P (dC, dI) vwCl [(ad0, .inr (7, [.int 20, .int 0, .int (-1), .ref ad1, .ref ad2, .int 0, .int 0, .int 0, .int 0, .ref ad3, .ref ad4, .int 0, .int 0, .int 0])), (ad2, .inl (ck0, 900, .inl f12))] t.heap ∧ va_K (dC, dI) vwCl [(ck0, .byte)] t ∧ va_D (va_A [(ad0, .inr (7, [.int 16, .int 0, .int (-1), .ref ad1, .ref ad2, .int 0, .int 0, .int 0, .int 0, .ref ad3, .ref ad4, .int 0, .int 0, .int 0])), (ad2, .inl (ck0, 900, .inl fn0))] sz) [(ad0, .inr (7, [.int 20, .int 0, .int (-1), .ref ad1, .ref ad2, .int 0, .int 0, .int 0, .int 0, .ref ad3, .ref ad4, .int 0, .int 0, .int 0])), (ad2, .inl (ck0, 900, .inl f12))]) (va_A [(ad0, .inr (7, [.int 16, .int 0, .int (-1), .ref ad1, .ref ad2, .int 0, .int 0, .int 0, .int 0, .ref ad3, .ref ad4, .int 0, .int 0, .int 0])), (ad2, .inl (ck0, 900, .inl fn0))] sz)) 0 0 (va_A [(ad0, .inr (7, [.int 16, .int 0, .int (-1), .ref ad1, .ref ad2, .int 0, .int 0, .int 0, .int 0, .ref ad3, .ref ad4, .int 0, .int 0, .int 0])), (ad2, .inl (ck0, 900, .inl fn0))] sz) := by
  refine Met.ofW (cc := cX7_append) (maxL := 3) (ret := none) (by decide) rfl ?_
  intro p e s m args below meth c s₁ B hml hv
  obtain ⟨rfl, hsz, hP, hK, hD0⟩ := hv
  have hx := B.exec
  have hb := B.bytes
  have hr := B.returns
  have hts := atoms_spec (ws := wsX7_append) B.pre
  have hown : s.vm.findClass RX7 = some m.cls := findClass_of_methodNamed B.named
  have hlocks := B.notSynchronized
  subst hsz
  have hD := hD0.self (sz := s.heap.size)
  generalize hAe : va_A [(ad0, .inr (7, [.int 16, .int 0, .int (-1), .ref ad1, .ref ad2, .int 0, .int 0, .int 0, .int 0, .ref ad3, .ref ad4, .int 0, .int 0, .int 0])), (ad2, .inl (ck0, 900, .inl fn0))] s.heap.size = A at hD ⊢
  have hA : ∀ q : Nat, s.heap.size ≤ q → A q := fun q h => by rw [← hAe]; exact Or.inr h
  have hS : va_S A s.heap s.heap [] := va_S.rf
  have hP : va_P (dC, dI) vwCl [(ad0, .inr (7, [.int 16, .int 0, .int (-1), .ref ad1, .ref ad2, .int 0, .int 0, .int 0, .int 0, .ref ad3, .ref ad4, .int 0, .int 0, .int 0])), (ad2, .inl (ck0, 900, .inl fn0))] s.heap := hP
  have hl := lv_entry ([.ref ad0, .int vi0]) (n := 3) (Nat.le_of_ble_eq_true rfl)
  rw [lg_entry_eq]
  generalize (lg_sl ([.ref ad0, .int vi0]) ++ List.replicate (3 - (lg_sl ([.ref ad0, .int vi0])).length) Slot.unset).toArray = ls at hl ⊢
  have hl : lv_has ls 3 [(0, .ref ad0), (1, .int vi0)] := hl
  refine lv_bipush (v := 24) hx hb dX7_append_0 (by decide) ?_
  refine lv_istore_n (lv' := [(2, .int 24), (0, .ref ad0), (1, .int vi0)]) hx hb dX7_append_2 rfl hl (by decide) rfl (fun ls hl => ?_)
  refine lv_iload_n hx hb dX7_append_3 rfl (lv_at hl 0 rfl) ?_
  refine lv_if_lt (tgt := 46) hx hb dX7_append_4 (by decide) (fun cz => absurd cz (by decide)) (fun _ => ?_)
  refine lv_aload_n hx hb dX7_append_7 rfl (lv_at hl 1 rfl) ?_
  refine va_get (D := (dC, dI)) (ci := 7) (v := .int 16) (C := RX7) (T := TX7) (N := 14) hx hb hts iw_X7_append_X7 hown hK hP 0 rfl rfl 0 (by decide) (hts _ kk_X7_append_0) (fun _ h9 => h9) rfl dX7_append_8 ?_
  refine lv_sipush (v := 900) hx hb dX7_append_11 (by decide) ?_
  refine lv_icmp_ge (tgt := 46) hx hb dX7_append_14 (by decide) (fun cz => absurd cz (by decide)) (fun _ => ?_)
  refine lv_aload_n hx hb dX7_append_17 rfl (lv_at hl 1 rfl) ?_
  refine va_get (D := (dC, dI)) (ci := 7) (v := .ref ad2) (C := RX7) (T := TX7) (N := 14) hx hb hts iw_X7_append_X7 hown hK hP 0 rfl rfl 4 (by decide) (hts _ kk_X7_append_1) (fun _ h9 => h9) rfl dX7_append_18 ?_
  refine lv_aload_n hx hb dX7_append_21 rfl (lv_at hl 1 rfl) ?_
  refine va_get (D := (dC, dI)) (ci := 7) (v := .int 16) (C := RX7) (T := TX7) (N := 14) hx hb hts iw_X7_append_X7 hown hK hP 0 rfl rfl 0 (by decide) (hts _ kk_X7_append_0) (fun _ h9 => h9) rfl dX7_append_22 ?_
  refine lv_iload_n hx hb dX7_append_25 rfl (lv_at hl 2 rfl) ?_
  refine lv_iload_n hx hb dX7_append_26 rfl (lv_at hl 0 rfl) ?_
  obtain ⟨x1, ex1⟩ : ∃ v : Int32, ((vi0 : Int32).toUInt32 >>> ((24 : Int32).toUInt32 &&& Int32.toUInt32 31)).toInt32 = v := ⟨_, rfl⟩
  refine lv_iushr hx hb dX7_append_27 ex1 ?_
  obtain ⟨x2, ex2⟩ : ∃ v : Int32, (x1 : Int32).toInt8.toInt32 = v := ⟨_, rfl⟩
  refine lv_i2b hx hb dX7_append_28 ex2 ?_
  refine va_bast hx hb hK hP hD hS 1 0 rfl rfl (vq_in 16 900 (by decide)) dX7_append_29 (fun H locs hP hD hS => ?_)
  have hP : va_P (dC, dI) vwCl [(ad0, .inr (7, [.int 16, .int 0, .int (-1), .ref ad1, .ref ad2, .int 0, .int 0, .int 0, .int 0, .ref ad3, .ref ad4, .int 0, .int 0, .int 0])), (ad2, .inl (ck0, 900, .inl (upd fn0 (Int32.toNatClampNeg 16) (vp_nar .byte x2))))] H := hP
  have hD : va_D A [(ad0, .inr (7, [.int 16, .int 0, .int (-1), .ref ad1, .ref ad2, .int 0, .int 0, .int 0, .int 0, .ref ad3, .ref ad4, .int 0, .int 0, .int 0])), (ad2, .inl (ck0, 900, .inl (upd fn0 (Int32.toNatClampNeg 16) (vp_nar .byte x2))))] := hD
  generalize upd fn0 (Int32.toNatClampNeg 16) (vp_nar .byte x2) = f3 at hP hD
  refine lv_aload_n hx hb dX7_append_30 rfl (lv_at hl 1 rfl) ?_
  refine lv_dup hx hb dX7_append_31 rfl ?_
  refine va_get (D := (dC, dI)) (ci := 7) (v := .int 16) (C := RX7) (T := TX7) (N := 14) hx hb hts iw_X7_append_X7 hown hK hP 0 rfl rfl 0 (by decide) (hts _ kk_X7_append_0) (fun _ h9 => h9) rfl dX7_append_32 ?_
  refine lv_iconst (v := 1) hx hb dX7_append_35 (by decide) ?_
  refine lv_iadd hx hb dX7_append_36 ?_
  refine px_i (v := 17) (by decide) ?_
  refine va_put (D := (dC, dI)) (ci := 7) (v := .int 17) (ty := .int) (C := RX7) (T := TX7) (N := 14) hx hb hts iw_X7_append_X7 tyX7 tyX7_ok nmX7 hown hK hP hD hS 0 rfl rfl 0 (by decide) (hts _ kk_X7_append_0) (fun _ h9 => h9) rfl (by decide +kernel) rfl rfl (Nat.le_of_ble_eq_true rfl) dX7_append_37 (fun H locs hP hD hS => ?_)
  have hP : va_P (dC, dI) vwCl [(ad0, .inr (7, [.int 17, .int 0, .int (-1), .ref ad1, .ref ad2, .int 0, .int 0, .int 0, .int 0, .ref ad3, .ref ad4, .int 0, .int 0, .int 0])), (ad2, .inl (ck0, 900, .inl f3))] H := hP
  have hD : va_D A [(ad0, .inr (7, [.int 17, .int 0, .int (-1), .ref ad1, .ref ad2, .int 0, .int 0, .int 0, .int 0, .ref ad3, .ref ad4, .int 0, .int 0, .int 0])), (ad2, .inl (ck0, 900, .inl f3))] := hD
  refine lv_iinc (v := 16) (lv' := [(2, .int 16), (0, .ref ad0), (1, .int vi0)]) hx hb dX7_append_40 hl (k := 0) rfl (by decide) (by decide) rfl (fun ls hl => ?_)
  refine lv_goto (tgt := 3) hx hb dX7_append_43 (by decide) ?_
  refine lv_iload_n hx hb dX7_append_3 rfl (lv_at hl 0 rfl) ?_
  refine lv_if_lt (tgt := 46) hx hb dX7_append_4 (by decide) (fun cz => absurd cz (by decide)) (fun _ => ?_)
  refine lv_aload_n hx hb dX7_append_7 rfl (lv_at hl 1 rfl) ?_
  refine va_get (D := (dC, dI)) (ci := 7) (v := .int 17) (C := RX7) (T := TX7) (N := 14) hx hb hts iw_X7_append_X7 hown hK hP 0 rfl rfl 0 (by decide) (hts _ kk_X7_append_0) (fun _ h9 => h9) rfl dX7_append_8 ?_
  refine lv_sipush (v := 900) hx hb dX7_append_11 (by decide) ?_
  refine lv_icmp_ge (tgt := 46) hx hb dX7_append_14 (by decide) (fun cz => absurd cz (by decide)) (fun _ => ?_)
  refine lv_aload_n hx hb dX7_append_17 rfl (lv_at hl 1 rfl) ?_
  refine va_get (D := (dC, dI)) (ci := 7) (v := .ref ad2) (C := RX7) (T := TX7) (N := 14) hx hb hts iw_X7_append_X7 hown hK hP 0 rfl rfl 4 (by decide) (hts _ kk_X7_append_1) (fun _ h9 => h9) rfl dX7_append_18 ?_
  refine lv_aload_n hx hb dX7_append_21 rfl (lv_at hl 1 rfl) ?_
  refine va_get (D := (dC, dI)) (ci := 7) (v := .int 17) (C := RX7) (T := TX7) (N := 14) hx hb hts iw_X7_append_X7 hown hK hP 0 rfl rfl 0 (by decide) (hts _ kk_X7_append_0) (fun _ h9 => h9) rfl dX7_append_22 ?_
  refine lv_iload_n hx hb dX7_append_25 rfl (lv_at hl 2 rfl) ?_
  refine lv_iload_n hx hb dX7_append_26 rfl (lv_at hl 0 rfl) ?_
  obtain ⟨x4, ex4⟩ : ∃ v : Int32, ((vi0 : Int32).toUInt32 >>> ((16 : Int32).toUInt32 &&& Int32.toUInt32 31)).toInt32 = v := ⟨_, rfl⟩
  refine lv_iushr hx hb dX7_append_27 ex4 ?_
  obtain ⟨x5, ex5⟩ : ∃ v : Int32, (x4 : Int32).toInt8.toInt32 = v := ⟨_, rfl⟩
  refine lv_i2b hx hb dX7_append_28 ex5 ?_
  refine va_bast hx hb hK hP hD hS 1 0 rfl rfl (vq_in 17 900 (by decide)) dX7_append_29 (fun H locs hP hD hS => ?_)
  have hP : va_P (dC, dI) vwCl [(ad0, .inr (7, [.int 17, .int 0, .int (-1), .ref ad1, .ref ad2, .int 0, .int 0, .int 0, .int 0, .ref ad3, .ref ad4, .int 0, .int 0, .int 0])), (ad2, .inl (ck0, 900, .inl (upd f3 (Int32.toNatClampNeg 17) (vp_nar .byte x5))))] H := hP
  have hD : va_D A [(ad0, .inr (7, [.int 17, .int 0, .int (-1), .ref ad1, .ref ad2, .int 0, .int 0, .int 0, .int 0, .ref ad3, .ref ad4, .int 0, .int 0, .int 0])), (ad2, .inl (ck0, 900, .inl (upd f3 (Int32.toNatClampNeg 17) (vp_nar .byte x5))))] := hD
  generalize upd f3 (Int32.toNatClampNeg 17) (vp_nar .byte x5) = f6 at hP hD
  refine lv_aload_n hx hb dX7_append_30 rfl (lv_at hl 1 rfl) ?_
  refine lv_dup hx hb dX7_append_31 rfl ?_
  refine va_get (D := (dC, dI)) (ci := 7) (v := .int 17) (C := RX7) (T := TX7) (N := 14) hx hb hts iw_X7_append_X7 hown hK hP 0 rfl rfl 0 (by decide) (hts _ kk_X7_append_0) (fun _ h9 => h9) rfl dX7_append_32 ?_
  refine lv_iconst (v := 1) hx hb dX7_append_35 (by decide) ?_
  refine lv_iadd hx hb dX7_append_36 ?_
  refine px_i (v := 18) (by decide) ?_
  refine va_put (D := (dC, dI)) (ci := 7) (v := .int 18) (ty := .int) (C := RX7) (T := TX7) (N := 14) hx hb hts iw_X7_append_X7 tyX7 tyX7_ok nmX7 hown hK hP hD hS 0 rfl rfl 0 (by decide) (hts _ kk_X7_append_0) (fun _ h9 => h9) rfl (by decide +kernel) rfl rfl (Nat.le_of_ble_eq_true rfl) dX7_append_37 (fun H locs hP hD hS => ?_)
  have hP : va_P (dC, dI) vwCl [(ad0, .inr (7, [.int 18, .int 0, .int (-1), .ref ad1, .ref ad2, .int 0, .int 0, .int 0, .int 0, .ref ad3, .ref ad4, .int 0, .int 0, .int 0])), (ad2, .inl (ck0, 900, .inl f6))] H := hP
  have hD : va_D A [(ad0, .inr (7, [.int 18, .int 0, .int (-1), .ref ad1, .ref ad2, .int 0, .int 0, .int 0, .int 0, .ref ad3, .ref ad4, .int 0, .int 0, .int 0])), (ad2, .inl (ck0, 900, .inl f6))] := hD
  refine lv_iinc (v := 8) (lv' := [(2, .int 8), (0, .ref ad0), (1, .int vi0)]) hx hb dX7_append_40 hl (k := 0) rfl (by decide) (by decide) rfl (fun ls hl => ?_)
  refine lv_goto (tgt := 3) hx hb dX7_append_43 (by decide) ?_
  refine lv_iload_n hx hb dX7_append_3 rfl (lv_at hl 0 rfl) ?_
  refine lv_if_lt (tgt := 46) hx hb dX7_append_4 (by decide) (fun cz => absurd cz (by decide)) (fun _ => ?_)
  refine lv_aload_n hx hb dX7_append_7 rfl (lv_at hl 1 rfl) ?_
  refine va_get (D := (dC, dI)) (ci := 7) (v := .int 18) (C := RX7) (T := TX7) (N := 14) hx hb hts iw_X7_append_X7 hown hK hP 0 rfl rfl 0 (by decide) (hts _ kk_X7_append_0) (fun _ h9 => h9) rfl dX7_append_8 ?_
  refine lv_sipush (v := 900) hx hb dX7_append_11 (by decide) ?_
  refine lv_icmp_ge (tgt := 46) hx hb dX7_append_14 (by decide) (fun cz => absurd cz (by decide)) (fun _ => ?_)
  refine lv_aload_n hx hb dX7_append_17 rfl (lv_at hl 1 rfl) ?_
  refine va_get (D := (dC, dI)) (ci := 7) (v := .ref ad2) (C := RX7) (T := TX7) (N := 14) hx hb hts iw_X7_append_X7 hown hK hP 0 rfl rfl 4 (by decide) (hts _ kk_X7_append_1) (fun _ h9 => h9) rfl dX7_append_18 ?_
  refine lv_aload_n hx hb dX7_append_21 rfl (lv_at hl 1 rfl) ?_
  refine va_get (D := (dC, dI)) (ci := 7) (v := .int 18) (C := RX7) (T := TX7) (N := 14) hx hb hts iw_X7_append_X7 hown hK hP 0 rfl rfl 0 (by decide) (hts _ kk_X7_append_0) (fun _ h9 => h9) rfl dX7_append_22 ?_
  refine lv_iload_n hx hb dX7_append_25 rfl (lv_at hl 2 rfl) ?_
  refine lv_iload_n hx hb dX7_append_26 rfl (lv_at hl 0 rfl) ?_
  obtain ⟨x7, ex7⟩ : ∃ v : Int32, ((vi0 : Int32).toUInt32 >>> ((8 : Int32).toUInt32 &&& Int32.toUInt32 31)).toInt32 = v := ⟨_, rfl⟩
  refine lv_iushr hx hb dX7_append_27 ex7 ?_
  obtain ⟨x8, ex8⟩ : ∃ v : Int32, (x7 : Int32).toInt8.toInt32 = v := ⟨_, rfl⟩
  refine lv_i2b hx hb dX7_append_28 ex8 ?_
  refine va_bast hx hb hK hP hD hS 1 0 rfl rfl (vq_in 18 900 (by decide)) dX7_append_29 (fun H locs hP hD hS => ?_)
  have hP : va_P (dC, dI) vwCl [(ad0, .inr (7, [.int 18, .int 0, .int (-1), .ref ad1, .ref ad2, .int 0, .int 0, .int 0, .int 0, .ref ad3, .ref ad4, .int 0, .int 0, .int 0])), (ad2, .inl (ck0, 900, .inl (upd f6 (Int32.toNatClampNeg 18) (vp_nar .byte x8))))] H := hP
  have hD : va_D A [(ad0, .inr (7, [.int 18, .int 0, .int (-1), .ref ad1, .ref ad2, .int 0, .int 0, .int 0, .int 0, .ref ad3, .ref ad4, .int 0, .int 0, .int 0])), (ad2, .inl (ck0, 900, .inl (upd f6 (Int32.toNatClampNeg 18) (vp_nar .byte x8))))] := hD
  generalize upd f6 (Int32.toNatClampNeg 18) (vp_nar .byte x8) = f9 at hP hD
  refine lv_aload_n hx hb dX7_append_30 rfl (lv_at hl 1 rfl) ?_
  refine lv_dup hx hb dX7_append_31 rfl ?_
  refine va_get (D := (dC, dI)) (ci := 7) (v := .int 18) (C := RX7) (T := TX7) (N := 14) hx hb hts iw_X7_append_X7 hown hK hP 0 rfl rfl 0 (by decide) (hts _ kk_X7_append_0) (fun _ h9 => h9) rfl dX7_append_32 ?_
  refine lv_iconst (v := 1) hx hb dX7_append_35 (by decide) ?_
  refine lv_iadd hx hb dX7_append_36 ?_
  refine px_i (v := 19) (by decide) ?_
  refine va_put (D := (dC, dI)) (ci := 7) (v := .int 19) (ty := .int) (C := RX7) (T := TX7) (N := 14) hx hb hts iw_X7_append_X7 tyX7 tyX7_ok nmX7 hown hK hP hD hS 0 rfl rfl 0 (by decide) (hts _ kk_X7_append_0) (fun _ h9 => h9) rfl (by decide +kernel) rfl rfl (Nat.le_of_ble_eq_true rfl) dX7_append_37 (fun H locs hP hD hS => ?_)
  have hP : va_P (dC, dI) vwCl [(ad0, .inr (7, [.int 19, .int 0, .int (-1), .ref ad1, .ref ad2, .int 0, .int 0, .int 0, .int 0, .ref ad3, .ref ad4, .int 0, .int 0, .int 0])), (ad2, .inl (ck0, 900, .inl f9))] H := hP
  have hD : va_D A [(ad0, .inr (7, [.int 19, .int 0, .int (-1), .ref ad1, .ref ad2, .int 0, .int 0, .int 0, .int 0, .ref ad3, .ref ad4, .int 0, .int 0, .int 0])), (ad2, .inl (ck0, 900, .inl f9))] := hD
  refine lv_iinc (v := 0) (lv' := [(2, .int 0), (0, .ref ad0), (1, .int vi0)]) hx hb dX7_append_40 hl (k := 0) rfl (by decide) (by decide) rfl (fun ls hl => ?_)
  refine lv_goto (tgt := 3) hx hb dX7_append_43 (by decide) ?_
  refine lv_iload_n hx hb dX7_append_3 rfl (lv_at hl 0 rfl) ?_
  refine lv_if_lt (tgt := 46) hx hb dX7_append_4 (by decide) (fun cz => absurd cz (by decide)) (fun _ => ?_)
  refine lv_aload_n hx hb dX7_append_7 rfl (lv_at hl 1 rfl) ?_
  refine va_get (D := (dC, dI)) (ci := 7) (v := .int 19) (C := RX7) (T := TX7) (N := 14) hx hb hts iw_X7_append_X7 hown hK hP 0 rfl rfl 0 (by decide) (hts _ kk_X7_append_0) (fun _ h9 => h9) rfl dX7_append_8 ?_
  refine lv_sipush (v := 900) hx hb dX7_append_11 (by decide) ?_
  refine lv_icmp_ge (tgt := 46) hx hb dX7_append_14 (by decide) (fun cz => absurd cz (by decide)) (fun _ => ?_)
  refine lv_aload_n hx hb dX7_append_17 rfl (lv_at hl 1 rfl) ?_
  refine va_get (D := (dC, dI)) (ci := 7) (v := .ref ad2) (C := RX7) (T := TX7) (N := 14) hx hb hts iw_X7_append_X7 hown hK hP 0 rfl rfl 4 (by decide) (hts _ kk_X7_append_1) (fun _ h9 => h9) rfl dX7_append_18 ?_
  refine lv_aload_n hx hb dX7_append_21 rfl (lv_at hl 1 rfl) ?_
  refine va_get (D := (dC, dI)) (ci := 7) (v := .int 19) (C := RX7) (T := TX7) (N := 14) hx hb hts iw_X7_append_X7 hown hK hP 0 rfl rfl 0 (by decide) (hts _ kk_X7_append_0) (fun _ h9 => h9) rfl dX7_append_22 ?_
  refine lv_iload_n hx hb dX7_append_25 rfl (lv_at hl 2 rfl) ?_
  refine lv_iload_n hx hb dX7_append_26 rfl (lv_at hl 0 rfl) ?_
  obtain ⟨x10, ex10⟩ : ∃ v : Int32, ((vi0 : Int32).toUInt32 >>> ((0 : Int32).toUInt32 &&& Int32.toUInt32 31)).toInt32 = v := ⟨_, rfl⟩
  refine lv_iushr hx hb dX7_append_27 ex10 ?_
  obtain ⟨x11, ex11⟩ : ∃ v : Int32, (x10 : Int32).toInt8.toInt32 = v := ⟨_, rfl⟩
  refine lv_i2b hx hb dX7_append_28 ex11 ?_
  refine va_bast hx hb hK hP hD hS 1 0 rfl rfl (vq_in 19 900 (by decide)) dX7_append_29 (fun H locs hP hD hS => ?_)
  have hP : va_P (dC, dI) vwCl [(ad0, .inr (7, [.int 19, .int 0, .int (-1), .ref ad1, .ref ad2, .int 0, .int 0, .int 0, .int 0, .ref ad3, .ref ad4, .int 0, .int 0, .int 0])), (ad2, .inl (ck0, 900, .inl (upd f9 (Int32.toNatClampNeg 19) (vp_nar .byte x11))))] H := hP
  have hD : va_D A [(ad0, .inr (7, [.int 19, .int 0, .int (-1), .ref ad1, .ref ad2, .int 0, .int 0, .int 0, .int 0, .ref ad3, .ref ad4, .int 0, .int 0, .int 0])), (ad2, .inl (ck0, 900, .inl (upd f9 (Int32.toNatClampNeg 19) (vp_nar .byte x11))))] := hD
  generalize upd f9 (Int32.toNatClampNeg 19) (vp_nar .byte x11) = f12 at hP hD
  refine lv_aload_n hx hb dX7_append_30 rfl (lv_at hl 1 rfl) ?_
  refine lv_dup hx hb dX7_append_31 rfl ?_
  refine va_get (D := (dC, dI)) (ci := 7) (v := .int 19) (C := RX7) (T := TX7) (N := 14) hx hb hts iw_X7_append_X7 hown hK hP 0 rfl rfl 0 (by decide) (hts _ kk_X7_append_0) (fun _ h9 => h9) rfl dX7_append_32 ?_
  refine lv_iconst (v := 1) hx hb dX7_append_35 (by decide) ?_
  refine lv_iadd hx hb dX7_append_36 ?_
  refine px_i (v := 20) (by decide) ?_
  refine va_put (D := (dC, dI)) (ci := 7) (v := .int 20) (ty := .int) (C := RX7) (T := TX7) (N := 14) hx hb hts iw_X7_append_X7 tyX7 tyX7_ok nmX7 hown hK hP hD hS 0 rfl rfl 0 (by decide) (hts _ kk_X7_append_0) (fun _ h9 => h9) rfl (by decide +kernel) rfl rfl (Nat.le_of_ble_eq_true rfl) dX7_append_37 (fun H locs hP hD hS => ?_)
  have hP : va_P (dC, dI) vwCl [(ad0, .inr (7, [.int 20, .int 0, .int (-1), .ref ad1, .ref ad2, .int 0, .int 0, .int 0, .int 0, .ref ad3, .ref ad4, .int 0, .int 0, .int 0])), (ad2, .inl (ck0, 900, .inl f12))] H := hP
  have hD : va_D A [(ad0, .inr (7, [.int 20, .int 0, .int (-1), .ref ad1, .ref ad2, .int 0, .int 0, .int 0, .int 0, .ref ad3, .ref ad4, .int 0, .int 0, .int 0])), (ad2, .inl (ck0, 900, .inl f12))] := hD
  refine lv_iinc (v := (-8)) (lv' := [(2, .int (-8)), (0, .ref ad0), (1, .int vi0)]) hx hb dX7_append_40 hl (k := 0) rfl (by decide) (by decide) rfl (fun ls hl => ?_)
  refine lv_goto (tgt := 3) hx hb dX7_append_43 (by decide) ?_
  refine lv_iload_n hx hb dX7_append_3 rfl (lv_at hl 0 rfl) ?_
  refine lv_if_lt (tgt := 46) hx hb dX7_append_4 (by decide) (fun _ => ?_) (fun cz => absurd cz (by decide))
  refine W.widen (k := 0) (n := 0) (by decide) (by decide) ?_
  have hP9 := hP.sub (ws' := [(ad0, .inr (7, [.int 20, .int 0, .int (-1), .ref ad1, .ref ad2, .int 0, .int 0, .int 0, .int 0, .ref ad3, .ref ad4, .int 0, .int 0, .int 0])), (ad2, .inl (ck0, 900, .inl f12))]) [0, 1] rfl
  have hD9 := hD.sub (ws' := [(ad0, .inr (7, [.int 20, .int 0, .int (-1), .ref ad1, .ref ad2, .int 0, .int 0, .int 0, .int 0, .ref ad3, .ref ad4, .int 0, .int 0, .int 0])), (ad2, .inl (ck0, 900, .inl f12))]) [0, 1] (by decide) rfl
  have hK9 := hK.sub (tys' := [(ck0, .byte)]) [0] rfl
  exact W.vret hx hb hr (fun t ht hW => ⟨⟨(), rfl, trivial, f12, by rw [ht]; exact hP9, va_K.moved hW.alike hK9, hD9⟩, hS.F ht⟩) hS.2.2 dX7_append_46

set_option maxHeartbeats 4000000 in
set_option maxRecDepth 100000 in
theorem ct_X9_feed (l : Launch) (dC : Nat → ClassId) (dI : Nat → Nat → Nat) (ad0 : Nat) (vi0 : Int32) (vi1 : Int32) (vi2 : Int32) (vi3 : Int32) (vi4 : Int32) (ad1 : Nat) (ad2 : Nat) (ad3 : Nat) (ad4 : Nat) (ad5 : Nat) (ad6 : Nat) (ad7 : Nat) (ad8 : Nat) (ad9 : Nat) (ad10 : Nat) (ad11 : Nat) (ad12 : Nat) (ad13 : Nat) (ad14 : Nat) (ad15 : Nat) (ad16 : Nat) (ad17 : Nat) (ck0 : ClassId) (fn0 : Nat → Int32) (sz : Nat) : Met l yX9_feed wsX9_feed ({ frames := 1, cells := 0, slots := 0, locals := 22 }) (va_Pc [.ref ad0, .int vi0, .int vi1, .int vi2, .int vi3, .int vi4] (fun U => U.heap.size = sz ∧ va_P (dC, dI) vwCl [(ad0, .inr (9, [.ref ad1, .ref ad2, .ref ad3, .ref ad4, .ref ad5, .ref ad6, .ref ad7, .ref ad8, .int 0, .ref ad9, .ref ad10, .ref ad11, .ref ad12, .ref ad13])), (ad1, .inr (7, [.int 0, .int 0, .int (-1), .ref ad14, .ref ad15, .int 0, .int 0, .int 0, .int 0, .ref ad16, .ref ad17, .int 0, .int 0, .int 0])), (ad15, .inl (ck0, 900, .inl fn0))] U.heap ∧ va_K (dC, dI) vwCl [(ck0, .byte)] U ∧ va_D (fun _ => True) [(ad0, .inr (9, [.ref ad1, .ref ad2, .ref ad3, .ref ad4, .ref ad5, .ref ad6, .ref ad7, .ref ad8, .int 0, .ref ad9, .ref ad10, .ref ad11, .ref ad12, .ref ad13])), (ad1, .inr (7, [.int 0, .int 0, .int (-1), .ref ad14, .ref ad15, .int 0, .int 0, .int 0, .int 0, .ref ad16, .ref ad17, .int 0, .int 0, .int 0])), (ad15, .inl (ck0, 900, .inl fn0))])) (va_Qi (fun (r : Int32) (_ : Unit) => r = 20) (fun _ _ => True) (va_A [(ad0, .inr (9, [.ref ad1, .ref ad2, .ref ad3, .ref ad4, .ref ad5, .ref ad6, .ref ad7, .ref ad8, .int 0, .ref ad9, .ref ad10, .ref ad11, .ref ad12, .ref ad13])), (ad1, .inr (7, [.int 0, .int 0, .int (-1), .ref ad14, .ref ad15, .int 0, .int 0, .int 0, .int 0, .ref ad16, .ref ad17, .int 0, .int 0, .int 0])), (ad15, .inl (ck0, 900, .inl fn0))] sz)) 0 0 (va_A [(ad0, .inr (9, [.ref ad1, .ref ad2, .ref ad3, .ref ad4, .ref ad5, .ref ad6, .ref ad7, .ref ad8, .int 0, .ref ad9, .ref ad10, .ref ad11, .ref ad12, .ref ad13])), (ad1, .inr (7, [.int 0, .int 0, .int (-1), .ref ad14, .ref ad15, .int 0, .int 0, .int 0, .int 0, .ref ad16, .ref ad17, .int 0, .int 0, .int 0])), (ad15, .inl (ck0, 900, .inl fn0))] sz) := by
  refine Met.ofW (cc := cX9_feed) (maxL := 6) (ret := (some .int)) (by decide) rfl ?_
  intro p e s m args below meth c s₁ B hml hv
  obtain ⟨rfl, hsz, hP, hK, hD0⟩ := hv
  have hx := B.exec
  have hb := B.bytes
  have hr := B.returns
  have hts := atoms_spec (ws := wsX9_feed) B.pre
  have hown : s.vm.findClass RX9 = some m.cls := findClass_of_methodNamed B.named
  have hlocks := B.notSynchronized
  subst hsz
  have hD := hD0.self (sz := s.heap.size)
  generalize hAe : va_A [(ad0, .inr (9, [.ref ad1, .ref ad2, .ref ad3, .ref ad4, .ref ad5, .ref ad6, .ref ad7, .ref ad8, .int 0, .ref ad9, .ref ad10, .ref ad11, .ref ad12, .ref ad13])), (ad1, .inr (7, [.int 0, .int 0, .int (-1), .ref ad14, .ref ad15, .int 0, .int 0, .int 0, .int 0, .ref ad16, .ref ad17, .int 0, .int 0, .int 0])), (ad15, .inl (ck0, 900, .inl fn0))] s.heap.size = A at hD ⊢
  have hA : ∀ q : Nat, s.heap.size ≤ q → A q := fun q h => by rw [← hAe]; exact Or.inr h
  have hS : va_S A s.heap s.heap [] := va_S.rf
  have hP : va_P (dC, dI) vwCl [(ad0, .inr (9, [.ref ad1, .ref ad2, .ref ad3, .ref ad4, .ref ad5, .ref ad6, .ref ad7, .ref ad8, .int 0, .ref ad9, .ref ad10, .ref ad11, .ref ad12, .ref ad13])), (ad1, .inr (7, [.int 0, .int 0, .int (-1), .ref ad14, .ref ad15, .int 0, .int 0, .int 0, .int 0, .ref ad16, .ref ad17, .int 0, .int 0, .int 0])), (ad15, .inl (ck0, 900, .inl fn0))] s.heap := hP
  have hl := lv_entry ([.ref ad0, .int vi0, .int vi1, .int vi2, .int vi3, .int vi4]) (n := 6) (Nat.le_of_ble_eq_true rfl)
  rw [lg_entry_eq]
  generalize (lg_sl ([.ref ad0, .int vi0, .int vi1, .int vi2, .int vi3, .int vi4]) ++ List.replicate (6 - (lg_sl ([.ref ad0, .int vi0, .int vi1, .int vi2, .int vi3, .int vi4])).length) Slot.unset).toArray = ls at hl ⊢
  have hl : lv_has ls 6 [(0, .ref ad0), (1, .int vi0), (2, .int vi1), (3, .int vi2), (4, .int vi3), (5, .int vi4)] := hl
  refine lv_aload_n hx hb dX9_feed_0 rfl (lv_at hl 0 rfl) ?_
  refine va_get (D := (dC, dI)) (ci := 9) (v := .ref ad1) (C := RX9) (T := TX9) (N := 14) hx hb hts iw_X9_feed_X9 hown hK hP 0 rfl rfl 0 (by decide) (hts _ kk_X9_feed_0) (fun _ h9 => h9) rfl dX9_feed_1 ?_
  refine va_get (D := (dC, dI)) (ci := 7) (v := .int 0) (C := RX7) (T := TX7) (N := 14) hx hb hts iw_X9_feed_X7 hown hK hP 1 rfl rfl 0 (by decide) (hts _ kk_X9_feed_1) (fun _ h9 => h9) rfl dX9_feed_4 ?_
  refine lv_bipush (v := 20) hx hb dX9_feed_7 (by decide) ?_
  refine lv_iadd hx hb dX9_feed_9 ?_
  refine px_i (v := 20) (by decide) ?_
  refine lv_sipush (v := 900) hx hb dX9_feed_10 (by decide) ?_
  refine lv_icmp_le (tgt := 19) hx hb dX9_feed_13 (by decide) (fun _ => ?_) (fun cz => absurd cz (by decide))
  refine lv_aload_n hx hb dX9_feed_19 rfl (lv_at hl 0 rfl) ?_
  refine va_get (D := (dC, dI)) (ci := 9) (v := .ref ad1) (C := RX9) (T := TX9) (N := 14) hx hb hts iw_X9_feed_X9 hown hK hP 0 rfl rfl 0 (by decide) (hts _ kk_X9_feed_0) (fun _ h9 => h9) rfl dX9_feed_20 ?_
  refine lv_iload_n hx hb dX9_feed_23 rfl (lv_at hl 1 rfl) ?_
  have hPc := hP.sub (ws' := [(ad1, .inr (7, [.int 0, .int 0, .int (-1), .ref ad14, .ref ad15, .int 0, .int 0, .int 0, .int 0, .ref ad16, .ref ad17, .int 0, .int 0, .int 0])), (ad15, .inl (ck0, 900, .inl fn0))]) [1, 2] rfl
  have hDc := hD.sub (ws' := [(ad1, .inr (7, [.int 0, .int 0, .int (-1), .ref ad14, .ref ad15, .int 0, .int 0, .int 0, .int 0, .ref ad16, .ref ad17, .int 0, .int 0, .int 0])), (ad15, .inl (ck0, 900, .inl fn0))]) [1, 2] (by decide) rfl
  have hKc := hK.sub (tys' := [(ck0, .byte)]) [0] rfl
  have hFc := va_free (wc := [(ad1, .inr (7, [.int 0, .int 0, .int (-1), .ref ad14, .ref ad15, .int 0, .int 0, .int 0, .int 0, .ref ad16, .ref ad17, .int 0, .int 0, .int 0])), (ad15, .inl (ck0, 900, .inl fn0))]) hD hS hA [1, 2] rfl
  refine va_callv (va_runV (As := [.int vi0]) (rest := []) ⟨hx, hb, hml, hown, hts⟩ (ct_X7_append l dC dI ad1 vi0 ad14 ad15 ad16 ad17 ck0 fn0 s.heap.size) (cwV 1 hts gX9_feed_X7_append rfl rfl rfl (by decide +kernel) ⟨Nat.le_of_ble_eq_true rfl, Nat.le_of_ble_eq_true rfl⟩) ⟨fun a U g mk q => by obtain ⟨q0, q1, qP, qK, qD⟩ := q; exact ⟨q0, q1, qP, va_K.moved (u := U) (U := U.calling g mk a) (Vm.Alike.refl U.vm) qK, qD⟩, va_recv hKc hPc (ci := 7) (q0 := 0) rfl rfl, fun U hU hW => ⟨rfl, by rw [hU], by rw [hU]; exact hPc, va_K.moved hW.alike hKc, hDc.weaken (fun _ _ _ _ => trivial)⟩⟩ rfl rfl hl.1 rfl (lv_room (Nat.le_of_ble_eq_true rfl)) dX9_feed_24 ⟨Nat.le_of_ble_eq_true rfl, Nat.le_of_ble_eq_true rfl⟩) hS (fun q _ h => hFc q h) hFc (fun u t H1 locs ht hvm hw hB hz1 hk1 hS => ?_)
  obtain ⟨f2, hP1, hK1, hD1⟩ := hB
  rw [ht] at hP1
  have hK1 := va_K.moved hvm.symm hK1
  obtain ⟨hP, hD⟩ := va_join (wr := [(ad0, .inr (9, [.ref ad1, .ref ad2, .ref ad3, .ref ad4, .ref ad5, .ref ad6, .ref ad7, .ref ad8, .int 0, .ref ad9, .ref ad10, .ref ad11, .ref ad12, .ref ad13]))]) (w1 := [(ad1, .inr (7, [.int 4, .int 0, .int (-1), .ref ad14, .ref ad15, .int 0, .int 0, .int 0, .int 0, .ref ad16, .ref ad17, .int 0, .int 0, .int 0])), (ad15, .inl (ck0, 900, .inl f2))]) hP hD [1, 2] [0] rfl rfl (by decide) (by decide) hk1 hFc hP1 hD1
  have hK := (hK.sub (tys' := []) [] rfl).app hK1
  clear hPc hDc hKc hFc hP1 hD1 hK1 hk1 hz1
  generalize H1 = H at hP hS ⊢
  have hP : va_P (dC, dI) vwCl [(ad0, .inr (9, [.ref ad1, .ref ad2, .ref ad3, .ref ad4, .ref ad5, .ref ad6, .ref ad7, .ref ad8, .int 0, .ref ad9, .ref ad10, .ref ad11, .ref ad12, .ref ad13])), (ad1, .inr (7, [.int 4, .int 0, .int (-1), .ref ad14, .ref ad15, .int 0, .int 0, .int 0, .int 0, .ref ad16, .ref ad17, .int 0, .int 0, .int 0])), (ad15, .inl (ck0, 900, .inl f2))] H := hP
  have hD : va_D A [(ad0, .inr (9, [.ref ad1, .ref ad2, .ref ad3, .ref ad4, .ref ad5, .ref ad6, .ref ad7, .ref ad8, .int 0, .ref ad9, .ref ad10, .ref ad11, .ref ad12, .ref ad13])), (ad1, .inr (7, [.int 4, .int 0, .int (-1), .ref ad14, .ref ad15, .int 0, .int 0, .int 0, .int 0, .ref ad16, .ref ad17, .int 0, .int 0, .int 0])), (ad15, .inl (ck0, 900, .inl f2))] := hD
  have hK : va_K (dC, dI) vwCl [(ck0, .byte)] s := hK
  refine W.widen (k := 0) (n := 0) (by decide) (by decide) ?_
  refine lv_aload_n hx hb dX9_feed_27 rfl (lv_at hl 0 rfl) ?_
  refine va_get (D := (dC, dI)) (ci := 9) (v := .ref ad1) (C := RX9) (T := TX9) (N := 14) hx hb hts iw_X9_feed_X9 hown hK hP 0 rfl rfl 0 (by decide) (hts _ kk_X9_feed_0) (fun _ h9 => h9) rfl dX9_feed_28 ?_
  refine lv_iload_n hx hb dX9_feed_31 rfl (lv_at hl 2 rfl) ?_
  have hPc := hP.sub (ws' := [(ad1, .inr (7, [.int 4, .int 0, .int (-1), .ref ad14, .ref ad15, .int 0, .int 0, .int 0, .int 0, .ref ad16, .ref ad17, .int 0, .int 0, .int 0])), (ad15, .inl (ck0, 900, .inl f2))]) [1, 2] rfl
  have hDc := hD.sub (ws' := [(ad1, .inr (7, [.int 4, .int 0, .int (-1), .ref ad14, .ref ad15, .int 0, .int 0, .int 0, .int 0, .ref ad16, .ref ad17, .int 0, .int 0, .int 0])), (ad15, .inl (ck0, 900, .inl f2))]) [1, 2] (by decide) rfl
  have hKc := hK.sub (tys' := [(ck0, .byte)]) [0] rfl
  have hFc := va_free (wc := [(ad1, .inr (7, [.int 4, .int 0, .int (-1), .ref ad14, .ref ad15, .int 0, .int 0, .int 0, .int 0, .ref ad16, .ref ad17, .int 0, .int 0, .int 0])), (ad15, .inl (ck0, 900, .inl f2))]) hD hS hA [1, 2] rfl
  refine va_callv (va_runV (As := [.int vi1]) (rest := []) ⟨hx, hb, hml, hown, hts⟩ (ct_X7_append_v2 l dC dI ad1 vi1 ad14 ad15 ad16 ad17 ck0 f2 H.size) (cwV 1 hts gX9_feed_X7_append rfl rfl rfl (by decide +kernel) ⟨Nat.le_of_ble_eq_true rfl, Nat.le_of_ble_eq_true rfl⟩) ⟨fun a U g mk q => by obtain ⟨q0, q1, qP, qK, qD⟩ := q; exact ⟨q0, q1, qP, va_K.moved (u := U) (U := U.calling g mk a) (Vm.Alike.refl U.vm) qK, qD⟩, va_recv hKc hPc (ci := 7) (q0 := 0) rfl rfl, fun U hU hW => ⟨rfl, by rw [hU], by rw [hU]; exact hPc, va_K.moved hW.alike hKc, hDc.weaken (fun _ _ _ _ => trivial)⟩⟩ rfl rfl hl.1 rfl (lv_room (Nat.le_of_ble_eq_true rfl)) dX9_feed_32 ⟨Nat.le_of_ble_eq_true rfl, Nat.le_of_ble_eq_true rfl⟩) hS (fun q _ h => hFc q h) hFc (fun u t H1 locs ht hvm hw hB hz1 hk1 hS => ?_)
  obtain ⟨f4, hP1, hK1, hD1⟩ := hB
  rw [ht] at hP1
  have hK1 := va_K.moved hvm.symm hK1
  obtain ⟨hP, hD⟩ := va_join (wr := [(ad0, .inr (9, [.ref ad1, .ref ad2, .ref ad3, .ref ad4, .ref ad5, .ref ad6, .ref ad7, .ref ad8, .int 0, .ref ad9, .ref ad10, .ref ad11, .ref ad12, .ref ad13]))]) (w1 := [(ad1, .inr (7, [.int 8, .int 0, .int (-1), .ref ad14, .ref ad15, .int 0, .int 0, .int 0, .int 0, .ref ad16, .ref ad17, .int 0, .int 0, .int 0])), (ad15, .inl (ck0, 900, .inl f4))]) hP hD [1, 2] [0] rfl rfl (by decide) (by decide) hk1 hFc hP1 hD1
  have hK := (hK.sub (tys' := []) [] rfl).app hK1
  clear hPc hDc hKc hFc hP1 hD1 hK1 hk1 hz1
  generalize H1 = H at hP hS ⊢
  have hP : va_P (dC, dI) vwCl [(ad0, .inr (9, [.ref ad1, .ref ad2, .ref ad3, .ref ad4, .ref ad5, .ref ad6, .ref ad7, .ref ad8, .int 0, .ref ad9, .ref ad10, .ref ad11, .ref ad12, .ref ad13])), (ad1, .inr (7, [.int 8, .int 0, .int (-1), .ref ad14, .ref ad15, .int 0, .int 0, .int 0, .int 0, .ref ad16, .ref ad17, .int 0, .int 0, .int 0])), (ad15, .inl (ck0, 900, .inl f4))] H := hP
  have hD : va_D A [(ad0, .inr (9, [.ref ad1, .ref ad2, .ref ad3, .ref ad4, .ref ad5, .ref ad6, .ref ad7, .ref ad8, .int 0, .ref ad9, .ref ad10, .ref ad11, .ref ad12, .ref ad13])), (ad1, .inr (7, [.int 8, .int 0, .int (-1), .ref ad14, .ref ad15, .int 0, .int 0, .int 0, .int 0, .ref ad16, .ref ad17, .int 0, .int 0, .int 0])), (ad15, .inl (ck0, 900, .inl f4))] := hD
  have hK : va_K (dC, dI) vwCl [(ck0, .byte)] s := hK
  refine W.widen (k := 0) (n := 0) (by decide) (by decide) ?_
  refine lv_aload_n hx hb dX9_feed_35 rfl (lv_at hl 0 rfl) ?_
  refine va_get (D := (dC, dI)) (ci := 9) (v := .ref ad1) (C := RX9) (T := TX9) (N := 14) hx hb hts iw_X9_feed_X9 hown hK hP 0 rfl rfl 0 (by decide) (hts _ kk_X9_feed_0) (fun _ h9 => h9) rfl dX9_feed_36 ?_
  refine lv_iload_n hx hb dX9_feed_39 rfl (lv_at hl 3 rfl) ?_
  have hPc := hP.sub (ws' := [(ad1, .inr (7, [.int 8, .int 0, .int (-1), .ref ad14, .ref ad15, .int 0, .int 0, .int 0, .int 0, .ref ad16, .ref ad17, .int 0, .int 0, .int 0])), (ad15, .inl (ck0, 900, .inl f4))]) [1, 2] rfl
  have hDc := hD.sub (ws' := [(ad1, .inr (7, [.int 8, .int 0, .int (-1), .ref ad14, .ref ad15, .int 0, .int 0, .int 0, .int 0, .ref ad16, .ref ad17, .int 0, .int 0, .int 0])), (ad15, .inl (ck0, 900, .inl f4))]) [1, 2] (by decide) rfl
  have hKc := hK.sub (tys' := [(ck0, .byte)]) [0] rfl
  have hFc := va_free (wc := [(ad1, .inr (7, [.int 8, .int 0, .int (-1), .ref ad14, .ref ad15, .int 0, .int 0, .int 0, .int 0, .ref ad16, .ref ad17, .int 0, .int 0, .int 0])), (ad15, .inl (ck0, 900, .inl f4))]) hD hS hA [1, 2] rfl
  refine va_callv (va_runV (As := [.int vi2]) (rest := []) ⟨hx, hb, hml, hown, hts⟩ (ct_X7_append_v3 l dC dI ad1 vi2 ad14 ad15 ad16 ad17 ck0 f4 H.size) (cwV 1 hts gX9_feed_X7_append rfl rfl rfl (by decide +kernel) ⟨Nat.le_of_ble_eq_true rfl, Nat.le_of_ble_eq_true rfl⟩) ⟨fun a U g mk q => by obtain ⟨q0, q1, qP, qK, qD⟩ := q; exact ⟨q0, q1, qP, va_K.moved (u := U) (U := U.calling g mk a) (Vm.Alike.refl U.vm) qK, qD⟩, va_recv hKc hPc (ci := 7) (q0 := 0) rfl rfl, fun U hU hW => ⟨rfl, by rw [hU], by rw [hU]; exact hPc, va_K.moved hW.alike hKc, hDc.weaken (fun _ _ _ _ => trivial)⟩⟩ rfl rfl hl.1 rfl (lv_room (Nat.le_of_ble_eq_true rfl)) dX9_feed_40 ⟨Nat.le_of_ble_eq_true rfl, Nat.le_of_ble_eq_true rfl⟩) hS (fun q _ h => hFc q h) hFc (fun u t H1 locs ht hvm hw hB hz1 hk1 hS => ?_)
  obtain ⟨f6, hP1, hK1, hD1⟩ := hB
  rw [ht] at hP1
  have hK1 := va_K.moved hvm.symm hK1
  obtain ⟨hP, hD⟩ := va_join (wr := [(ad0, .inr (9, [.ref ad1, .ref ad2, .ref ad3, .ref ad4, .ref ad5, .ref ad6, .ref ad7, .ref ad8, .int 0, .ref ad9, .ref ad10, .ref ad11, .ref ad12, .ref ad13]))]) (w1 := [(ad1, .inr (7, [.int 12, .int 0, .int (-1), .ref ad14, .ref ad15, .int 0, .int 0, .int 0, .int 0, .ref ad16, .ref ad17, .int 0, .int 0, .int 0])), (ad15, .inl (ck0, 900, .inl f6))]) hP hD [1, 2] [0] rfl rfl (by decide) (by decide) hk1 hFc hP1 hD1
  have hK := (hK.sub (tys' := []) [] rfl).app hK1
  clear hPc hDc hKc hFc hP1 hD1 hK1 hk1 hz1
  generalize H1 = H at hP hS ⊢
  have hP : va_P (dC, dI) vwCl [(ad0, .inr (9, [.ref ad1, .ref ad2, .ref ad3, .ref ad4, .ref ad5, .ref ad6, .ref ad7, .ref ad8, .int 0, .ref ad9, .ref ad10, .ref ad11, .ref ad12, .ref ad13])), (ad1, .inr (7, [.int 12, .int 0, .int (-1), .ref ad14, .ref ad15, .int 0, .int 0, .int 0, .int 0, .ref ad16, .ref ad17, .int 0, .int 0, .int 0])), (ad15, .inl (ck0, 900, .inl f6))] H := hP
  have hD : va_D A [(ad0, .inr (9, [.ref ad1, .ref ad2, .ref ad3, .ref ad4, .ref ad5, .ref ad6, .ref ad7, .ref ad8, .int 0, .ref ad9, .ref ad10, .ref ad11, .ref ad12, .ref ad13])), (ad1, .inr (7, [.int 12, .int 0, .int (-1), .ref ad14, .ref ad15, .int 0, .int 0, .int 0, .int 0, .ref ad16, .ref ad17, .int 0, .int 0, .int 0])), (ad15, .inl (ck0, 900, .inl f6))] := hD
  have hK : va_K (dC, dI) vwCl [(ck0, .byte)] s := hK
  refine W.widen (k := 0) (n := 0) (by decide) (by decide) ?_
  refine lv_aload_n hx hb dX9_feed_43 rfl (lv_at hl 0 rfl) ?_
  refine va_get (D := (dC, dI)) (ci := 9) (v := .ref ad1) (C := RX9) (T := TX9) (N := 14) hx hb hts iw_X9_feed_X9 hown hK hP 0 rfl rfl 0 (by decide) (hts _ kk_X9_feed_0) (fun _ h9 => h9) rfl dX9_feed_44 ?_
  refine lv_iload hx hb dX9_feed_47 (lv_at hl 4 rfl) ?_
  have hPc := hP.sub (ws' := [(ad1, .inr (7, [.int 12, .int 0, .int (-1), .ref ad14, .ref ad15, .int 0, .int 0, .int 0, .int 0, .ref ad16, .ref ad17, .int 0, .int 0, .int 0])), (ad15, .inl (ck0, 900, .inl f6))]) [1, 2] rfl
  have hDc := hD.sub (ws' := [(ad1, .inr (7, [.int 12, .int 0, .int (-1), .ref ad14, .ref ad15, .int 0, .int 0, .int 0, .int 0, .ref ad16, .ref ad17, .int 0, .int 0, .int 0])), (ad15, .inl (ck0, 900, .inl f6))]) [1, 2] (by decide) rfl
  have hKc := hK.sub (tys' := [(ck0, .byte)]) [0] rfl
  have hFc := va_free (wc := [(ad1, .inr (7, [.int 12, .int 0, .int (-1), .ref ad14, .ref ad15, .int 0, .int 0, .int 0, .int 0, .ref ad16, .ref ad17, .int 0, .int 0, .int 0])), (ad15, .inl (ck0, 900, .inl f6))]) hD hS hA [1, 2] rfl
  refine va_callv (va_runV (As := [.int vi3]) (rest := []) ⟨hx, hb, hml, hown, hts⟩ (ct_X7_append_v4 l dC dI ad1 vi3 ad14 ad15 ad16 ad17 ck0 f6 H.size) (cwV 1 hts gX9_feed_X7_append rfl rfl rfl (by decide +kernel) ⟨Nat.le_of_ble_eq_true rfl, Nat.le_of_ble_eq_true rfl⟩) ⟨fun a U g mk q => by obtain ⟨q0, q1, qP, qK, qD⟩ := q; exact ⟨q0, q1, qP, va_K.moved (u := U) (U := U.calling g mk a) (Vm.Alike.refl U.vm) qK, qD⟩, va_recv hKc hPc (ci := 7) (q0 := 0) rfl rfl, fun U hU hW => ⟨rfl, by rw [hU], by rw [hU]; exact hPc, va_K.moved hW.alike hKc, hDc.weaken (fun _ _ _ _ => trivial)⟩⟩ rfl rfl hl.1 rfl (lv_room (Nat.le_of_ble_eq_true rfl)) dX9_feed_49 ⟨Nat.le_of_ble_eq_true rfl, Nat.le_of_ble_eq_true rfl⟩) hS (fun q _ h => hFc q h) hFc (fun u t H1 locs ht hvm hw hB hz1 hk1 hS => ?_)
  obtain ⟨f8, hP1, hK1, hD1⟩ := hB
  rw [ht] at hP1
  have hK1 := va_K.moved hvm.symm hK1
  obtain ⟨hP, hD⟩ := va_join (wr := [(ad0, .inr (9, [.ref ad1, .ref ad2, .ref ad3, .ref ad4, .ref ad5, .ref ad6, .ref ad7, .ref ad8, .int 0, .ref ad9, .ref ad10, .ref ad11, .ref ad12, .ref ad13]))]) (w1 := [(ad1, .inr (7, [.int 16, .int 0, .int (-1), .ref ad14, .ref ad15, .int 0, .int 0, .int 0, .int 0, .ref ad16, .ref ad17, .int 0, .int 0, .int 0])), (ad15, .inl (ck0, 900, .inl f8))]) hP hD [1, 2] [0] rfl rfl (by decide) (by decide) hk1 hFc hP1 hD1
  have hK := (hK.sub (tys' := []) [] rfl).app hK1
  clear hPc hDc hKc hFc hP1 hD1 hK1 hk1 hz1
  generalize H1 = H at hP hS ⊢
  have hP : va_P (dC, dI) vwCl [(ad0, .inr (9, [.ref ad1, .ref ad2, .ref ad3, .ref ad4, .ref ad5, .ref ad6, .ref ad7, .ref ad8, .int 0, .ref ad9, .ref ad10, .ref ad11, .ref ad12, .ref ad13])), (ad1, .inr (7, [.int 16, .int 0, .int (-1), .ref ad14, .ref ad15, .int 0, .int 0, .int 0, .int 0, .ref ad16, .ref ad17, .int 0, .int 0, .int 0])), (ad15, .inl (ck0, 900, .inl f8))] H := hP
  have hD : va_D A [(ad0, .inr (9, [.ref ad1, .ref ad2, .ref ad3, .ref ad4, .ref ad5, .ref ad6, .ref ad7, .ref ad8, .int 0, .ref ad9, .ref ad10, .ref ad11, .ref ad12, .ref ad13])), (ad1, .inr (7, [.int 16, .int 0, .int (-1), .ref ad14, .ref ad15, .int 0, .int 0, .int 0, .int 0, .ref ad16, .ref ad17, .int 0, .int 0, .int 0])), (ad15, .inl (ck0, 900, .inl f8))] := hD
  have hK : va_K (dC, dI) vwCl [(ck0, .byte)] s := hK
  refine W.widen (k := 0) (n := 0) (by decide) (by decide) ?_
  refine lv_aload_n hx hb dX9_feed_52 rfl (lv_at hl 0 rfl) ?_
  refine va_get (D := (dC, dI)) (ci := 9) (v := .ref ad1) (C := RX9) (T := TX9) (N := 14) hx hb hts iw_X9_feed_X9 hown hK hP 0 rfl rfl 0 (by decide) (hts _ kk_X9_feed_0) (fun _ h9 => h9) rfl dX9_feed_53 ?_
  refine lv_iload hx hb dX9_feed_56 (lv_at hl 5 rfl) ?_
  have hPc := hP.sub (ws' := [(ad1, .inr (7, [.int 16, .int 0, .int (-1), .ref ad14, .ref ad15, .int 0, .int 0, .int 0, .int 0, .ref ad16, .ref ad17, .int 0, .int 0, .int 0])), (ad15, .inl (ck0, 900, .inl f8))]) [1, 2] rfl
  have hDc := hD.sub (ws' := [(ad1, .inr (7, [.int 16, .int 0, .int (-1), .ref ad14, .ref ad15, .int 0, .int 0, .int 0, .int 0, .ref ad16, .ref ad17, .int 0, .int 0, .int 0])), (ad15, .inl (ck0, 900, .inl f8))]) [1, 2] (by decide) rfl
  have hKc := hK.sub (tys' := [(ck0, .byte)]) [0] rfl
  have hFc := va_free (wc := [(ad1, .inr (7, [.int 16, .int 0, .int (-1), .ref ad14, .ref ad15, .int 0, .int 0, .int 0, .int 0, .ref ad16, .ref ad17, .int 0, .int 0, .int 0])), (ad15, .inl (ck0, 900, .inl f8))]) hD hS hA [1, 2] rfl
  refine va_callv (va_runV (As := [.int vi4]) (rest := []) ⟨hx, hb, hml, hown, hts⟩ (ct_X7_append_v5 l dC dI ad1 vi4 ad14 ad15 ad16 ad17 ck0 f8 H.size) (cwV 1 hts gX9_feed_X7_append rfl rfl rfl (by decide +kernel) ⟨Nat.le_of_ble_eq_true rfl, Nat.le_of_ble_eq_true rfl⟩) ⟨fun a U g mk q => by obtain ⟨q0, q1, qP, qK, qD⟩ := q; exact ⟨q0, q1, qP, va_K.moved (u := U) (U := U.calling g mk a) (Vm.Alike.refl U.vm) qK, qD⟩, va_recv hKc hPc (ci := 7) (q0 := 0) rfl rfl, fun U hU hW => ⟨rfl, by rw [hU], by rw [hU]; exact hPc, va_K.moved hW.alike hKc, hDc.weaken (fun _ _ _ _ => trivial)⟩⟩ rfl rfl hl.1 rfl (lv_room (Nat.le_of_ble_eq_true rfl)) dX9_feed_58 ⟨Nat.le_of_ble_eq_true rfl, Nat.le_of_ble_eq_true rfl⟩) hS (fun q _ h => hFc q h) hFc (fun u t H1 locs ht hvm hw hB hz1 hk1 hS => ?_)
  obtain ⟨f10, hP1, hK1, hD1⟩ := hB
  rw [ht] at hP1
  have hK1 := va_K.moved hvm.symm hK1
  obtain ⟨hP, hD⟩ := va_join (wr := [(ad0, .inr (9, [.ref ad1, .ref ad2, .ref ad3, .ref ad4, .ref ad5, .ref ad6, .ref ad7, .ref ad8, .int 0, .ref ad9, .ref ad10, .ref ad11, .ref ad12, .ref ad13]))]) (w1 := [(ad1, .inr (7, [.int 20, .int 0, .int (-1), .ref ad14, .ref ad15, .int 0, .int 0, .int 0, .int 0, .ref ad16, .ref ad17, .int 0, .int 0, .int 0])), (ad15, .inl (ck0, 900, .inl f10))]) hP hD [1, 2] [0] rfl rfl (by decide) (by decide) hk1 hFc hP1 hD1
  have hK := (hK.sub (tys' := []) [] rfl).app hK1
  clear hPc hDc hKc hFc hP1 hD1 hK1 hk1 hz1
  generalize H1 = H at hP hS ⊢
  have hP : va_P (dC, dI) vwCl [(ad0, .inr (9, [.ref ad1, .ref ad2, .ref ad3, .ref ad4, .ref ad5, .ref ad6, .ref ad7, .ref ad8, .int 0, .ref ad9, .ref ad10, .ref ad11, .ref ad12, .ref ad13])), (ad1, .inr (7, [.int 20, .int 0, .int (-1), .ref ad14, .ref ad15, .int 0, .int 0, .int 0, .int 0, .ref ad16, .ref ad17, .int 0, .int 0, .int 0])), (ad15, .inl (ck0, 900, .inl f10))] H := hP
  have hD : va_D A [(ad0, .inr (9, [.ref ad1, .ref ad2, .ref ad3, .ref ad4, .ref ad5, .ref ad6, .ref ad7, .ref ad8, .int 0, .ref ad9, .ref ad10, .ref ad11, .ref ad12, .ref ad13])), (ad1, .inr (7, [.int 20, .int 0, .int (-1), .ref ad14, .ref ad15, .int 0, .int 0, .int 0, .int 0, .ref ad16, .ref ad17, .int 0, .int 0, .int 0])), (ad15, .inl (ck0, 900, .inl f10))] := hD
  have hK : va_K (dC, dI) vwCl [(ck0, .byte)] s := hK
  refine W.widen (k := 0) (n := 0) (by decide) (by decide) ?_
  refine lv_aload_n hx hb dX9_feed_61 rfl (lv_at hl 0 rfl) ?_
  refine va_get (D := (dC, dI)) (ci := 9) (v := .ref ad1) (C := RX9) (T := TX9) (N := 14) hx hb hts iw_X9_feed_X9 hown hK hP 0 rfl rfl 0 (by decide) (hts _ kk_X9_feed_0) (fun _ h9 => h9) rfl dX9_feed_62 ?_
  refine va_get (D := (dC, dI)) (ci := 7) (v := .int 20) (C := RX7) (T := TX7) (N := 14) hx hb hts iw_X9_feed_X7 hown hK hP 1 rfl rfl 0 (by decide) (hts _ kk_X9_feed_1) (fun _ h9 => h9) rfl dX9_feed_65 ?_
  refine W.widen (k := 0) (n := 0) (by decide) (by decide) ?_
  exact W.iret (v := 20) hx hb hr (fun t ht hW => ⟨⟨20, (), rfl, rfl, trivial⟩, hS.F ht⟩) hS.2.2 dX9_feed_68

set_option maxHeartbeats 4000000 in
set_option maxRecDepth 100000 in
theorem ct_X9_end (l : Launch) (dC : Nat → ClassId) (dI : Nat → Nat → Nat) (ad0 : Nat) (vi0 : Int32) (ad1 : Nat) (ad2 : Nat) (ad3 : Nat) (ad4 : Nat) (ad5 : Nat) (ad6 : Nat) (ad7 : Nat) (ad8 : Nat) (ad9 : Nat) (ad10 : Nat) (ad11 : Nat) (ad12 : Nat) (ad13 : Nat) (ad14 : Nat) (ad15 : Nat) (ad16 : Nat) (ad17 : Nat) (sz : Nat) : Met l yX9_end wsX9_end ({ frames := 0, cells := 0, slots := 0, locals := 0 }) (va_Pc [.ref ad0, .int vi0] (fun U => U.heap.size = sz ∧ va_P (dC, dI) vwCl [(ad0, .inr (9, [.ref ad1, .ref ad2, .ref ad3, .ref ad4, .ref ad5, .ref ad6, .ref ad7, .ref ad8, .int 0, .ref ad9, .ref ad10, .ref ad11, .ref ad12, .ref ad13])), (ad1, .inr (7, [.int 0, .int 0, .int (-1), .ref ad14, .ref ad15, .int 0, .int 0, .int 0, .int 0, .ref ad16, .ref ad17, .int 0, .int 0, .int 0]))] U.heap ∧ va_K (dC, dI) vwCl [] U ∧ va_D (fun _ => True) [(ad0, .inr (9, [.ref ad1, .ref ad2, .ref ad3, .ref ad4, .ref ad5, .ref ad6, .ref ad7, .ref ad8, .int 0, .ref ad9, .ref ad10, .ref ad11, .ref ad12, .ref ad13])), (ad1, .inr (7, [.int 0, .int 0, .int (-1), .ref ad14, .ref ad15, .int 0, .int 0, .int 0, .int 0, .ref ad16, .ref ad17, .int 0, .int 0, .int 0]))])) (va_Qi (fun (r : Int32) (_ : Unit) => r = sp_end vi0) (fun _ _ => True) (va_A [(ad0, .inr (9, [.ref ad1, .ref ad2, .ref ad3, .ref ad4, .ref ad5, .ref ad6, .ref ad7, .ref ad8, .int 0, .ref ad9, .ref ad10, .ref ad11, .ref ad12, .ref ad13])), (ad1, .inr (7, [.int 0, .int 0, .int (-1), .ref ad14, .ref ad15, .int 0, .int 0, .int 0, .int 0, .ref ad16, .ref ad17, .int 0, .int 0, .int 0]))] sz)) 0 0 (va_A [(ad0, .inr (9, [.ref ad1, .ref ad2, .ref ad3, .ref ad4, .ref ad5, .ref ad6, .ref ad7, .ref ad8, .int 0, .ref ad9, .ref ad10, .ref ad11, .ref ad12, .ref ad13])), (ad1, .inr (7, [.int 0, .int 0, .int (-1), .ref ad14, .ref ad15, .int 0, .int 0, .int 0, .int 0, .ref ad16, .ref ad17, .int 0, .int 0, .int 0]))] sz) := by
  refine Met.ofW (cc := cX9_end) (maxL := 2) (ret := (some .int)) (by decide) rfl ?_
  intro p e s m args below meth c s₁ B hml hv
  obtain ⟨rfl, hsz, hP, hK, hD0⟩ := hv
  have hx := B.exec
  have hb := B.bytes
  have hr := B.returns
  have hts := atoms_spec (ws := wsX9_end) B.pre
  have hown : s.vm.findClass RX9 = some m.cls := findClass_of_methodNamed B.named
  have hlocks := B.notSynchronized
  subst hsz
  have hD := hD0.self (sz := s.heap.size)
  generalize hAe : va_A [(ad0, .inr (9, [.ref ad1, .ref ad2, .ref ad3, .ref ad4, .ref ad5, .ref ad6, .ref ad7, .ref ad8, .int 0, .ref ad9, .ref ad10, .ref ad11, .ref ad12, .ref ad13])), (ad1, .inr (7, [.int 0, .int 0, .int (-1), .ref ad14, .ref ad15, .int 0, .int 0, .int 0, .int 0, .ref ad16, .ref ad17, .int 0, .int 0, .int 0]))] s.heap.size = A at hD ⊢
  have hA : ∀ q : Nat, s.heap.size ≤ q → A q := fun q h => by rw [← hAe]; exact Or.inr h
  have hS : va_S A s.heap s.heap [] := va_S.rf
  have hP : va_P (dC, dI) vwCl [(ad0, .inr (9, [.ref ad1, .ref ad2, .ref ad3, .ref ad4, .ref ad5, .ref ad6, .ref ad7, .ref ad8, .int 0, .ref ad9, .ref ad10, .ref ad11, .ref ad12, .ref ad13])), (ad1, .inr (7, [.int 0, .int 0, .int (-1), .ref ad14, .ref ad15, .int 0, .int 0, .int 0, .int 0, .ref ad16, .ref ad17, .int 0, .int 0, .int 0]))] s.heap := hP
  have hl := lv_entry ([.ref ad0, .int vi0]) (n := 2) (Nat.le_of_ble_eq_true rfl)
  rw [lg_entry_eq]
  generalize (lg_sl ([.ref ad0, .int vi0]) ++ List.replicate (2 - (lg_sl ([.ref ad0, .int vi0])).length) Slot.unset).toArray = ls at hl ⊢
  have hl : lv_has ls 2 [(0, .ref ad0), (1, .int vi0)] := hl
  refine lv_iload_n hx hb dX9_end_0 rfl (lv_at hl 1 rfl) ?_
  refine lv_if_lt (tgt := 15) hx hb dX9_end_1 (by decide) (fun c1 => ?_) (fun c1 => ?_)
  · refine lv_iconst (v := (-1)) hx hb dX9_end_15 (by decide) ?_
    refine W.widen (k := 0) (n := 0) (by decide) (by decide) ?_
    exact W.iret (v := (-1)) hx hb hr (fun t ht hW => ⟨⟨(-1), (), rfl, (by first | rfl | (simp only [sp_end] at *; grind)), trivial⟩, hS.F ht⟩) hS.2.2 dX9_end_16
  · refine lv_iload_n hx hb dX9_end_4 rfl (lv_at hl 1 rfl) ?_
    refine lv_aload_n hx hb dX9_end_5 rfl (lv_at hl 0 rfl) ?_
    refine va_get (D := (dC, dI)) (ci := 9) (v := .ref ad1) (C := RX9) (T := TX9) (N := 14) hx hb hts iw_X9_end_X9 hown hK hP 0 rfl rfl 0 (by decide) (hts _ kk_X9_end_0) (fun _ h9 => h9) rfl dX9_end_6 ?_
    refine va_get (D := (dC, dI)) (ci := 7) (v := .int 0) (C := RX7) (T := TX7) (N := 14) hx hb hts iw_X9_end_X7 hown hK hP 1 rfl rfl 0 (by decide) (hts _ kk_X9_end_1) (fun _ h9 => h9) rfl dX9_end_9 ?_
    refine lv_icmp_le (tgt := 17) hx hb dX9_end_12 (by decide) (fun c2 => ?_) (fun c2 => ?_)
    · have hpin : vi0 = 0 := by grind
      subst hpin
      refine lv_aload_n hx hb dX9_end_17 rfl (lv_at hl 0 rfl) ?_
      refine va_get (D := (dC, dI)) (ci := 9) (v := .ref ad1) (C := RX9) (T := TX9) (N := 14) hx hb hts iw_X9_end_X9 hown hK hP 0 rfl rfl 0 (by decide) (hts _ kk_X9_end_0) (fun _ h9 => h9) rfl dX9_end_18 ?_
      refine lv_iload_n hx hb dX9_end_21 rfl (lv_at hl 1 rfl) ?_
      refine va_put (D := (dC, dI)) (ci := 7) (v := .int 0) (ty := .int) (C := RX7) (T := TX7) (N := 14) hx hb hts iw_X9_end_X7 tyX7 tyX7_ok nmX7 hown hK hP hD hS 1 rfl rfl 0 (by decide) (hts _ kk_X9_end_1) (fun _ h9 => h9) rfl (by decide +kernel) rfl rfl (Nat.le_of_ble_eq_true rfl) dX9_end_22 (fun H locs hP hD hS => ?_)
      have hP : va_P (dC, dI) vwCl [(ad0, .inr (9, [.ref ad1, .ref ad2, .ref ad3, .ref ad4, .ref ad5, .ref ad6, .ref ad7, .ref ad8, .int 0, .ref ad9, .ref ad10, .ref ad11, .ref ad12, .ref ad13])), (ad1, .inr (7, [.int 0, .int 0, .int (-1), .ref ad14, .ref ad15, .int 0, .int 0, .int 0, .int 0, .ref ad16, .ref ad17, .int 0, .int 0, .int 0]))] H := hP
      have hD : va_D A [(ad0, .inr (9, [.ref ad1, .ref ad2, .ref ad3, .ref ad4, .ref ad5, .ref ad6, .ref ad7, .ref ad8, .int 0, .ref ad9, .ref ad10, .ref ad11, .ref ad12, .ref ad13])), (ad1, .inr (7, [.int 0, .int 0, .int (-1), .ref ad14, .ref ad15, .int 0, .int 0, .int 0, .int 0, .ref ad16, .ref ad17, .int 0, .int 0, .int 0]))] := hD
      refine lv_iload_n hx hb dX9_end_25 rfl (lv_at hl 1 rfl) ?_
      refine W.widen (k := 0) (n := 0) (by decide) (by decide) ?_
      exact W.iret (v := 0) hx hb hr (fun t ht hW => ⟨⟨0, (), rfl, (by first | rfl | (simp only [sp_end] at *; grind)), trivial⟩, hS.F ht⟩) hS.2.2 dX9_end_26
    · refine lv_iconst (v := (-1)) hx hb dX9_end_15 (by decide) ?_
      refine W.widen (k := 0) (n := 0) (by decide) (by decide) ?_
      exact W.iret (v := (-1)) hx hb hr (fun t ht hW => ⟨⟨(-1), (), rfl, (by first | rfl | (simp only [sp_end] at *; grind)), trivial⟩, hS.F ht⟩) hS.2.2 dX9_end_16

set_option maxHeartbeats 4000000 in
set_option maxRecDepth 100000 in
theorem ct_X3_clear_v2 (l : Launch) (dC : Nat → ClassId) (dI : Nat → Nat → Nat) (ad0 : Nat) (ad1 : Nat) (ad2 : Nat) (ad3 : Nat) (ad4 : Nat) (ad5 : Nat) (ck0 : ClassId) (sz : Nat) : Met l yX3_clear wsX3_clear ({ frames := 0, cells := 0, slots := 0, locals := 0 }) (va_Pc [.ref ad0] (fun U => U.heap.size = sz ∧ va_P (dC, dI) vwCl [(ad0, .inr (3, [.int 0, .int 0, .int 10, .int 0, .int 0, .int 1, .ref ad1, .ref ad2, .ref ad3, .ref ad4, .ref ad5])), (ad4, .inl (ck0, 3, .inl (lf [1, 0, 0])))] U.heap ∧ va_K (dC, dI) vwCl [(ck0, .int)] U ∧ va_D (fun _ => True) [(ad0, .inr (3, [.int 0, .int 0, .int 10, .int 0, .int 0, .int 1, .ref ad1, .ref ad2, .ref ad3, .ref ad4, .ref ad5])), (ad4, .inl (ck0, 3, .inl (lf [1, 0, 0])))])) (va_Qv (fun _ : Unit => True) (fun _ t => va_P (dC, dI) vwCl [(ad0, .inr (3, [.int 0, .int 0, .int 10, .int 0, .int 0, .int 1, .ref ad1, .ref ad2, .ref ad3, .ref ad4, .ref ad5])), (ad4, .inl (ck0, 3, .inl (lf [1, 0, 0])))] t.heap ∧ va_K (dC, dI) vwCl [(ck0, .int)] t ∧ va_D (va_A [(ad0, .inr (3, [.int 0, .int 0, .int 10, .int 0, .int 0, .int 1, .ref ad1, .ref ad2, .ref ad3, .ref ad4, .ref ad5])), (ad4, .inl (ck0, 3, .inl (lf [1, 0, 0])))] sz) [(ad0, .inr (3, [.int 0, .int 0, .int 10, .int 0, .int 0, .int 1, .ref ad1, .ref ad2, .ref ad3, .ref ad4, .ref ad5])), (ad4, .inl (ck0, 3, .inl (lf [1, 0, 0])))]) (va_A [(ad0, .inr (3, [.int 0, .int 0, .int 10, .int 0, .int 0, .int 1, .ref ad1, .ref ad2, .ref ad3, .ref ad4, .ref ad5])), (ad4, .inl (ck0, 3, .inl (lf [1, 0, 0])))] sz)) 0 0 (va_A [(ad0, .inr (3, [.int 0, .int 0, .int 10, .int 0, .int 0, .int 1, .ref ad1, .ref ad2, .ref ad3, .ref ad4, .ref ad5])), (ad4, .inl (ck0, 3, .inl (lf [1, 0, 0])))] sz) := by
  refine Met.ofW (cc := cX3_clear) (maxL := 1) (ret := none) (by decide) rfl ?_
  intro p e s m args below meth c s₁ B hml hv
  obtain ⟨rfl, hsz, hP, hK, hD0⟩ := hv
  have hx := B.exec
  have hb := B.bytes
  have hr := B.returns
  have hts := atoms_spec (ws := wsX3_clear) B.pre
  have hown : s.vm.findClass RX3 = some m.cls := findClass_of_methodNamed B.named
  have hlocks := B.notSynchronized
  subst hsz
  have hD := hD0.self (sz := s.heap.size)
  generalize hAe : va_A [(ad0, .inr (3, [.int 0, .int 0, .int 10, .int 0, .int 0, .int 1, .ref ad1, .ref ad2, .ref ad3, .ref ad4, .ref ad5])), (ad4, .inl (ck0, 3, .inl (lf [1, 0, 0])))] s.heap.size = A at hD ⊢
  have hA : ∀ q : Nat, s.heap.size ≤ q → A q := fun q h => by rw [← hAe]; exact Or.inr h
  have hS : va_S A s.heap s.heap [] := va_S.rf
  have hP : va_P (dC, dI) vwCl [(ad0, .inr (3, [.int 0, .int 0, .int 10, .int 0, .int 0, .int 1, .ref ad1, .ref ad2, .ref ad3, .ref ad4, .ref ad5])), (ad4, .inl (ck0, 3, .inl (lf [1, 0, 0])))] s.heap := hP
  have hl := lv_entry ([.ref ad0]) (n := 1) (Nat.le_of_ble_eq_true rfl)
  rw [lg_entry_eq]
  generalize (lg_sl ([.ref ad0]) ++ List.replicate (1 - (lg_sl ([.ref ad0])).length) Slot.unset).toArray = ls at hl ⊢
  have hl : lv_has ls 1 [(0, .ref ad0)] := hl
  refine lv_aload_n hx hb dX3_clear_0 rfl (lv_at hl 0 rfl) ?_
  refine lv_iconst (v := 0) hx hb dX3_clear_1 (by decide) ?_
  refine va_put (D := (dC, dI)) (ci := 3) (v := .int 0) (ty := .int) (C := RX3) (T := TX3) (N := 11) hx hb hts iw_X3_clear_X3 tyX3 tyX3_ok nmX3 hown hK hP hD hS 0 rfl rfl 0 (by decide) (hts _ kk_X3_clear_0) (fun _ h9 => h9) rfl (by decide +kernel) rfl rfl (Nat.le_of_ble_eq_true rfl) dX3_clear_2 (fun H locs hP hD hS => ?_)
  have hP : va_P (dC, dI) vwCl [(ad0, .inr (3, [.int 0, .int 0, .int 10, .int 0, .int 0, .int 1, .ref ad1, .ref ad2, .ref ad3, .ref ad4, .ref ad5])), (ad4, .inl (ck0, 3, .inl (lf [1, 0, 0])))] H := hP
  have hD : va_D A [(ad0, .inr (3, [.int 0, .int 0, .int 10, .int 0, .int 0, .int 1, .ref ad1, .ref ad2, .ref ad3, .ref ad4, .ref ad5])), (ad4, .inl (ck0, 3, .inl (lf [1, 0, 0])))] := hD
  refine lv_aload_n hx hb dX3_clear_5 rfl (lv_at hl 0 rfl) ?_
  refine lv_iconst (v := 0) hx hb dX3_clear_6 (by decide) ?_
  refine va_put (D := (dC, dI)) (ci := 3) (v := .int 0) (ty := .int) (C := RX3) (T := TX3) (N := 11) hx hb hts iw_X3_clear_X3 tyX3 tyX3_ok nmX3 hown hK hP hD hS 0 rfl rfl 1 (by decide) (hts _ kk_X3_clear_1) (fun _ h9 => h9) rfl (by decide +kernel) rfl rfl (Nat.le_of_ble_eq_true rfl) dX3_clear_7 (fun H locs hP hD hS => ?_)
  have hP : va_P (dC, dI) vwCl [(ad0, .inr (3, [.int 0, .int 0, .int 10, .int 0, .int 0, .int 1, .ref ad1, .ref ad2, .ref ad3, .ref ad4, .ref ad5])), (ad4, .inl (ck0, 3, .inl (lf [1, 0, 0])))] H := hP
  have hD : va_D A [(ad0, .inr (3, [.int 0, .int 0, .int 10, .int 0, .int 0, .int 1, .ref ad1, .ref ad2, .ref ad3, .ref ad4, .ref ad5])), (ad4, .inl (ck0, 3, .inl (lf [1, 0, 0])))] := hD
  refine lv_aload_n hx hb dX3_clear_10 rfl (lv_at hl 0 rfl) ?_
  refine lv_bipush (v := 10) hx hb dX3_clear_11 (by decide) ?_
  refine va_put (D := (dC, dI)) (ci := 3) (v := .int 10) (ty := .int) (C := RX3) (T := TX3) (N := 11) hx hb hts iw_X3_clear_X3 tyX3 tyX3_ok nmX3 hown hK hP hD hS 0 rfl rfl 2 (by decide) (hts _ kk_X3_clear_2) (fun _ h9 => h9) rfl (by decide +kernel) rfl rfl (Nat.le_of_ble_eq_true rfl) dX3_clear_13 (fun H locs hP hD hS => ?_)
  have hP : va_P (dC, dI) vwCl [(ad0, .inr (3, [.int 0, .int 0, .int 10, .int 0, .int 0, .int 1, .ref ad1, .ref ad2, .ref ad3, .ref ad4, .ref ad5])), (ad4, .inl (ck0, 3, .inl (lf [1, 0, 0])))] H := hP
  have hD : va_D A [(ad0, .inr (3, [.int 0, .int 0, .int 10, .int 0, .int 0, .int 1, .ref ad1, .ref ad2, .ref ad3, .ref ad4, .ref ad5])), (ad4, .inl (ck0, 3, .inl (lf [1, 0, 0])))] := hD
  refine lv_aload_n hx hb dX3_clear_16 rfl (lv_at hl 0 rfl) ?_
  refine lv_iconst (v := 0) hx hb dX3_clear_17 (by decide) ?_
  refine va_put (D := (dC, dI)) (ci := 3) (v := .int 0) (ty := .int) (C := RX3) (T := TX3) (N := 11) hx hb hts iw_X3_clear_X3 tyX3 tyX3_ok nmX3 hown hK hP hD hS 0 rfl rfl 3 (by decide) (hts _ kk_X3_clear_3) (fun _ h9 => h9) rfl (by decide +kernel) rfl rfl (Nat.le_of_ble_eq_true rfl) dX3_clear_18 (fun H locs hP hD hS => ?_)
  have hP : va_P (dC, dI) vwCl [(ad0, .inr (3, [.int 0, .int 0, .int 10, .int 0, .int 0, .int 1, .ref ad1, .ref ad2, .ref ad3, .ref ad4, .ref ad5])), (ad4, .inl (ck0, 3, .inl (lf [1, 0, 0])))] H := hP
  have hD : va_D A [(ad0, .inr (3, [.int 0, .int 0, .int 10, .int 0, .int 0, .int 1, .ref ad1, .ref ad2, .ref ad3, .ref ad4, .ref ad5])), (ad4, .inl (ck0, 3, .inl (lf [1, 0, 0])))] := hD
  refine lv_aload_n hx hb dX3_clear_21 rfl (lv_at hl 0 rfl) ?_
  refine lv_iconst (v := 0) hx hb dX3_clear_22 (by decide) ?_
  refine va_put (D := (dC, dI)) (ci := 3) (v := .int 0) (ty := .int) (C := RX3) (T := TX3) (N := 11) hx hb hts iw_X3_clear_X3 tyX3 tyX3_ok nmX3 hown hK hP hD hS 0 rfl rfl 4 (by decide) (hts _ kk_X3_clear_4) (fun _ h9 => h9) rfl (by decide +kernel) rfl rfl (Nat.le_of_ble_eq_true rfl) dX3_clear_23 (fun H locs hP hD hS => ?_)
  have hP : va_P (dC, dI) vwCl [(ad0, .inr (3, [.int 0, .int 0, .int 10, .int 0, .int 0, .int 1, .ref ad1, .ref ad2, .ref ad3, .ref ad4, .ref ad5])), (ad4, .inl (ck0, 3, .inl (lf [1, 0, 0])))] H := hP
  have hD : va_D A [(ad0, .inr (3, [.int 0, .int 0, .int 10, .int 0, .int 0, .int 1, .ref ad1, .ref ad2, .ref ad3, .ref ad4, .ref ad5])), (ad4, .inl (ck0, 3, .inl (lf [1, 0, 0])))] := hD
  refine lv_aload_n hx hb dX3_clear_26 rfl (lv_at hl 0 rfl) ?_
  refine lv_iconst (v := 1) hx hb dX3_clear_27 (by decide) ?_
  refine va_put (D := (dC, dI)) (ci := 3) (v := .int 1) (ty := .int) (C := RX3) (T := TX3) (N := 11) hx hb hts iw_X3_clear_X3 tyX3 tyX3_ok nmX3 hown hK hP hD hS 0 rfl rfl 5 (by decide) (hts _ kk_X3_clear_5) (fun _ h9 => h9) rfl (by decide +kernel) rfl rfl (Nat.le_of_ble_eq_true rfl) dX3_clear_28 (fun H locs hP hD hS => ?_)
  have hP : va_P (dC, dI) vwCl [(ad0, .inr (3, [.int 0, .int 0, .int 10, .int 0, .int 0, .int 1, .ref ad1, .ref ad2, .ref ad3, .ref ad4, .ref ad5])), (ad4, .inl (ck0, 3, .inl (lf [1, 0, 0])))] H := hP
  have hD : va_D A [(ad0, .inr (3, [.int 0, .int 0, .int 10, .int 0, .int 0, .int 1, .ref ad1, .ref ad2, .ref ad3, .ref ad4, .ref ad5])), (ad4, .inl (ck0, 3, .inl (lf [1, 0, 0])))] := hD
  refine lv_aload_n hx hb dX3_clear_31 rfl (lv_at hl 0 rfl) ?_
  refine va_get (D := (dC, dI)) (ci := 3) (v := .ref ad4) (C := RX3) (T := TX3) (N := 11) hx hb hts iw_X3_clear_X3 hown hK hP 0 rfl rfl 9 (by decide) (hts _ kk_X3_clear_6) (fun _ h9 => h9) rfl dX3_clear_32 ?_
  refine lv_iconst (v := 0) hx hb dX3_clear_35 (by decide) ?_
  refine lv_iconst (v := 1) hx hb dX3_clear_36 (by decide) ?_
  refine va_iast hx hb hK hP hD hS 1 0 rfl rfl (vq_in 0 3 (by decide)) dX3_clear_37 (fun H locs hP hD hS => ?_)
  have hP : va_P (dC, dI) vwCl [(ad0, .inr (3, [.int 0, .int 0, .int 10, .int 0, .int 0, .int 1, .ref ad1, .ref ad2, .ref ad3, .ref ad4, .ref ad5])), (ad4, .inl (ck0, 3, .inl (upd (lf [1, 0, 0]) (Int32.toNatClampNeg 0) 1)))] H := hP
  have hD : va_D A [(ad0, .inr (3, [.int 0, .int 0, .int 10, .int 0, .int 0, .int 1, .ref ad1, .ref ad2, .ref ad3, .ref ad4, .ref ad5])), (ad4, .inl (ck0, 3, .inl (upd (lf [1, 0, 0]) (Int32.toNatClampNeg 0) 1)))] := hD
  rw [show upd (lf [1, 0, 0]) (Int32.toNatClampNeg 0) 1 = lf [1, 0, 0] from lf_upd _ _ _ (by decide)] at hP hD
  refine W.widen (k := 0) (n := 0) (by decide) (by decide) ?_
  have hP9 := hP.sub (ws' := [(ad0, .inr (3, [.int 0, .int 0, .int 10, .int 0, .int 0, .int 1, .ref ad1, .ref ad2, .ref ad3, .ref ad4, .ref ad5])), (ad4, .inl (ck0, 3, .inl (lf [1, 0, 0])))]) [0, 1] rfl
  have hD9 := hD.sub (ws' := [(ad0, .inr (3, [.int 0, .int 0, .int 10, .int 0, .int 0, .int 1, .ref ad1, .ref ad2, .ref ad3, .ref ad4, .ref ad5])), (ad4, .inl (ck0, 3, .inl (lf [1, 0, 0])))]) [0, 1] (by decide) rfl
  have hK9 := hK.sub (tys' := [(ck0, .int)]) [0] rfl
  exact W.vret hx hb hr (fun t ht hW => ⟨⟨(), rfl, trivial, by rw [ht]; exact hP9, va_K.moved hW.alike hK9, hD9⟩, hS.F ht⟩) hS.2.2 dX3_clear_38

set_option maxHeartbeats 4000000 in
set_option maxRecDepth 100000 in
theorem ct_X7_advance (l : Launch) (dC : Nat → ClassId) (dI : Nat → Nat → Nat) (ad0 : Nat) (ad1 : Nat) (ad2 : Nat) (ad3 : Nat) (ad4 : Nat) (sz : Nat) : Met l yX7_advance wsX7_advance ({ frames := 0, cells := 0, slots := 0, locals := 0 }) (va_Pc [.ref ad0] (fun U => U.heap.size = sz ∧ va_P (dC, dI) vwCl [(ad0, .inr (7, [.int 0, .int 0, .int (-1), .ref ad1, .ref ad2, .int 0, .int 0, .int 0, .int 0, .ref ad3, .ref ad4, .int 0, .int 0, .int 0]))] U.heap ∧ va_K (dC, dI) vwCl [] U ∧ va_D (fun _ => True) [(ad0, .inr (7, [.int 0, .int 0, .int (-1), .ref ad1, .ref ad2, .int 0, .int 0, .int 0, .int 0, .ref ad3, .ref ad4, .int 0, .int 0, .int 0]))])) (va_Qv (fun _ : Unit => True) (fun _ t => va_P (dC, dI) vwCl [(ad0, .inr (7, [.int 0, .int 0, .int (-1), .ref ad1, .ref ad2, .int 0, .int 0, .int 0, .int 0, .ref ad3, .ref ad4, .int 0, .int 0, .int 0]))] t.heap ∧ va_K (dC, dI) vwCl [] t ∧ va_D (va_A [(ad0, .inr (7, [.int 0, .int 0, .int (-1), .ref ad1, .ref ad2, .int 0, .int 0, .int 0, .int 0, .ref ad3, .ref ad4, .int 0, .int 0, .int 0]))] sz) [(ad0, .inr (7, [.int 0, .int 0, .int (-1), .ref ad1, .ref ad2, .int 0, .int 0, .int 0, .int 0, .ref ad3, .ref ad4, .int 0, .int 0, .int 0]))]) (va_A [(ad0, .inr (7, [.int 0, .int 0, .int (-1), .ref ad1, .ref ad2, .int 0, .int 0, .int 0, .int 0, .ref ad3, .ref ad4, .int 0, .int 0, .int 0]))] sz)) 0 0 (va_A [(ad0, .inr (7, [.int 0, .int 0, .int (-1), .ref ad1, .ref ad2, .int 0, .int 0, .int 0, .int 0, .ref ad3, .ref ad4, .int 0, .int 0, .int 0]))] sz) := by
  refine Met.ofW (cc := cX7_advance) (maxL := 1) (ret := none) (by decide) rfl ?_
  intro p e s m args below meth c s₁ B hml hv
  obtain ⟨rfl, hsz, hP, hK, hD0⟩ := hv
  have hx := B.exec
  have hb := B.bytes
  have hr := B.returns
  have hts := atoms_spec (ws := wsX7_advance) B.pre
  have hown : s.vm.findClass RX7 = some m.cls := findClass_of_methodNamed B.named
  have hlocks := B.notSynchronized
  subst hsz
  have hD := hD0.self (sz := s.heap.size)
  generalize hAe : va_A [(ad0, .inr (7, [.int 0, .int 0, .int (-1), .ref ad1, .ref ad2, .int 0, .int 0, .int 0, .int 0, .ref ad3, .ref ad4, .int 0, .int 0, .int 0]))] s.heap.size = A at hD ⊢
  have hA : ∀ q : Nat, s.heap.size ≤ q → A q := fun q h => by rw [← hAe]; exact Or.inr h
  have hS : va_S A s.heap s.heap [] := va_S.rf
  have hP : va_P (dC, dI) vwCl [(ad0, .inr (7, [.int 0, .int 0, .int (-1), .ref ad1, .ref ad2, .int 0, .int 0, .int 0, .int 0, .ref ad3, .ref ad4, .int 0, .int 0, .int 0]))] s.heap := hP
  have hl := lv_entry ([.ref ad0]) (n := 1) (Nat.le_of_ble_eq_true rfl)
  rw [lg_entry_eq]
  generalize (lg_sl ([.ref ad0]) ++ List.replicate (1 - (lg_sl ([.ref ad0])).length) Slot.unset).toArray = ls at hl ⊢
  have hl : lv_has ls 1 [(0, .ref ad0)] := hl
  refine lv_aload_n hx hb dX7_advance_0 rfl (lv_at hl 0 rfl) ?_
  refine va_get (D := (dC, dI)) (ci := 7) (v := .int 0) (C := RX7) (T := TX7) (N := 14) hx hb hts iw_X7_advance_X7 hown hK hP 0 rfl rfl 5 (by decide) (hts _ kk_X7_advance_0) (fun _ h9 => h9) rfl dX7_advance_1 ?_
  refine lv_aload_n hx hb dX7_advance_4 rfl (lv_at hl 0 rfl) ?_
  refine va_get (D := (dC, dI)) (ci := 7) (v := .int 0) (C := RX7) (T := TX7) (N := 14) hx hb hts iw_X7_advance_X7 hown hK hP 0 rfl rfl 0 (by decide) (hts _ kk_X7_advance_1) (fun _ h9 => h9) rfl dX7_advance_5 ?_
  refine lv_icmp_ge (tgt := 40) hx hb dX7_advance_8 (by decide) (fun _ => ?_) (fun cz => absurd cz (by decide))
  refine lv_aload_n hx hb dX7_advance_40 rfl (lv_at hl 0 rfl) ?_
  refine lv_aload_n hx hb dX7_advance_41 rfl (lv_at hl 0 rfl) ?_
  refine va_get (D := (dC, dI)) (ci := 7) (v := .int 0) (C := RX7) (T := TX7) (N := 14) hx hb hts iw_X7_advance_X7 hown hK hP 0 rfl rfl 5 (by decide) (hts _ kk_X7_advance_0) (fun _ h9 => h9) rfl dX7_advance_42 ?_
  refine va_put (D := (dC, dI)) (ci := 7) (v := .int 0) (ty := .int) (C := RX7) (T := TX7) (N := 14) hx hb hts iw_X7_advance_X7 tyX7 tyX7_ok nmX7 hown hK hP hD hS 0 rfl rfl 7 (by decide) (hts _ kk_X7_advance_2) (fun _ h9 => h9) rfl (by decide +kernel) rfl rfl (Nat.le_of_ble_eq_true rfl) dX7_advance_45 (fun H locs hP hD hS => ?_)
  have hP : va_P (dC, dI) vwCl [(ad0, .inr (7, [.int 0, .int 0, .int (-1), .ref ad1, .ref ad2, .int 0, .int 0, .int 0, .int 0, .ref ad3, .ref ad4, .int 0, .int 0, .int 0]))] H := hP
  have hD : va_D A [(ad0, .inr (7, [.int 0, .int 0, .int (-1), .ref ad1, .ref ad2, .int 0, .int 0, .int 0, .int 0, .ref ad3, .ref ad4, .int 0, .int 0, .int 0]))] := hD
  refine lv_aload_n hx hb dX7_advance_48 rfl (lv_at hl 0 rfl) ?_
  refine va_get (D := (dC, dI)) (ci := 7) (v := .int 0) (C := RX7) (T := TX7) (N := 14) hx hb hts iw_X7_advance_X7 hown hK hP 0 rfl rfl 5 (by decide) (hts _ kk_X7_advance_0) (fun _ h9 => h9) rfl dX7_advance_49 ?_
  refine lv_aload_n hx hb dX7_advance_52 rfl (lv_at hl 0 rfl) ?_
  refine va_get (D := (dC, dI)) (ci := 7) (v := .int 0) (C := RX7) (T := TX7) (N := 14) hx hb hts iw_X7_advance_X7 hown hK hP 0 rfl rfl 0 (by decide) (hts _ kk_X7_advance_1) (fun _ h9 => h9) rfl dX7_advance_53 ?_
  refine lv_icmp_lt (tgt := 65) hx hb dX7_advance_56 (by decide) (fun cz => absurd cz (by decide)) (fun _ => ?_)
  refine lv_aload_n hx hb dX7_advance_59 rfl (lv_at hl 0 rfl) ?_
  refine lv_iconst (v := 0) hx hb dX7_advance_60 (by decide) ?_
  refine va_put (D := (dC, dI)) (ci := 7) (v := .int 0) (ty := .int) (C := RX7) (T := TX7) (N := 14) hx hb hts iw_X7_advance_X7 tyX7 tyX7_ok nmX7 hown hK hP hD hS 0 rfl rfl 6 (by decide) (hts _ kk_X7_advance_3) (fun _ h9 => h9) rfl (by decide +kernel) rfl rfl (Nat.le_of_ble_eq_true rfl) dX7_advance_61 (fun H locs hP hD hS => ?_)
  have hP : va_P (dC, dI) vwCl [(ad0, .inr (7, [.int 0, .int 0, .int (-1), .ref ad1, .ref ad2, .int 0, .int 0, .int 0, .int 0, .ref ad3, .ref ad4, .int 0, .int 0, .int 0]))] H := hP
  have hD : va_D A [(ad0, .inr (7, [.int 0, .int 0, .int (-1), .ref ad1, .ref ad2, .int 0, .int 0, .int 0, .int 0, .ref ad3, .ref ad4, .int 0, .int 0, .int 0]))] := hD
  refine W.widen (k := 0) (n := 0) (by decide) (by decide) ?_
  have hP9 := hP.sub (ws' := [(ad0, .inr (7, [.int 0, .int 0, .int (-1), .ref ad1, .ref ad2, .int 0, .int 0, .int 0, .int 0, .ref ad3, .ref ad4, .int 0, .int 0, .int 0]))]) [0] rfl
  have hD9 := hD.sub (ws' := [(ad0, .inr (7, [.int 0, .int 0, .int (-1), .ref ad1, .ref ad2, .int 0, .int 0, .int 0, .int 0, .ref ad3, .ref ad4, .int 0, .int 0, .int 0]))]) [0] (by decide) rfl
  have hK9 := hK.sub (tys' := []) [] rfl
  exact W.vret hx hb hr (fun t ht hW => ⟨⟨(), rfl, trivial, by rw [ht]; exact hP9, va_K.moved hW.alike hK9, hD9⟩, hS.F ht⟩) hS.2.2 dX7_advance_64

set_option maxHeartbeats 4000000 in
set_option maxRecDepth 100000 in
theorem ct_X7_isWord (l : Launch) (dC : Nat → ClassId) (dI : Nat → Nat → Nat) (ad0 : Nat) (ad1 : Nat) (ad2 : Nat) (ad3 : Nat) (ad4 : Nat) (ad5 : Nat) (sz : Nat) : Met l yX7_isWord wsX7_isWord ({ frames := 0, cells := 0, slots := 0, locals := 0 }) (va_Pc [.ref ad0, .ref ad1] (fun U => U.heap.size = sz ∧ va_P (dC, dI) vwCl [(ad0, .inr (7, [.int 0, .int 0, .int (-1), .ref ad2, .ref ad3, .int 0, .int 0, .int 0, .int 0, .ref ad4, .ref ad5, .int 0, .int 0, .int 0]))] U.heap ∧ va_K (dC, dI) vwCl [] U ∧ va_D (fun _ => True) [(ad0, .inr (7, [.int 0, .int 0, .int (-1), .ref ad2, .ref ad3, .int 0, .int 0, .int 0, .int 0, .ref ad4, .ref ad5, .int 0, .int 0, .int 0]))])) (va_Qi (fun (r : Int32) (_ : Unit) => r = 0) (fun _ t => va_P (dC, dI) vwCl [(ad0, .inr (7, [.int 0, .int 0, .int (-1), .ref ad2, .ref ad3, .int 0, .int 0, .int 0, .int 0, .ref ad4, .ref ad5, .int 0, .int 0, .int 0]))] t.heap ∧ va_K (dC, dI) vwCl [] t ∧ va_D (va_A [(ad0, .inr (7, [.int 0, .int 0, .int (-1), .ref ad2, .ref ad3, .int 0, .int 0, .int 0, .int 0, .ref ad4, .ref ad5, .int 0, .int 0, .int 0]))] sz) [(ad0, .inr (7, [.int 0, .int 0, .int (-1), .ref ad2, .ref ad3, .int 0, .int 0, .int 0, .int 0, .ref ad4, .ref ad5, .int 0, .int 0, .int 0]))]) (va_A [(ad0, .inr (7, [.int 0, .int 0, .int (-1), .ref ad2, .ref ad3, .int 0, .int 0, .int 0, .int 0, .ref ad4, .ref ad5, .int 0, .int 0, .int 0]))] sz)) 0 0 (va_A [(ad0, .inr (7, [.int 0, .int 0, .int (-1), .ref ad2, .ref ad3, .int 0, .int 0, .int 0, .int 0, .ref ad4, .ref ad5, .int 0, .int 0, .int 0]))] sz) := by
  refine Met.ofW (cc := cX7_isWord) (maxL := 3) (ret := (some .boolean)) (by decide) rfl ?_
  intro p e s m args below meth c s₁ B hml hv
  obtain ⟨rfl, hsz, hP, hK, hD0⟩ := hv
  have hx := B.exec
  have hb := B.bytes
  have hr := B.returns
  have hts := atoms_spec (ws := wsX7_isWord) B.pre
  have hown : s.vm.findClass RX7 = some m.cls := findClass_of_methodNamed B.named
  have hlocks := B.notSynchronized
  subst hsz
  have hD := hD0.self (sz := s.heap.size)
  generalize hAe : va_A [(ad0, .inr (7, [.int 0, .int 0, .int (-1), .ref ad2, .ref ad3, .int 0, .int 0, .int 0, .int 0, .ref ad4, .ref ad5, .int 0, .int 0, .int 0]))] s.heap.size = A at hD ⊢
  have hA : ∀ q : Nat, s.heap.size ≤ q → A q := fun q h => by rw [← hAe]; exact Or.inr h
  have hS : va_S A s.heap s.heap [] := va_S.rf
  have hP : va_P (dC, dI) vwCl [(ad0, .inr (7, [.int 0, .int 0, .int (-1), .ref ad2, .ref ad3, .int 0, .int 0, .int 0, .int 0, .ref ad4, .ref ad5, .int 0, .int 0, .int 0]))] s.heap := hP
  have hl := lv_entry ([.ref ad0, .ref ad1]) (n := 3) (Nat.le_of_ble_eq_true rfl)
  rw [lg_entry_eq]
  generalize (lg_sl ([.ref ad0, .ref ad1]) ++ List.replicate (3 - (lg_sl ([.ref ad0, .ref ad1])).length) Slot.unset).toArray = ls at hl ⊢
  have hl : lv_has ls 3 [(0, .ref ad0), (1, .ref ad1)] := hl
  refine lv_aload_n hx hb dX7_isWord_0 rfl (lv_at hl 0 rfl) ?_
  refine va_get (D := (dC, dI)) (ci := 7) (v := .int 0) (C := RX7) (T := TX7) (N := 14) hx hb hts iw_X7_isWord_X7 hown hK hP 0 rfl rfl 6 (by decide) (hts _ kk_X7_isWord_0) (fun _ h9 => h9) rfl dX7_isWord_1 ?_
  refine lv_iconst (v := 1) hx hb dX7_isWord_4 (by decide) ?_
  refine lv_icmp_ne (tgt := 24) hx hb dX7_isWord_5 (by decide) (fun _ => ?_) (fun cz => absurd cz (by decide))
  refine lv_iconst (v := 0) hx hb dX7_isWord_24 (by decide) ?_
  refine W.widen (k := 0) (n := 0) (by decide) (by decide) ?_
  have hP9 := hP.sub (ws' := [(ad0, .inr (7, [.int 0, .int 0, .int (-1), .ref ad2, .ref ad3, .int 0, .int 0, .int 0, .int 0, .ref ad4, .ref ad5, .int 0, .int 0, .int 0]))]) [0] rfl
  have hD9 := hD.sub (ws' := [(ad0, .inr (7, [.int 0, .int 0, .int (-1), .ref ad2, .ref ad3, .int 0, .int 0, .int 0, .int 0, .ref ad4, .ref ad5, .int 0, .int 0, .int 0]))]) [0] (by decide) rfl
  have hK9 := hK.sub (tys' := []) [] rfl
  exact W.zret (v := 0) hx hb hr rfl (fun t ht hW => ⟨⟨0, (), rfl, rfl, by rw [ht]; exact hP9, va_K.moved hW.alike hK9, hD9⟩, hS.F ht⟩) hS.2.2 dX7_isWord_25

set_option maxHeartbeats 4000000 in
set_option maxRecDepth 100000 in
theorem ct_X7_readWhole (l : Launch) (dC : Nat → ClassId) (dI : Nat → Nat → Nat) (ad0 : Nat) (ad1 : Nat) (ad2 : Nat) (ad3 : Nat) (ad4 : Nat) (sz : Nat) : Met l yX7_readWhole wsX7_readWhole ({ frames := 1, cells := 0, slots := 0, locals := 22 }) (va_Pc [.ref ad0] (fun U => U.heap.size = sz ∧ va_P (dC, dI) vwCl [(ad0, .inr (7, [.int 0, .int 0, .int (-1), .ref ad1, .ref ad2, .int 0, .int 0, .int 0, .int 0, .ref ad3, .ref ad4, .int 0, .int 0, .int 0]))] U.heap ∧ va_K (dC, dI) vwCl [] U ∧ va_D (fun _ => True) [(ad0, .inr (7, [.int 0, .int 0, .int (-1), .ref ad1, .ref ad2, .int 0, .int 0, .int 0, .int 0, .ref ad3, .ref ad4, .int 0, .int 0, .int 0]))] ∧ vq_SR RX7 80 "whole" U)) (va_Qi (fun (r : Int32) (_ : Unit) => r = 1) (fun _ t => va_P (dC, dI) vwCl [(ad0, .inr (7, [.int 0, .int 0, .int (-1), .ref ad1, .ref ad2, .int 0, .int 0, .int 0, .int 0, .ref ad3, .ref ad4, .int 0, .int 0, .int 0]))] t.heap ∧ va_K (dC, dI) vwCl [] t ∧ va_D (va_A [(ad0, .inr (7, [.int 0, .int 0, .int (-1), .ref ad1, .ref ad2, .int 0, .int 0, .int 0, .int 0, .ref ad3, .ref ad4, .int 0, .int 0, .int 0]))] sz) [(ad0, .inr (7, [.int 0, .int 0, .int (-1), .ref ad1, .ref ad2, .int 0, .int 0, .int 0, .int 0, .ref ad3, .ref ad4, .int 0, .int 0, .int 0]))]) (va_A [(ad0, .inr (7, [.int 0, .int 0, .int (-1), .ref ad1, .ref ad2, .int 0, .int 0, .int 0, .int 0, .ref ad3, .ref ad4, .int 0, .int 0, .int 0]))] sz)) 0 0 (va_A [(ad0, .inr (7, [.int 0, .int 0, .int (-1), .ref ad1, .ref ad2, .int 0, .int 0, .int 0, .int 0, .ref ad3, .ref ad4, .int 0, .int 0, .int 0]))] sz) := by
  refine Met.ofW (cc := cX7_readWhole) (maxL := 1) (ret := (some .boolean)) (by decide) rfl ?_
  intro p e s m args below meth c s₁ B hml hv
  obtain ⟨rfl, hsz, hP, hK, hD0, hF_2⟩ := hv
  have hx := B.exec
  have hb := B.bytes
  have hr := B.returns
  have hts := atoms_spec (ws := wsX7_readWhole) B.pre
  have hown : s.vm.findClass RX7 = some m.cls := findClass_of_methodNamed B.named
  have hlocks := B.notSynchronized
  subst hsz
  have hD := hD0.self (sz := s.heap.size)
  generalize hAe : va_A [(ad0, .inr (7, [.int 0, .int 0, .int (-1), .ref ad1, .ref ad2, .int 0, .int 0, .int 0, .int 0, .ref ad3, .ref ad4, .int 0, .int 0, .int 0]))] s.heap.size = A at hD ⊢
  have hA : ∀ q : Nat, s.heap.size ≤ q → A q := fun q h => by rw [← hAe]; exact Or.inr h
  have hS : va_S A s.heap s.heap [] := va_S.rf
  have hP : va_P (dC, dI) vwCl [(ad0, .inr (7, [.int 0, .int 0, .int (-1), .ref ad1, .ref ad2, .int 0, .int 0, .int 0, .int 0, .ref ad3, .ref ad4, .int 0, .int 0, .int 0]))] s.heap := hP
  have hl := lv_entry ([.ref ad0]) (n := 1) (Nat.le_of_ble_eq_true rfl)
  rw [lg_entry_eq]
  generalize (lg_sl ([.ref ad0]) ++ List.replicate (1 - (lg_sl ([.ref ad0])).length) Slot.unset).toArray = ls at hl ⊢
  have hl : lv_has ls 1 [(0, .ref ad0)] := hl
  refine lv_aload_n hx hb dX7_readWhole_0 rfl (lv_at hl 0 rfl) ?_
  obtain ⟨stw, hz⟩ := id hF_2
  refine va_ldcS hx hb hown hz dX7_readWhole_1 ?_
  have hPc := hP.sub (ws' := [(ad0, .inr (7, [.int 0, .int 0, .int (-1), .ref ad1, .ref ad2, .int 0, .int 0, .int 0, .int 0, .ref ad3, .ref ad4, .int 0, .int 0, .int 0]))]) [0] rfl
  have hDc := hD.sub (ws' := [(ad0, .inr (7, [.int 0, .int 0, .int (-1), .ref ad1, .ref ad2, .int 0, .int 0, .int 0, .int 0, .ref ad3, .ref ad4, .int 0, .int 0, .int 0]))]) [0] (by decide) rfl
  have hKc := hK.sub (tys' := []) [] rfl
  have hFc := va_free (wc := [(ad0, .inr (7, [.int 0, .int 0, .int (-1), .ref ad1, .ref ad2, .int 0, .int 0, .int 0, .int 0, .ref ad3, .ref ad4, .int 0, .int 0, .int 0]))]) hD hS hA [0] rfl
  refine va_calli (va_runV (As := [.ref stw]) (rest := []) ⟨hx, hb, hml, hown, hts⟩ (ct_X7_isWord l dC dI ad0 stw ad1 ad2 ad3 ad4 s.heap.size) (cwV 1 hts gX7_readWhole_X7_isWord rfl rfl rfl (by decide +kernel) ⟨Nat.le_of_ble_eq_true rfl, Nat.le_of_ble_eq_true rfl⟩) ⟨fun a U g mk q => by obtain ⟨q0, q1, qP, qK, qD⟩ := q; exact ⟨q0, q1, qP, va_K.moved (u := U) (U := U.calling g mk a) (Vm.Alike.refl U.vm) qK, qD⟩, va_recv hKc hPc (ci := 7) (q0 := 0) rfl rfl, fun U hU hW => ⟨rfl, by rw [hU], by rw [hU]; exact hPc, va_K.moved hW.alike hKc, hDc.weaken (fun _ _ _ _ => trivial)⟩⟩ rfl rfl hl.1 rfl (lv_room (Nat.le_of_ble_eq_true rfl)) dX7_readWhole_3 ⟨Nat.le_of_ble_eq_true rfl, Nat.le_of_ble_eq_true rfl⟩) hS (fun q _ h => hFc q h) hFc (fun r1 u t H1 locs ht hvm hw hB hz1 hk1 hS => ?_)
  obtain ⟨hP1, hK1, hD1⟩ := hB
  rw [ht] at hP1
  have hK1 := va_K.moved hvm.symm hK1
  obtain ⟨hP, hD⟩ := va_join (wr := []) (w1 := [(ad0, .inr (7, [.int 0, .int 0, .int (-1), .ref ad1, .ref ad2, .int 0, .int 0, .int 0, .int 0, .ref ad3, .ref ad4, .int 0, .int 0, .int 0]))]) hP hD [0] [] rfl rfl (by decide) (by decide) hk1 hFc hP1 hD1
  have hK := (hK.sub (tys' := []) [] rfl).app hK1
  clear hPc hDc hKc hFc hP1 hD1 hK1 hk1 hz1
  generalize H1 = H at hP hS ⊢
  have hP : va_P (dC, dI) vwCl [(ad0, .inr (7, [.int 0, .int 0, .int (-1), .ref ad1, .ref ad2, .int 0, .int 0, .int 0, .int 0, .ref ad3, .ref ad4, .int 0, .int 0, .int 0]))] H := hP
  have hD : va_D A [(ad0, .inr (7, [.int 0, .int 0, .int (-1), .ref ad1, .ref ad2, .int 0, .int 0, .int 0, .int 0, .ref ad3, .ref ad4, .int 0, .int 0, .int 0]))] := hD
  have hK : va_K (dC, dI) vwCl [] s := hK
  refine W.widen (k := 0) (n := 0) (by decide) (by decide) ?_
  have hw : r1 = 0 := hw
  subst hw
  refine lv_if_ne (tgt := 11) hx hb dX7_readWhole_6 (by decide) (fun cz => absurd cz (by decide)) (fun _ => ?_)
  refine lv_iconst (v := 1) hx hb dX7_readWhole_9 (by decide) ?_
  refine W.widen (k := 0) (n := 0) (by decide) (by decide) ?_
  have hP9 := hP.sub (ws' := [(ad0, .inr (7, [.int 0, .int 0, .int (-1), .ref ad1, .ref ad2, .int 0, .int 0, .int 0, .int 0, .ref ad3, .ref ad4, .int 0, .int 0, .int 0]))]) [0] rfl
  have hD9 := hD.sub (ws' := [(ad0, .inr (7, [.int 0, .int 0, .int (-1), .ref ad1, .ref ad2, .int 0, .int 0, .int 0, .int 0, .ref ad3, .ref ad4, .int 0, .int 0, .int 0]))]) [0] (by decide) rfl
  have hK9 := hK.sub (tys' := []) [] rfl
  exact W.zret (v := 1) hx hb hr rfl (fun t ht hW => ⟨⟨1, (), rfl, rfl, by rw [ht]; exact hP9, va_K.moved hW.alike hK9, hD9⟩, hS.F ht⟩) hS.2.2 dX7_readWhole_10

set_option maxHeartbeats 4000000 in
set_option maxRecDepth 100000 in
theorem ct_X7_fail (l : Launch) (dC : Nat → ClassId) (dI : Nat → Nat → Nat) (ad0 : Nat) (ad1 : Nat) (ad2 : Nat) (ad3 : Nat) (ad4 : Nat) (sz : Nat) : Met l yX7_fail wsX7_fail ({ frames := 0, cells := 0, slots := 0, locals := 0 }) (va_Pc [.ref ad0, .int 1] (fun U => U.heap.size = sz ∧ va_P (dC, dI) vwCl [(ad0, .inr (7, [.int 0, .int 0, .int (-1), .ref ad1, .ref ad2, .int 0, .int 0, .int 0, .int 0, .ref ad3, .ref ad4, .int 0, .int 0, .int 0]))] U.heap ∧ va_K (dC, dI) vwCl [] U ∧ va_D (fun _ => True) [(ad0, .inr (7, [.int 0, .int 0, .int (-1), .ref ad1, .ref ad2, .int 0, .int 0, .int 0, .int 0, .ref ad3, .ref ad4, .int 0, .int 0, .int 0]))])) (va_Qi (fun (r : Int32) (_ : Unit) => r = 0) (fun _ t => va_P (dC, dI) vwCl [(ad0, .inr (7, [.int 0, .int 1, .int 0, .ref ad1, .ref ad2, .int 0, .int 0, .int 0, .int 0, .ref ad3, .ref ad4, .int 0, .int 0, .int 0]))] t.heap ∧ va_K (dC, dI) vwCl [] t ∧ va_D (va_A [(ad0, .inr (7, [.int 0, .int 0, .int (-1), .ref ad1, .ref ad2, .int 0, .int 0, .int 0, .int 0, .ref ad3, .ref ad4, .int 0, .int 0, .int 0]))] sz) [(ad0, .inr (7, [.int 0, .int 1, .int 0, .ref ad1, .ref ad2, .int 0, .int 0, .int 0, .int 0, .ref ad3, .ref ad4, .int 0, .int 0, .int 0]))]) (va_A [(ad0, .inr (7, [.int 0, .int 0, .int (-1), .ref ad1, .ref ad2, .int 0, .int 0, .int 0, .int 0, .ref ad3, .ref ad4, .int 0, .int 0, .int 0]))] sz)) 0 0 (va_A [(ad0, .inr (7, [.int 0, .int 0, .int (-1), .ref ad1, .ref ad2, .int 0, .int 0, .int 0, .int 0, .ref ad3, .ref ad4, .int 0, .int 0, .int 0]))] sz) := by
  refine Met.ofW (cc := cX7_fail) (maxL := 2) (ret := (some .boolean)) (by decide) rfl ?_
  intro p e s m args below meth c s₁ B hml hv
  obtain ⟨rfl, hsz, hP, hK, hD0⟩ := hv
  have hx := B.exec
  have hb := B.bytes
  have hr := B.returns
  have hts := atoms_spec (ws := wsX7_fail) B.pre
  have hown : s.vm.findClass RX7 = some m.cls := findClass_of_methodNamed B.named
  have hlocks := B.notSynchronized
  subst hsz
  have hD := hD0.self (sz := s.heap.size)
  generalize hAe : va_A [(ad0, .inr (7, [.int 0, .int 0, .int (-1), .ref ad1, .ref ad2, .int 0, .int 0, .int 0, .int 0, .ref ad3, .ref ad4, .int 0, .int 0, .int 0]))] s.heap.size = A at hD ⊢
  have hA : ∀ q : Nat, s.heap.size ≤ q → A q := fun q h => by rw [← hAe]; exact Or.inr h
  have hS : va_S A s.heap s.heap [] := va_S.rf
  have hP : va_P (dC, dI) vwCl [(ad0, .inr (7, [.int 0, .int 0, .int (-1), .ref ad1, .ref ad2, .int 0, .int 0, .int 0, .int 0, .ref ad3, .ref ad4, .int 0, .int 0, .int 0]))] s.heap := hP
  have hl := lv_entry ([.ref ad0, .int 1]) (n := 2) (Nat.le_of_ble_eq_true rfl)
  rw [lg_entry_eq]
  generalize (lg_sl ([.ref ad0, .int 1]) ++ List.replicate (2 - (lg_sl ([.ref ad0, .int 1])).length) Slot.unset).toArray = ls at hl ⊢
  have hl : lv_has ls 2 [(0, .ref ad0), (1, .int 1)] := hl
  refine lv_aload_n hx hb dX7_fail_0 rfl (lv_at hl 0 rfl) ?_
  refine lv_iload_n hx hb dX7_fail_1 rfl (lv_at hl 1 rfl) ?_
  refine va_put (D := (dC, dI)) (ci := 7) (v := .int 1) (ty := .int) (C := RX7) (T := TX7) (N := 14) hx hb hts iw_X7_fail_X7 tyX7 tyX7_ok nmX7 hown hK hP hD hS 0 rfl rfl 1 (by decide) (hts _ kk_X7_fail_0) (fun _ h9 => h9) rfl (by decide +kernel) rfl rfl (Nat.le_of_ble_eq_true rfl) dX7_fail_2 (fun H locs hP hD hS => ?_)
  have hP : va_P (dC, dI) vwCl [(ad0, .inr (7, [.int 0, .int 1, .int (-1), .ref ad1, .ref ad2, .int 0, .int 0, .int 0, .int 0, .ref ad3, .ref ad4, .int 0, .int 0, .int 0]))] H := hP
  have hD : va_D A [(ad0, .inr (7, [.int 0, .int 1, .int (-1), .ref ad1, .ref ad2, .int 0, .int 0, .int 0, .int 0, .ref ad3, .ref ad4, .int 0, .int 0, .int 0]))] := hD
  refine lv_aload_n hx hb dX7_fail_5 rfl (lv_at hl 0 rfl) ?_
  refine lv_aload_n hx hb dX7_fail_6 rfl (lv_at hl 0 rfl) ?_
  refine va_get (D := (dC, dI)) (ci := 7) (v := .int 0) (C := RX7) (T := TX7) (N := 14) hx hb hts iw_X7_fail_X7 hown hK hP 0 rfl rfl 7 (by decide) (hts _ kk_X7_fail_1) (fun _ h9 => h9) rfl dX7_fail_7 ?_
  refine va_put (D := (dC, dI)) (ci := 7) (v := .int 0) (ty := .int) (C := RX7) (T := TX7) (N := 14) hx hb hts iw_X7_fail_X7 tyX7 tyX7_ok nmX7 hown hK hP hD hS 0 rfl rfl 2 (by decide) (hts _ kk_X7_fail_2) (fun _ h9 => h9) rfl (by decide +kernel) rfl rfl (Nat.le_of_ble_eq_true rfl) dX7_fail_10 (fun H locs hP hD hS => ?_)
  have hP : va_P (dC, dI) vwCl [(ad0, .inr (7, [.int 0, .int 1, .int 0, .ref ad1, .ref ad2, .int 0, .int 0, .int 0, .int 0, .ref ad3, .ref ad4, .int 0, .int 0, .int 0]))] H := hP
  have hD : va_D A [(ad0, .inr (7, [.int 0, .int 1, .int 0, .ref ad1, .ref ad2, .int 0, .int 0, .int 0, .int 0, .ref ad3, .ref ad4, .int 0, .int 0, .int 0]))] := hD
  refine lv_iconst (v := 0) hx hb dX7_fail_13 (by decide) ?_
  refine W.widen (k := 0) (n := 0) (by decide) (by decide) ?_
  have hP9 := hP.sub (ws' := [(ad0, .inr (7, [.int 0, .int 1, .int 0, .ref ad1, .ref ad2, .int 0, .int 0, .int 0, .int 0, .ref ad3, .ref ad4, .int 0, .int 0, .int 0]))]) [0] rfl
  have hD9 := hD.sub (ws' := [(ad0, .inr (7, [.int 0, .int 1, .int 0, .ref ad1, .ref ad2, .int 0, .int 0, .int 0, .int 0, .ref ad3, .ref ad4, .int 0, .int 0, .int 0]))]) [0] (by decide) rfl
  have hK9 := hK.sub (tys' := []) [] rfl
  exact W.zret (v := 0) hx hb hr rfl (fun t ht hW => ⟨⟨0, (), rfl, rfl, by rw [ht]; exact hP9, va_K.moved hW.alike hK9, hD9⟩, hS.F ht⟩) hS.2.2 dX7_fail_14

set_option maxHeartbeats 4000000 in
set_option maxRecDepth 100000 in
theorem ct_X7_readSigns (l : Launch) (dC : Nat → ClassId) (dI : Nat → Nat → Nat) (ad0 : Nat) (ad1 : Nat) (ad2 : Nat) (ad3 : Nat) (ad4 : Nat) (ad5 : Nat) (ad6 : Nat) (ad7 : Nat) (ad8 : Nat) (ad9 : Nat) (sz : Nat) : Met l yX7_readSigns wsX7_readSigns ({ frames := 1, cells := 0, slots := 0, locals := 22 }) (va_Pc [.ref ad0] (fun U => U.heap.size = sz ∧ va_P (dC, dI) vwCl [(ad0, .inr (7, [.int 0, .int 0, .int (-1), .ref ad1, .ref ad2, .int 0, .int 0, .int 0, .int 0, .ref ad3, .ref ad4, .int 0, .int 0, .int 0])), (ad1, .inr (3, [.int 0, .int 0, .int 10, .int 0, .int 0, .int 1, .ref ad5, .ref ad6, .ref ad7, .ref ad8, .ref ad9]))] U.heap ∧ va_K (dC, dI) vwCl [] U ∧ va_D (fun _ => True) [(ad0, .inr (7, [.int 0, .int 0, .int (-1), .ref ad1, .ref ad2, .int 0, .int 0, .int 0, .int 0, .ref ad3, .ref ad4, .int 0, .int 0, .int 0])), (ad1, .inr (3, [.int 0, .int 0, .int 10, .int 0, .int 0, .int 1, .ref ad5, .ref ad6, .ref ad7, .ref ad8, .ref ad9]))] ∧ vq_SR RX7 98 "sign" U)) (va_Qi (fun (r : Int32) (_ : Unit) => r = 0) (fun _ t => va_P (dC, dI) vwCl [(ad1, .inr (3, [.int 0, .int 0, .int 10, .int 0, .int 0, .int 1, .ref ad5, .ref ad6, .ref ad7, .ref ad8, .ref ad9])), (ad0, .inr (7, [.int 0, .int 1, .int 0, .ref ad1, .ref ad2, .int 0, .int 0, .int 0, .int 0, .ref ad3, .ref ad4, .int 0, .int 0, .int 0]))] t.heap ∧ va_K (dC, dI) vwCl [] t ∧ va_D (va_A [(ad0, .inr (7, [.int 0, .int 0, .int (-1), .ref ad1, .ref ad2, .int 0, .int 0, .int 0, .int 0, .ref ad3, .ref ad4, .int 0, .int 0, .int 0])), (ad1, .inr (3, [.int 0, .int 0, .int 10, .int 0, .int 0, .int 1, .ref ad5, .ref ad6, .ref ad7, .ref ad8, .ref ad9]))] sz) [(ad1, .inr (3, [.int 0, .int 0, .int 10, .int 0, .int 0, .int 1, .ref ad5, .ref ad6, .ref ad7, .ref ad8, .ref ad9])), (ad0, .inr (7, [.int 0, .int 1, .int 0, .ref ad1, .ref ad2, .int 0, .int 0, .int 0, .int 0, .ref ad3, .ref ad4, .int 0, .int 0, .int 0]))]) (va_A [(ad0, .inr (7, [.int 0, .int 0, .int (-1), .ref ad1, .ref ad2, .int 0, .int 0, .int 0, .int 0, .ref ad3, .ref ad4, .int 0, .int 0, .int 0])), (ad1, .inr (3, [.int 0, .int 0, .int 10, .int 0, .int 0, .int 1, .ref ad5, .ref ad6, .ref ad7, .ref ad8, .ref ad9]))] sz)) 0 0 (va_A [(ad0, .inr (7, [.int 0, .int 0, .int (-1), .ref ad1, .ref ad2, .int 0, .int 0, .int 0, .int 0, .ref ad3, .ref ad4, .int 0, .int 0, .int 0])), (ad1, .inr (3, [.int 0, .int 0, .int 10, .int 0, .int 0, .int 1, .ref ad5, .ref ad6, .ref ad7, .ref ad8, .ref ad9]))] sz) := by
  refine Met.ofW (cc := cX7_readSigns) (maxL := 1) (ret := (some .boolean)) (by decide) rfl ?_
  intro p e s m args below meth c s₁ B hml hv
  obtain ⟨rfl, hsz, hP, hK, hD0, hF_3⟩ := hv
  have hx := B.exec
  have hb := B.bytes
  have hr := B.returns
  have hts := atoms_spec (ws := wsX7_readSigns) B.pre
  have hown : s.vm.findClass RX7 = some m.cls := findClass_of_methodNamed B.named
  have hlocks := B.notSynchronized
  subst hsz
  have hD := hD0.self (sz := s.heap.size)
  generalize hAe : va_A [(ad0, .inr (7, [.int 0, .int 0, .int (-1), .ref ad1, .ref ad2, .int 0, .int 0, .int 0, .int 0, .ref ad3, .ref ad4, .int 0, .int 0, .int 0])), (ad1, .inr (3, [.int 0, .int 0, .int 10, .int 0, .int 0, .int 1, .ref ad5, .ref ad6, .ref ad7, .ref ad8, .ref ad9]))] s.heap.size = A at hD ⊢
  have hA : ∀ q : Nat, s.heap.size ≤ q → A q := fun q h => by rw [← hAe]; exact Or.inr h
  have hS : va_S A s.heap s.heap [] := va_S.rf
  have hP : va_P (dC, dI) vwCl [(ad0, .inr (7, [.int 0, .int 0, .int (-1), .ref ad1, .ref ad2, .int 0, .int 0, .int 0, .int 0, .ref ad3, .ref ad4, .int 0, .int 0, .int 0])), (ad1, .inr (3, [.int 0, .int 0, .int 10, .int 0, .int 0, .int 1, .ref ad5, .ref ad6, .ref ad7, .ref ad8, .ref ad9]))] s.heap := hP
  have hl := lv_entry ([.ref ad0]) (n := 1) (Nat.le_of_ble_eq_true rfl)
  rw [lg_entry_eq]
  generalize (lg_sl ([.ref ad0]) ++ List.replicate (1 - (lg_sl ([.ref ad0])).length) Slot.unset).toArray = ls at hl ⊢
  have hl : lv_has ls 1 [(0, .ref ad0)] := hl
  refine lv_aload_n hx hb dX7_readSigns_0 rfl (lv_at hl 0 rfl) ?_
  refine va_get (D := (dC, dI)) (ci := 7) (v := .ref ad1) (C := RX7) (T := TX7) (N := 14) hx hb hts iw_X7_readSigns_X7 hown hK hP 0 rfl rfl 3 (by decide) (hts _ kk_X7_readSigns_0) (fun _ h9 => h9) rfl dX7_readSigns_1 ?_
  refine va_get (D := (dC, dI)) (ci := 3) (v := .int 0) (C := RX3) (T := TX3) (N := 11) hx hb hts iw_X7_readSigns_X3 hown hK hP 1 rfl rfl 0 (by decide) (hts _ kk_X7_readSigns_1) (fun _ h9 => h9) rfl dX7_readSigns_4 ?_
  refine lv_iconst (v := 4) hx hb dX7_readSigns_7 (by decide) ?_
  refine lv_icmp_gt (tgt := 62) hx hb dX7_readSigns_8 (by decide) (fun cz => absurd cz (by decide)) (fun _ => ?_)
  refine lv_aload_n hx hb dX7_readSigns_11 rfl (lv_at hl 0 rfl) ?_
  obtain ⟨sts, hz⟩ := id hF_3
  refine va_ldcS hx hb hown hz dX7_readSigns_12 ?_
  have hPc := hP.sub (ws' := [(ad0, .inr (7, [.int 0, .int 0, .int (-1), .ref ad1, .ref ad2, .int 0, .int 0, .int 0, .int 0, .ref ad3, .ref ad4, .int 0, .int 0, .int 0]))]) [0] rfl
  have hDc := hD.sub (ws' := [(ad0, .inr (7, [.int 0, .int 0, .int (-1), .ref ad1, .ref ad2, .int 0, .int 0, .int 0, .int 0, .ref ad3, .ref ad4, .int 0, .int 0, .int 0]))]) [0] (by decide) rfl
  have hKc := hK.sub (tys' := []) [] rfl
  have hFc := va_free (wc := [(ad0, .inr (7, [.int 0, .int 0, .int (-1), .ref ad1, .ref ad2, .int 0, .int 0, .int 0, .int 0, .ref ad3, .ref ad4, .int 0, .int 0, .int 0]))]) hD hS hA [0] rfl
  refine va_calli (va_runV (As := [.ref sts]) (rest := []) ⟨hx, hb, hml, hown, hts⟩ (ct_X7_isWord l dC dI ad0 sts ad1 ad2 ad3 ad4 s.heap.size) (cwV 1 hts gX7_readSigns_X7_isWord rfl rfl rfl (by decide +kernel) ⟨Nat.le_of_ble_eq_true rfl, Nat.le_of_ble_eq_true rfl⟩) ⟨fun a U g mk q => by obtain ⟨q0, q1, qP, qK, qD⟩ := q; exact ⟨q0, q1, qP, va_K.moved (u := U) (U := U.calling g mk a) (Vm.Alike.refl U.vm) qK, qD⟩, va_recv hKc hPc (ci := 7) (q0 := 0) rfl rfl, fun U hU hW => ⟨rfl, by rw [hU], by rw [hU]; exact hPc, va_K.moved hW.alike hKc, hDc.weaken (fun _ _ _ _ => trivial)⟩⟩ rfl rfl hl.1 rfl (lv_room (Nat.le_of_ble_eq_true rfl)) dX7_readSigns_14 ⟨Nat.le_of_ble_eq_true rfl, Nat.le_of_ble_eq_true rfl⟩) hS (fun q _ h => hFc q h) hFc (fun r1 u t H1 locs ht hvm hw hB hz1 hk1 hS => ?_)
  obtain ⟨hP1, hK1, hD1⟩ := hB
  rw [ht] at hP1
  have hK1 := va_K.moved hvm.symm hK1
  obtain ⟨hP, hD⟩ := va_join (wr := [(ad1, .inr (3, [.int 0, .int 0, .int 10, .int 0, .int 0, .int 1, .ref ad5, .ref ad6, .ref ad7, .ref ad8, .ref ad9]))]) (w1 := [(ad0, .inr (7, [.int 0, .int 0, .int (-1), .ref ad1, .ref ad2, .int 0, .int 0, .int 0, .int 0, .ref ad3, .ref ad4, .int 0, .int 0, .int 0]))]) hP hD [0] [1] rfl rfl (by decide) (by decide) hk1 hFc hP1 hD1
  have hK := (hK.sub (tys' := []) [] rfl).app hK1
  clear hPc hDc hKc hFc hP1 hD1 hK1 hk1 hz1
  generalize H1 = H at hP hS ⊢
  have hP : va_P (dC, dI) vwCl [(ad1, .inr (3, [.int 0, .int 0, .int 10, .int 0, .int 0, .int 1, .ref ad5, .ref ad6, .ref ad7, .ref ad8, .ref ad9])), (ad0, .inr (7, [.int 0, .int 0, .int (-1), .ref ad1, .ref ad2, .int 0, .int 0, .int 0, .int 0, .ref ad3, .ref ad4, .int 0, .int 0, .int 0]))] H := hP
  have hD : va_D A [(ad1, .inr (3, [.int 0, .int 0, .int 10, .int 0, .int 0, .int 1, .ref ad5, .ref ad6, .ref ad7, .ref ad8, .ref ad9])), (ad0, .inr (7, [.int 0, .int 0, .int (-1), .ref ad1, .ref ad2, .int 0, .int 0, .int 0, .int 0, .ref ad3, .ref ad4, .int 0, .int 0, .int 0]))] := hD
  have hK : va_K (dC, dI) vwCl [] s := hK
  refine W.widen (k := 0) (n := 0) (by decide) (by decide) ?_
  have hw : r1 = 0 := hw
  subst hw
  refine lv_if_eq (tgt := 62) hx hb dX7_readSigns_17 (by decide) (fun _ => ?_) (fun cz => absurd cz (by decide))
  refine lv_aload_n hx hb dX7_readSigns_62 rfl (lv_at hl 0 rfl) ?_
  refine va_get (D := (dC, dI)) (ci := 7) (v := .ref ad1) (C := RX7) (T := TX7) (N := 14) hx hb hts iw_X7_readSigns_X7 hown hK hP 1 rfl rfl 3 (by decide) (hts _ kk_X7_readSigns_0) (fun _ h9 => h9) rfl dX7_readSigns_63 ?_
  refine va_get (D := (dC, dI)) (ci := 3) (v := .int 0) (C := RX3) (T := TX3) (N := 11) hx hb hts iw_X7_readSigns_X3 hown hK hP 0 rfl rfl 0 (by decide) (hts _ kk_X7_readSigns_1) (fun _ h9 => h9) rfl dX7_readSigns_66 ?_
  refine lv_iconst (v := 2) hx hb dX7_readSigns_69 (by decide) ?_
  refine lv_icmp_ge (tgt := 81) hx hb dX7_readSigns_70 (by decide) (fun cz => absurd cz (by decide)) (fun _ => ?_)
  refine lv_aload_n hx hb dX7_readSigns_73 rfl (lv_at hl 0 rfl) ?_
  refine lv_iconst (v := 1) hx hb dX7_readSigns_74 (by decide) ?_
  have hPc := hP.sub (ws' := [(ad0, .inr (7, [.int 0, .int 0, .int (-1), .ref ad1, .ref ad2, .int 0, .int 0, .int 0, .int 0, .ref ad3, .ref ad4, .int 0, .int 0, .int 0]))]) [1] rfl
  have hDc := hD.sub (ws' := [(ad0, .inr (7, [.int 0, .int 0, .int (-1), .ref ad1, .ref ad2, .int 0, .int 0, .int 0, .int 0, .ref ad3, .ref ad4, .int 0, .int 0, .int 0]))]) [1] (by decide) rfl
  have hKc := hK.sub (tys' := []) [] rfl
  have hFc := va_free (wc := [(ad0, .inr (7, [.int 0, .int 0, .int (-1), .ref ad1, .ref ad2, .int 0, .int 0, .int 0, .int 0, .ref ad3, .ref ad4, .int 0, .int 0, .int 0]))]) hD hS hA [1] rfl
  refine va_calli (va_runV (As := [.int 1]) (rest := []) ⟨hx, hb, hml, hown, hts⟩ (ct_X7_fail l dC dI ad0 ad1 ad2 ad3 ad4 H.size) (cwV 1 hts gX7_readSigns_X7_fail rfl rfl rfl (by decide +kernel) ⟨Nat.le_of_ble_eq_true rfl, Nat.le_of_ble_eq_true rfl⟩) ⟨fun a U g mk q => by obtain ⟨q0, q1, qP, qK, qD⟩ := q; exact ⟨q0, q1, qP, va_K.moved (u := U) (U := U.calling g mk a) (Vm.Alike.refl U.vm) qK, qD⟩, va_recv hKc hPc (ci := 7) (q0 := 0) rfl rfl, fun U hU hW => ⟨rfl, by rw [hU], by rw [hU]; exact hPc, va_K.moved hW.alike hKc, hDc.weaken (fun _ _ _ _ => trivial)⟩⟩ rfl rfl hl.1 rfl (lv_room (Nat.le_of_ble_eq_true rfl)) dX7_readSigns_75 ⟨Nat.le_of_ble_eq_true rfl, Nat.le_of_ble_eq_true rfl⟩) hS (fun q _ h => hFc q h) hFc (fun r2 u t H1 locs ht hvm hw hB hz1 hk1 hS => ?_)
  obtain ⟨hP1, hK1, hD1⟩ := hB
  rw [ht] at hP1
  have hK1 := va_K.moved hvm.symm hK1
  obtain ⟨hP, hD⟩ := va_join (wr := [(ad1, .inr (3, [.int 0, .int 0, .int 10, .int 0, .int 0, .int 1, .ref ad5, .ref ad6, .ref ad7, .ref ad8, .ref ad9]))]) (w1 := [(ad0, .inr (7, [.int 0, .int 1, .int 0, .ref ad1, .ref ad2, .int 0, .int 0, .int 0, .int 0, .ref ad3, .ref ad4, .int 0, .int 0, .int 0]))]) hP hD [1] [0] rfl rfl (by decide) (by decide) hk1 hFc hP1 hD1
  have hK := (hK.sub (tys' := []) [] rfl).app hK1
  clear hPc hDc hKc hFc hP1 hD1 hK1 hk1 hz1
  generalize H1 = H at hP hS ⊢
  have hP : va_P (dC, dI) vwCl [(ad1, .inr (3, [.int 0, .int 0, .int 10, .int 0, .int 0, .int 1, .ref ad5, .ref ad6, .ref ad7, .ref ad8, .ref ad9])), (ad0, .inr (7, [.int 0, .int 1, .int 0, .ref ad1, .ref ad2, .int 0, .int 0, .int 0, .int 0, .ref ad3, .ref ad4, .int 0, .int 0, .int 0]))] H := hP
  have hD : va_D A [(ad1, .inr (3, [.int 0, .int 0, .int 10, .int 0, .int 0, .int 1, .ref ad5, .ref ad6, .ref ad7, .ref ad8, .ref ad9])), (ad0, .inr (7, [.int 0, .int 1, .int 0, .ref ad1, .ref ad2, .int 0, .int 0, .int 0, .int 0, .ref ad3, .ref ad4, .int 0, .int 0, .int 0]))] := hD
  have hK : va_K (dC, dI) vwCl [] s := hK
  refine W.widen (k := 0) (n := 0) (by decide) (by decide) ?_
  have hw : r2 = 0 := hw
  subst hw
  refine lv_if_eq (tgt := 85) hx hb dX7_readSigns_78 (by decide) (fun _ => ?_) (fun cz => absurd cz (by decide))
  refine lv_iconst (v := 0) hx hb dX7_readSigns_85 (by decide) ?_
  refine W.widen (k := 0) (n := 0) (by decide) (by decide) ?_
  have hP9 := hP.sub (ws' := [(ad1, .inr (3, [.int 0, .int 0, .int 10, .int 0, .int 0, .int 1, .ref ad5, .ref ad6, .ref ad7, .ref ad8, .ref ad9])), (ad0, .inr (7, [.int 0, .int 1, .int 0, .ref ad1, .ref ad2, .int 0, .int 0, .int 0, .int 0, .ref ad3, .ref ad4, .int 0, .int 0, .int 0]))]) [0, 1] rfl
  have hD9 := hD.sub (ws' := [(ad1, .inr (3, [.int 0, .int 0, .int 10, .int 0, .int 0, .int 1, .ref ad5, .ref ad6, .ref ad7, .ref ad8, .ref ad9])), (ad0, .inr (7, [.int 0, .int 1, .int 0, .ref ad1, .ref ad2, .int 0, .int 0, .int 0, .int 0, .ref ad3, .ref ad4, .int 0, .int 0, .int 0]))]) [0, 1] (by decide) rfl
  have hK9 := hK.sub (tys' := []) [] rfl
  exact W.zret (v := 0) hx hb hr rfl (fun t ht hW => ⟨⟨0, (), rfl, rfl, by rw [ht]; exact hP9, va_K.moved hW.alike hK9, hD9⟩, hS.F ht⟩) hS.2.2 dX7_readSigns_86

set_option maxHeartbeats 4000000 in
set_option maxRecDepth 100000 in
theorem ct_X7_readText (l : Launch) (dC : Nat → ClassId) (dI : Nat → Nat → Nat) (ad0 : Nat) (ad1 : Nat) (ad2 : Nat) (ad3 : Nat) (ad4 : Nat) (ad5 : Nat) (ad6 : Nat) (ad7 : Nat) (ad8 : Nat) (ad9 : Nat) (ck0 : ClassId) (sz : Nat) : Met l yX7_readText wsX7_readText ({ frames := 2, cells := 0, slots := 0, locals := 42 }) (va_Pc [.ref ad0] (fun U => U.heap.size = sz ∧ va_P (dC, dI) vwCl [(ad0, .inr (7, [.int 0, .int 0, .int (-1), .ref ad1, .ref ad2, .int 0, .int 0, .int 0, .int 0, .ref ad3, .ref ad4, .int 0, .int 0, .int 0])), (ad1, .inr (3, [.int 0, .int 0, .int 10, .int 0, .int 0, .int 1, .ref ad5, .ref ad6, .ref ad7, .ref ad8, .ref ad9])), (ad8, .inl (ck0, 3, .inl (lf [1, 0, 0])))] U.heap ∧ va_K (dC, dI) vwCl [(ck0, .int)] U ∧ va_D (fun _ => True) [(ad0, .inr (7, [.int 0, .int 0, .int (-1), .ref ad1, .ref ad2, .int 0, .int 0, .int 0, .int 0, .ref ad3, .ref ad4, .int 0, .int 0, .int 0])), (ad1, .inr (3, [.int 0, .int 0, .int 10, .int 0, .int 0, .int 1, .ref ad5, .ref ad6, .ref ad7, .ref ad8, .ref ad9])), (ad8, .inl (ck0, 3, .inl (lf [1, 0, 0])))] ∧ vq_SR RX7 80 "whole" U ∧ vq_SR RX7 98 "sign" U)) (va_Qi (fun (r : Int32) (_ : Unit) => r = 0) (fun _ t => va_P (dC, dI) vwCl [(ad8, .inl (ck0, 3, .inl (lf [1, 0, 0]))), (ad1, .inr (3, [.int 0, .int 0, .int 10, .int 0, .int 0, .int 1, .ref ad5, .ref ad6, .ref ad7, .ref ad8, .ref ad9])), (ad0, .inr (7, [.int 0, .int 1, .int 0, .ref ad1, .ref ad2, .int 0, .int 0, .int 0, .int 0, .ref ad3, .ref ad4, .int 0, .int 0, .int 0]))] t.heap ∧ va_K (dC, dI) vwCl [(ck0, .int)] t ∧ va_D (va_A [(ad0, .inr (7, [.int 0, .int 0, .int (-1), .ref ad1, .ref ad2, .int 0, .int 0, .int 0, .int 0, .ref ad3, .ref ad4, .int 0, .int 0, .int 0])), (ad1, .inr (3, [.int 0, .int 0, .int 10, .int 0, .int 0, .int 1, .ref ad5, .ref ad6, .ref ad7, .ref ad8, .ref ad9])), (ad8, .inl (ck0, 3, .inl (lf [1, 0, 0])))] sz) [(ad8, .inl (ck0, 3, .inl (lf [1, 0, 0]))), (ad1, .inr (3, [.int 0, .int 0, .int 10, .int 0, .int 0, .int 1, .ref ad5, .ref ad6, .ref ad7, .ref ad8, .ref ad9])), (ad0, .inr (7, [.int 0, .int 1, .int 0, .ref ad1, .ref ad2, .int 0, .int 0, .int 0, .int 0, .ref ad3, .ref ad4, .int 0, .int 0, .int 0]))]) (va_A [(ad0, .inr (7, [.int 0, .int 0, .int (-1), .ref ad1, .ref ad2, .int 0, .int 0, .int 0, .int 0, .ref ad3, .ref ad4, .int 0, .int 0, .int 0])), (ad1, .inr (3, [.int 0, .int 0, .int 10, .int 0, .int 0, .int 1, .ref ad5, .ref ad6, .ref ad7, .ref ad8, .ref ad9])), (ad8, .inl (ck0, 3, .inl (lf [1, 0, 0])))] sz)) 0 0 (va_A [(ad0, .inr (7, [.int 0, .int 0, .int (-1), .ref ad1, .ref ad2, .int 0, .int 0, .int 0, .int 0, .ref ad3, .ref ad4, .int 0, .int 0, .int 0])), (ad1, .inr (3, [.int 0, .int 0, .int 10, .int 0, .int 0, .int 1, .ref ad5, .ref ad6, .ref ad7, .ref ad8, .ref ad9])), (ad8, .inl (ck0, 3, .inl (lf [1, 0, 0])))] sz) := by
  refine Met.ofW (cc := cX7_readText) (maxL := 1) (ret := (some .boolean)) (by decide) rfl ?_
  intro p e s m args below meth c s₁ B hml hv
  obtain ⟨rfl, hsz, hP, hK, hD0, hF_2, hF_3⟩ := hv
  have hx := B.exec
  have hb := B.bytes
  have hr := B.returns
  have hts := atoms_spec (ws := wsX7_readText) B.pre
  have hown : s.vm.findClass RX7 = some m.cls := findClass_of_methodNamed B.named
  have hlocks := B.notSynchronized
  subst hsz
  have hD := hD0.self (sz := s.heap.size)
  generalize hAe : va_A [(ad0, .inr (7, [.int 0, .int 0, .int (-1), .ref ad1, .ref ad2, .int 0, .int 0, .int 0, .int 0, .ref ad3, .ref ad4, .int 0, .int 0, .int 0])), (ad1, .inr (3, [.int 0, .int 0, .int 10, .int 0, .int 0, .int 1, .ref ad5, .ref ad6, .ref ad7, .ref ad8, .ref ad9])), (ad8, .inl (ck0, 3, .inl (lf [1, 0, 0])))] s.heap.size = A at hD ⊢
  have hA : ∀ q : Nat, s.heap.size ≤ q → A q := fun q h => by rw [← hAe]; exact Or.inr h
  have hS : va_S A s.heap s.heap [] := va_S.rf
  have hP : va_P (dC, dI) vwCl [(ad0, .inr (7, [.int 0, .int 0, .int (-1), .ref ad1, .ref ad2, .int 0, .int 0, .int 0, .int 0, .ref ad3, .ref ad4, .int 0, .int 0, .int 0])), (ad1, .inr (3, [.int 0, .int 0, .int 10, .int 0, .int 0, .int 1, .ref ad5, .ref ad6, .ref ad7, .ref ad8, .ref ad9])), (ad8, .inl (ck0, 3, .inl (lf [1, 0, 0])))] s.heap := hP
  have hl := lv_entry ([.ref ad0]) (n := 1) (Nat.le_of_ble_eq_true rfl)
  rw [lg_entry_eq]
  generalize (lg_sl ([.ref ad0]) ++ List.replicate (1 - (lg_sl ([.ref ad0])).length) Slot.unset).toArray = ls at hl ⊢
  have hl : lv_has ls 1 [(0, .ref ad0)] := hl
  refine lv_aload_n hx hb dX7_readText_0 rfl (lv_at hl 0 rfl) ?_
  refine lv_iconst (v := 0) hx hb dX7_readText_1 (by decide) ?_
  refine va_put (D := (dC, dI)) (ci := 7) (v := .int 0) (ty := .int) (C := RX7) (T := TX7) (N := 14) hx hb hts iw_X7_readText_X7 tyX7 tyX7_ok nmX7 hown hK hP hD hS 0 rfl rfl 5 (by decide) (hts _ kk_X7_readText_0) (fun _ h9 => h9) rfl (by decide +kernel) rfl rfl (Nat.le_of_ble_eq_true rfl) dX7_readText_2 (fun H locs hP hD hS => ?_)
  have hP : va_P (dC, dI) vwCl [(ad0, .inr (7, [.int 0, .int 0, .int (-1), .ref ad1, .ref ad2, .int 0, .int 0, .int 0, .int 0, .ref ad3, .ref ad4, .int 0, .int 0, .int 0])), (ad1, .inr (3, [.int 0, .int 0, .int 10, .int 0, .int 0, .int 1, .ref ad5, .ref ad6, .ref ad7, .ref ad8, .ref ad9])), (ad8, .inl (ck0, 3, .inl (lf [1, 0, 0])))] H := hP
  have hD : va_D A [(ad0, .inr (7, [.int 0, .int 0, .int (-1), .ref ad1, .ref ad2, .int 0, .int 0, .int 0, .int 0, .ref ad3, .ref ad4, .int 0, .int 0, .int 0])), (ad1, .inr (3, [.int 0, .int 0, .int 10, .int 0, .int 0, .int 1, .ref ad5, .ref ad6, .ref ad7, .ref ad8, .ref ad9])), (ad8, .inl (ck0, 3, .inl (lf [1, 0, 0])))] := hD
  refine lv_aload_n hx hb dX7_readText_5 rfl (lv_at hl 0 rfl) ?_
  refine va_get (D := (dC, dI)) (ci := 7) (v := .ref ad1) (C := RX7) (T := TX7) (N := 14) hx hb hts iw_X7_readText_X7 hown hK hP 0 rfl rfl 3 (by decide) (hts _ kk_X7_readText_1) (fun _ h9 => h9) rfl dX7_readText_6 ?_
  have hPc := hP.sub (ws' := [(ad1, .inr (3, [.int 0, .int 0, .int 10, .int 0, .int 0, .int 1, .ref ad5, .ref ad6, .ref ad7, .ref ad8, .ref ad9])), (ad8, .inl (ck0, 3, .inl (lf [1, 0, 0])))]) [1, 2] rfl
  have hDc := hD.sub (ws' := [(ad1, .inr (3, [.int 0, .int 0, .int 10, .int 0, .int 0, .int 1, .ref ad5, .ref ad6, .ref ad7, .ref ad8, .ref ad9])), (ad8, .inl (ck0, 3, .inl (lf [1, 0, 0])))]) [1, 2] (by decide) rfl
  have hKc := hK.sub (tys' := [(ck0, .int)]) [0] rfl
  have hFc := va_free (wc := [(ad1, .inr (3, [.int 0, .int 0, .int 10, .int 0, .int 0, .int 1, .ref ad5, .ref ad6, .ref ad7, .ref ad8, .ref ad9])), (ad8, .inl (ck0, 3, .inl (lf [1, 0, 0])))]) hD hS hA [1, 2] rfl
  refine va_callv (va_runV (As := []) (rest := []) ⟨hx, hb, hml, hown, hts⟩ (ct_X3_clear_v2 l dC dI ad1 ad5 ad6 ad7 ad8 ad9 ck0 H.size) (cwV 0 hts gX7_readText_X3_clear rfl rfl rfl (by decide +kernel) ⟨Nat.le_of_ble_eq_true rfl, Nat.le_of_ble_eq_true rfl⟩) ⟨fun a U g mk q => by obtain ⟨q0, q1, qP, qK, qD⟩ := q; exact ⟨q0, q1, qP, va_K.moved (u := U) (U := U.calling g mk a) (Vm.Alike.refl U.vm) qK, qD⟩, va_recv hKc hPc (ci := 3) (q0 := 0) rfl rfl, fun U hU hW => ⟨rfl, by rw [hU], by rw [hU]; exact hPc, va_K.moved hW.alike hKc, hDc.weaken (fun _ _ _ _ => trivial)⟩⟩ rfl rfl hl.1 rfl (lv_room (Nat.le_of_ble_eq_true rfl)) dX7_readText_9 ⟨Nat.le_of_ble_eq_true rfl, Nat.le_of_ble_eq_true rfl⟩) hS (fun q _ h => hFc q h) hFc (fun u t H1 locs ht hvm hw hB hz1 hk1 hS => ?_)
  obtain ⟨hP1, hK1, hD1⟩ := hB
  rw [ht] at hP1
  have hK1 := va_K.moved hvm.symm hK1
  obtain ⟨hP, hD⟩ := va_join (wr := [(ad0, .inr (7, [.int 0, .int 0, .int (-1), .ref ad1, .ref ad2, .int 0, .int 0, .int 0, .int 0, .ref ad3, .ref ad4, .int 0, .int 0, .int 0]))]) (w1 := [(ad1, .inr (3, [.int 0, .int 0, .int 10, .int 0, .int 0, .int 1, .ref ad5, .ref ad6, .ref ad7, .ref ad8, .ref ad9])), (ad8, .inl (ck0, 3, .inl (lf [1, 0, 0])))]) hP hD [1, 2] [0] rfl rfl (by decide) (by decide) hk1 hFc hP1 hD1
  have hK := (hK.sub (tys' := []) [] rfl).app hK1
  clear hPc hDc hKc hFc hP1 hD1 hK1 hk1 hz1
  generalize H1 = H at hP hS ⊢
  have hP : va_P (dC, dI) vwCl [(ad0, .inr (7, [.int 0, .int 0, .int (-1), .ref ad1, .ref ad2, .int 0, .int 0, .int 0, .int 0, .ref ad3, .ref ad4, .int 0, .int 0, .int 0])), (ad1, .inr (3, [.int 0, .int 0, .int 10, .int 0, .int 0, .int 1, .ref ad5, .ref ad6, .ref ad7, .ref ad8, .ref ad9])), (ad8, .inl (ck0, 3, .inl (lf [1, 0, 0])))] H := hP
  have hD : va_D A [(ad0, .inr (7, [.int 0, .int 0, .int (-1), .ref ad1, .ref ad2, .int 0, .int 0, .int 0, .int 0, .ref ad3, .ref ad4, .int 0, .int 0, .int 0])), (ad1, .inr (3, [.int 0, .int 0, .int 10, .int 0, .int 0, .int 1, .ref ad5, .ref ad6, .ref ad7, .ref ad8, .ref ad9])), (ad8, .inl (ck0, 3, .inl (lf [1, 0, 0])))] := hD
  have hK : va_K (dC, dI) vwCl [(ck0, .int)] s := hK
  refine W.widen (k := 0) (n := 0) (by decide) (by decide) ?_
  refine lv_aload_n hx hb dX7_readText_12 rfl (lv_at hl 0 rfl) ?_
  refine lv_iconst (v := 0) hx hb dX7_readText_13 (by decide) ?_
  refine va_put (D := (dC, dI)) (ci := 7) (v := .int 0) (ty := .boolean) (C := RX7) (T := TX7) (N := 14) hx hb hts iw_X7_readText_X7 tyX7 tyX7_ok nmX7 hown hK hP hD hS 0 rfl rfl 11 (by decide) (hts _ kk_X7_readText_2) (fun _ h9 => h9) rfl (by decide +kernel) rfl rfl (Nat.le_of_ble_eq_true rfl) dX7_readText_14 (fun H locs hP hD hS => ?_)
  have hP : va_P (dC, dI) vwCl [(ad0, .inr (7, [.int 0, .int 0, .int (-1), .ref ad1, .ref ad2, .int 0, .int 0, .int 0, .int 0, .ref ad3, .ref ad4, .int 0, .int 0, .int 0])), (ad1, .inr (3, [.int 0, .int 0, .int 10, .int 0, .int 0, .int 1, .ref ad5, .ref ad6, .ref ad7, .ref ad8, .ref ad9])), (ad8, .inl (ck0, 3, .inl (lf [1, 0, 0])))] H := hP
  have hD : va_D A [(ad0, .inr (7, [.int 0, .int 0, .int (-1), .ref ad1, .ref ad2, .int 0, .int 0, .int 0, .int 0, .ref ad3, .ref ad4, .int 0, .int 0, .int 0])), (ad1, .inr (3, [.int 0, .int 0, .int 10, .int 0, .int 0, .int 1, .ref ad5, .ref ad6, .ref ad7, .ref ad8, .ref ad9])), (ad8, .inl (ck0, 3, .inl (lf [1, 0, 0])))] := hD
  refine lv_aload_n hx hb dX7_readText_17 rfl (lv_at hl 0 rfl) ?_
  refine lv_iconst (v := 0) hx hb dX7_readText_18 (by decide) ?_
  refine va_put (D := (dC, dI)) (ci := 7) (v := .int 0) (ty := .boolean) (C := RX7) (T := TX7) (N := 14) hx hb hts iw_X7_readText_X7 tyX7 tyX7_ok nmX7 hown hK hP hD hS 0 rfl rfl 12 (by decide) (hts _ kk_X7_readText_3) (fun _ h9 => h9) rfl (by decide +kernel) rfl rfl (Nat.le_of_ble_eq_true rfl) dX7_readText_19 (fun H locs hP hD hS => ?_)
  have hP : va_P (dC, dI) vwCl [(ad0, .inr (7, [.int 0, .int 0, .int (-1), .ref ad1, .ref ad2, .int 0, .int 0, .int 0, .int 0, .ref ad3, .ref ad4, .int 0, .int 0, .int 0])), (ad1, .inr (3, [.int 0, .int 0, .int 10, .int 0, .int 0, .int 1, .ref ad5, .ref ad6, .ref ad7, .ref ad8, .ref ad9])), (ad8, .inl (ck0, 3, .inl (lf [1, 0, 0])))] H := hP
  have hD : va_D A [(ad0, .inr (7, [.int 0, .int 0, .int (-1), .ref ad1, .ref ad2, .int 0, .int 0, .int 0, .int 0, .ref ad3, .ref ad4, .int 0, .int 0, .int 0])), (ad1, .inr (3, [.int 0, .int 0, .int 10, .int 0, .int 0, .int 1, .ref ad5, .ref ad6, .ref ad7, .ref ad8, .ref ad9])), (ad8, .inl (ck0, 3, .inl (lf [1, 0, 0])))] := hD
  refine lv_aload_n hx hb dX7_readText_22 rfl (lv_at hl 0 rfl) ?_
  refine lv_iconst (v := 0) hx hb dX7_readText_23 (by decide) ?_
  refine va_put (D := (dC, dI)) (ci := 7) (v := .int 0) (ty := .boolean) (C := RX7) (T := TX7) (N := 14) hx hb hts iw_X7_readText_X7 tyX7 tyX7_ok nmX7 hown hK hP hD hS 0 rfl rfl 13 (by decide) (hts _ kk_X7_readText_4) (fun _ h9 => h9) rfl (by decide +kernel) rfl rfl (Nat.le_of_ble_eq_true rfl) dX7_readText_24 (fun H locs hP hD hS => ?_)
  have hP : va_P (dC, dI) vwCl [(ad0, .inr (7, [.int 0, .int 0, .int (-1), .ref ad1, .ref ad2, .int 0, .int 0, .int 0, .int 0, .ref ad3, .ref ad4, .int 0, .int 0, .int 0])), (ad1, .inr (3, [.int 0, .int 0, .int 10, .int 0, .int 0, .int 1, .ref ad5, .ref ad6, .ref ad7, .ref ad8, .ref ad9])), (ad8, .inl (ck0, 3, .inl (lf [1, 0, 0])))] H := hP
  have hD : va_D A [(ad0, .inr (7, [.int 0, .int 0, .int (-1), .ref ad1, .ref ad2, .int 0, .int 0, .int 0, .int 0, .ref ad3, .ref ad4, .int 0, .int 0, .int 0])), (ad1, .inr (3, [.int 0, .int 0, .int 10, .int 0, .int 0, .int 1, .ref ad5, .ref ad6, .ref ad7, .ref ad8, .ref ad9])), (ad8, .inl (ck0, 3, .inl (lf [1, 0, 0])))] := hD
  refine lv_aload_n hx hb dX7_readText_27 rfl (lv_at hl 0 rfl) ?_
  refine lv_iconst (v := 0) hx hb dX7_readText_28 (by decide) ?_
  refine va_put (D := (dC, dI)) (ci := 7) (v := .int 0) (ty := .int) (C := RX7) (T := TX7) (N := 14) hx hb hts iw_X7_readText_X7 tyX7 tyX7_ok nmX7 hown hK hP hD hS 0 rfl rfl 1 (by decide) (hts _ kk_X7_readText_5) (fun _ h9 => h9) rfl (by decide +kernel) rfl rfl (Nat.le_of_ble_eq_true rfl) dX7_readText_29 (fun H locs hP hD hS => ?_)
  have hP : va_P (dC, dI) vwCl [(ad0, .inr (7, [.int 0, .int 0, .int (-1), .ref ad1, .ref ad2, .int 0, .int 0, .int 0, .int 0, .ref ad3, .ref ad4, .int 0, .int 0, .int 0])), (ad1, .inr (3, [.int 0, .int 0, .int 10, .int 0, .int 0, .int 1, .ref ad5, .ref ad6, .ref ad7, .ref ad8, .ref ad9])), (ad8, .inl (ck0, 3, .inl (lf [1, 0, 0])))] H := hP
  have hD : va_D A [(ad0, .inr (7, [.int 0, .int 0, .int (-1), .ref ad1, .ref ad2, .int 0, .int 0, .int 0, .int 0, .ref ad3, .ref ad4, .int 0, .int 0, .int 0])), (ad1, .inr (3, [.int 0, .int 0, .int 10, .int 0, .int 0, .int 1, .ref ad5, .ref ad6, .ref ad7, .ref ad8, .ref ad9])), (ad8, .inl (ck0, 3, .inl (lf [1, 0, 0])))] := hD
  refine lv_aload_n hx hb dX7_readText_32 rfl (lv_at hl 0 rfl) ?_
  refine lv_iconst (v := (-1)) hx hb dX7_readText_33 (by decide) ?_
  refine va_put (D := (dC, dI)) (ci := 7) (v := .int (-1)) (ty := .int) (C := RX7) (T := TX7) (N := 14) hx hb hts iw_X7_readText_X7 tyX7 tyX7_ok nmX7 hown hK hP hD hS 0 rfl rfl 2 (by decide) (hts _ kk_X7_readText_6) (fun _ h9 => h9) rfl (by decide +kernel) rfl rfl (Nat.le_of_ble_eq_true rfl) dX7_readText_34 (fun H locs hP hD hS => ?_)
  have hP : va_P (dC, dI) vwCl [(ad0, .inr (7, [.int 0, .int 0, .int (-1), .ref ad1, .ref ad2, .int 0, .int 0, .int 0, .int 0, .ref ad3, .ref ad4, .int 0, .int 0, .int 0])), (ad1, .inr (3, [.int 0, .int 0, .int 10, .int 0, .int 0, .int 1, .ref ad5, .ref ad6, .ref ad7, .ref ad8, .ref ad9])), (ad8, .inl (ck0, 3, .inl (lf [1, 0, 0])))] H := hP
  have hD : va_D A [(ad0, .inr (7, [.int 0, .int 0, .int (-1), .ref ad1, .ref ad2, .int 0, .int 0, .int 0, .int 0, .ref ad3, .ref ad4, .int 0, .int 0, .int 0])), (ad1, .inr (3, [.int 0, .int 0, .int 10, .int 0, .int 0, .int 1, .ref ad5, .ref ad6, .ref ad7, .ref ad8, .ref ad9])), (ad8, .inl (ck0, 3, .inl (lf [1, 0, 0])))] := hD
  refine lv_aload_n hx hb dX7_readText_37 rfl (lv_at hl 0 rfl) ?_
  have hPc := hP.sub (ws' := [(ad0, .inr (7, [.int 0, .int 0, .int (-1), .ref ad1, .ref ad2, .int 0, .int 0, .int 0, .int 0, .ref ad3, .ref ad4, .int 0, .int 0, .int 0]))]) [0] rfl
  have hDc := hD.sub (ws' := [(ad0, .inr (7, [.int 0, .int 0, .int (-1), .ref ad1, .ref ad2, .int 0, .int 0, .int 0, .int 0, .ref ad3, .ref ad4, .int 0, .int 0, .int 0]))]) [0] (by decide) rfl
  have hKc := hK.sub (tys' := []) [] rfl
  have hFc := va_free (wc := [(ad0, .inr (7, [.int 0, .int 0, .int (-1), .ref ad1, .ref ad2, .int 0, .int 0, .int 0, .int 0, .ref ad3, .ref ad4, .int 0, .int 0, .int 0]))]) hD hS hA [0] rfl
  refine va_callv (va_runV (As := []) (rest := []) ⟨hx, hb, hml, hown, hts⟩ (ct_X7_advance l dC dI ad0 ad1 ad2 ad3 ad4 H.size) (cwV 0 hts gX7_readText_X7_advance rfl rfl rfl (by decide +kernel) ⟨Nat.le_of_ble_eq_true rfl, Nat.le_of_ble_eq_true rfl⟩) ⟨fun a U g mk q => by obtain ⟨q0, q1, qP, qK, qD⟩ := q; exact ⟨q0, q1, qP, va_K.moved (u := U) (U := U.calling g mk a) (Vm.Alike.refl U.vm) qK, qD⟩, va_recv hKc hPc (ci := 7) (q0 := 0) rfl rfl, fun U hU hW => ⟨rfl, by rw [hU], by rw [hU]; exact hPc, va_K.moved hW.alike hKc, hDc.weaken (fun _ _ _ _ => trivial)⟩⟩ rfl rfl hl.1 rfl (lv_room (Nat.le_of_ble_eq_true rfl)) dX7_readText_38 ⟨Nat.le_of_ble_eq_true rfl, Nat.le_of_ble_eq_true rfl⟩) hS (fun q _ h => hFc q h) hFc (fun u t H1 locs ht hvm hw hB hz1 hk1 hS => ?_)
  obtain ⟨hP1, hK1, hD1⟩ := hB
  rw [ht] at hP1
  have hK1 := va_K.moved hvm.symm hK1
  obtain ⟨hP, hD⟩ := va_join (wr := [(ad1, .inr (3, [.int 0, .int 0, .int 10, .int 0, .int 0, .int 1, .ref ad5, .ref ad6, .ref ad7, .ref ad8, .ref ad9])), (ad8, .inl (ck0, 3, .inl (lf [1, 0, 0])))]) (w1 := [(ad0, .inr (7, [.int 0, .int 0, .int (-1), .ref ad1, .ref ad2, .int 0, .int 0, .int 0, .int 0, .ref ad3, .ref ad4, .int 0, .int 0, .int 0]))]) hP hD [0] [1, 2] rfl rfl (by decide) (by decide) hk1 hFc hP1 hD1
  have hK := (hK.sub (tys' := [(ck0, .int)]) [0] rfl).app hK1
  clear hPc hDc hKc hFc hP1 hD1 hK1 hk1 hz1
  generalize H1 = H at hP hS ⊢
  have hP : va_P (dC, dI) vwCl [(ad1, .inr (3, [.int 0, .int 0, .int 10, .int 0, .int 0, .int 1, .ref ad5, .ref ad6, .ref ad7, .ref ad8, .ref ad9])), (ad8, .inl (ck0, 3, .inl (lf [1, 0, 0]))), (ad0, .inr (7, [.int 0, .int 0, .int (-1), .ref ad1, .ref ad2, .int 0, .int 0, .int 0, .int 0, .ref ad3, .ref ad4, .int 0, .int 0, .int 0]))] H := hP
  have hD : va_D A [(ad1, .inr (3, [.int 0, .int 0, .int 10, .int 0, .int 0, .int 1, .ref ad5, .ref ad6, .ref ad7, .ref ad8, .ref ad9])), (ad8, .inl (ck0, 3, .inl (lf [1, 0, 0]))), (ad0, .inr (7, [.int 0, .int 0, .int (-1), .ref ad1, .ref ad2, .int 0, .int 0, .int 0, .int 0, .ref ad3, .ref ad4, .int 0, .int 0, .int 0]))] := hD
  have hK : va_K (dC, dI) vwCl [(ck0, .int)] s := hK
  refine W.widen (k := 0) (n := 0) (by decide) (by decide) ?_
  refine lv_aload_n hx hb dX7_readText_41 rfl (lv_at hl 0 rfl) ?_
  have hPc := hP.sub (ws' := [(ad0, .inr (7, [.int 0, .int 0, .int (-1), .ref ad1, .ref ad2, .int 0, .int 0, .int 0, .int 0, .ref ad3, .ref ad4, .int 0, .int 0, .int 0]))]) [2] rfl
  have hDc := hD.sub (ws' := [(ad0, .inr (7, [.int 0, .int 0, .int (-1), .ref ad1, .ref ad2, .int 0, .int 0, .int 0, .int 0, .ref ad3, .ref ad4, .int 0, .int 0, .int 0]))]) [2] (by decide) rfl
  have hKc := hK.sub (tys' := []) [] rfl
  have hFc := va_free (wc := [(ad0, .inr (7, [.int 0, .int 0, .int (-1), .ref ad1, .ref ad2, .int 0, .int 0, .int 0, .int 0, .ref ad3, .ref ad4, .int 0, .int 0, .int 0]))]) hD hS hA [2] rfl
  refine va_calli (va_runV (As := []) (rest := []) ⟨hx, hb, hml, hown, hts⟩ (ct_X7_readWhole l dC dI ad0 ad1 ad2 ad3 ad4 H.size) (cwV 0 hts gX7_readText_X7_readWhole rfl rfl rfl (by decide +kernel) ⟨Nat.le_of_ble_eq_true rfl, Nat.le_of_ble_eq_true rfl⟩) ⟨fun a U g mk q => by obtain ⟨q0, q1, qP, qK, qD, qF0⟩ := q; exact ⟨q0, q1, qP, va_K.moved (u := U) (U := U.calling g mk a) (Vm.Alike.refl U.vm) qK, qD, vq_SR.same (u := U) (U := U.calling g mk a) rfl qF0⟩, va_recv hKc hPc (ci := 7) (q0 := 0) rfl rfl, fun U hU hW => ⟨rfl, by rw [hU], by rw [hU]; exact hPc, va_K.moved hW.alike hKc, hDc.weaken (fun _ _ _ _ => trivial), vq_SR.warm hW hF_2⟩⟩ rfl rfl hl.1 rfl (lv_room (Nat.le_of_ble_eq_true rfl)) dX7_readText_42 ⟨Nat.le_of_ble_eq_true rfl, Nat.le_of_ble_eq_true rfl⟩) hS (fun q _ h => hFc q h) hFc (fun r3 u t H1 locs ht hvm hw hB hz1 hk1 hS => ?_)
  obtain ⟨hP1, hK1, hD1⟩ := hB
  rw [ht] at hP1
  have hK1 := va_K.moved hvm.symm hK1
  obtain ⟨hP, hD⟩ := va_join (wr := [(ad1, .inr (3, [.int 0, .int 0, .int 10, .int 0, .int 0, .int 1, .ref ad5, .ref ad6, .ref ad7, .ref ad8, .ref ad9])), (ad8, .inl (ck0, 3, .inl (lf [1, 0, 0])))]) (w1 := [(ad0, .inr (7, [.int 0, .int 0, .int (-1), .ref ad1, .ref ad2, .int 0, .int 0, .int 0, .int 0, .ref ad3, .ref ad4, .int 0, .int 0, .int 0]))]) hP hD [2] [0, 1] rfl rfl (by decide) (by decide) hk1 hFc hP1 hD1
  have hK := (hK.sub (tys' := [(ck0, .int)]) [0] rfl).app hK1
  clear hPc hDc hKc hFc hP1 hD1 hK1 hk1 hz1
  generalize H1 = H at hP hS ⊢
  have hP : va_P (dC, dI) vwCl [(ad1, .inr (3, [.int 0, .int 0, .int 10, .int 0, .int 0, .int 1, .ref ad5, .ref ad6, .ref ad7, .ref ad8, .ref ad9])), (ad8, .inl (ck0, 3, .inl (lf [1, 0, 0]))), (ad0, .inr (7, [.int 0, .int 0, .int (-1), .ref ad1, .ref ad2, .int 0, .int 0, .int 0, .int 0, .ref ad3, .ref ad4, .int 0, .int 0, .int 0]))] H := hP
  have hD : va_D A [(ad1, .inr (3, [.int 0, .int 0, .int 10, .int 0, .int 0, .int 1, .ref ad5, .ref ad6, .ref ad7, .ref ad8, .ref ad9])), (ad8, .inl (ck0, 3, .inl (lf [1, 0, 0]))), (ad0, .inr (7, [.int 0, .int 0, .int (-1), .ref ad1, .ref ad2, .int 0, .int 0, .int 0, .int 0, .ref ad3, .ref ad4, .int 0, .int 0, .int 0]))] := hD
  have hK : va_K (dC, dI) vwCl [(ck0, .int)] s := hK
  refine W.widen (k := 0) (n := 0) (by decide) (by decide) ?_
  have hw : r3 = 1 := hw
  subst hw
  refine lv_if_eq (tgt := 73) hx hb dX7_readText_45 (by decide) (fun cz => absurd cz (by decide)) (fun _ => ?_)
  refine lv_aload_n hx hb dX7_readText_48 rfl (lv_at hl 0 rfl) ?_
  have hPc := hP.sub (ws' := [(ad0, .inr (7, [.int 0, .int 0, .int (-1), .ref ad1, .ref ad2, .int 0, .int 0, .int 0, .int 0, .ref ad3, .ref ad4, .int 0, .int 0, .int 0])), (ad1, .inr (3, [.int 0, .int 0, .int 10, .int 0, .int 0, .int 1, .ref ad5, .ref ad6, .ref ad7, .ref ad8, .ref ad9]))]) [2, 0] rfl
  have hDc := hD.sub (ws' := [(ad0, .inr (7, [.int 0, .int 0, .int (-1), .ref ad1, .ref ad2, .int 0, .int 0, .int 0, .int 0, .ref ad3, .ref ad4, .int 0, .int 0, .int 0])), (ad1, .inr (3, [.int 0, .int 0, .int 10, .int 0, .int 0, .int 1, .ref ad5, .ref ad6, .ref ad7, .ref ad8, .ref ad9]))]) [2, 0] (by decide) rfl
  have hKc := hK.sub (tys' := []) [] rfl
  have hFc := va_free (wc := [(ad0, .inr (7, [.int 0, .int 0, .int (-1), .ref ad1, .ref ad2, .int 0, .int 0, .int 0, .int 0, .ref ad3, .ref ad4, .int 0, .int 0, .int 0])), (ad1, .inr (3, [.int 0, .int 0, .int 10, .int 0, .int 0, .int 1, .ref ad5, .ref ad6, .ref ad7, .ref ad8, .ref ad9]))]) hD hS hA [2, 0] rfl
  refine va_calli (va_runV (As := []) (rest := []) ⟨hx, hb, hml, hown, hts⟩ (ct_X7_readSigns l dC dI ad0 ad1 ad2 ad3 ad4 ad5 ad6 ad7 ad8 ad9 H.size) (cwV 0 hts gX7_readText_X7_readSigns rfl rfl rfl (by decide +kernel) ⟨Nat.le_of_ble_eq_true rfl, Nat.le_of_ble_eq_true rfl⟩) ⟨fun a U g mk q => by obtain ⟨q0, q1, qP, qK, qD, qF0⟩ := q; exact ⟨q0, q1, qP, va_K.moved (u := U) (U := U.calling g mk a) (Vm.Alike.refl U.vm) qK, qD, vq_SR.same (u := U) (U := U.calling g mk a) rfl qF0⟩, va_recv hKc hPc (ci := 7) (q0 := 0) rfl rfl, fun U hU hW => ⟨rfl, by rw [hU], by rw [hU]; exact hPc, va_K.moved hW.alike hKc, hDc.weaken (fun _ _ _ _ => trivial), vq_SR.warm hW hF_3⟩⟩ rfl rfl hl.1 rfl (lv_room (Nat.le_of_ble_eq_true rfl)) dX7_readText_49 ⟨Nat.le_of_ble_eq_true rfl, Nat.le_of_ble_eq_true rfl⟩) hS (fun q _ h => hFc q h) hFc (fun r4 u t H1 locs ht hvm hw hB hz1 hk1 hS => ?_)
  obtain ⟨hP1, hK1, hD1⟩ := hB
  rw [ht] at hP1
  have hK1 := va_K.moved hvm.symm hK1
  obtain ⟨hP, hD⟩ := va_join (wr := [(ad8, .inl (ck0, 3, .inl (lf [1, 0, 0])))]) (w1 := [(ad1, .inr (3, [.int 0, .int 0, .int 10, .int 0, .int 0, .int 1, .ref ad5, .ref ad6, .ref ad7, .ref ad8, .ref ad9])), (ad0, .inr (7, [.int 0, .int 1, .int 0, .ref ad1, .ref ad2, .int 0, .int 0, .int 0, .int 0, .ref ad3, .ref ad4, .int 0, .int 0, .int 0]))]) hP hD [2, 0] [1] rfl rfl (by decide) (by decide) hk1 hFc hP1 hD1
  have hK := (hK.sub (tys' := [(ck0, .int)]) [0] rfl).app hK1
  clear hPc hDc hKc hFc hP1 hD1 hK1 hk1 hz1
  generalize H1 = H at hP hS ⊢
  have hP : va_P (dC, dI) vwCl [(ad8, .inl (ck0, 3, .inl (lf [1, 0, 0]))), (ad1, .inr (3, [.int 0, .int 0, .int 10, .int 0, .int 0, .int 1, .ref ad5, .ref ad6, .ref ad7, .ref ad8, .ref ad9])), (ad0, .inr (7, [.int 0, .int 1, .int 0, .ref ad1, .ref ad2, .int 0, .int 0, .int 0, .int 0, .ref ad3, .ref ad4, .int 0, .int 0, .int 0]))] H := hP
  have hD : va_D A [(ad8, .inl (ck0, 3, .inl (lf [1, 0, 0]))), (ad1, .inr (3, [.int 0, .int 0, .int 10, .int 0, .int 0, .int 1, .ref ad5, .ref ad6, .ref ad7, .ref ad8, .ref ad9])), (ad0, .inr (7, [.int 0, .int 1, .int 0, .ref ad1, .ref ad2, .int 0, .int 0, .int 0, .int 0, .ref ad3, .ref ad4, .int 0, .int 0, .int 0]))] := hD
  have hK : va_K (dC, dI) vwCl [(ck0, .int)] s := hK
  refine W.widen (k := 0) (n := 0) (by decide) (by decide) ?_
  have hw : r4 = 0 := hw
  subst hw
  refine lv_if_eq (tgt := 73) hx hb dX7_readText_52 (by decide) (fun _ => ?_) (fun cz => absurd cz (by decide))
  refine lv_iconst (v := 0) hx hb dX7_readText_73 (by decide) ?_
  refine W.widen (k := 0) (n := 0) (by decide) (by decide) ?_
  have hP9 := hP.sub (ws' := [(ad8, .inl (ck0, 3, .inl (lf [1, 0, 0]))), (ad1, .inr (3, [.int 0, .int 0, .int 10, .int 0, .int 0, .int 1, .ref ad5, .ref ad6, .ref ad7, .ref ad8, .ref ad9])), (ad0, .inr (7, [.int 0, .int 1, .int 0, .ref ad1, .ref ad2, .int 0, .int 0, .int 0, .int 0, .ref ad3, .ref ad4, .int 0, .int 0, .int 0]))]) [0, 1, 2] rfl
  have hD9 := hD.sub (ws' := [(ad8, .inl (ck0, 3, .inl (lf [1, 0, 0]))), (ad1, .inr (3, [.int 0, .int 0, .int 10, .int 0, .int 0, .int 1, .ref ad5, .ref ad6, .ref ad7, .ref ad8, .ref ad9])), (ad0, .inr (7, [.int 0, .int 1, .int 0, .ref ad1, .ref ad2, .int 0, .int 0, .int 0, .int 0, .ref ad3, .ref ad4, .int 0, .int 0, .int 0]))]) [0, 1, 2] (by decide) rfl
  have hK9 := hK.sub (tys' := [(ck0, .int)]) [0] rfl
  exact W.zret (v := 0) hx hb hr rfl (fun t ht hW => ⟨⟨0, (), rfl, rfl, by rw [ht]; exact hP9, va_K.moved hW.alike hK9, hD9⟩, hS.F ht⟩) hS.2.2 dX7_readText_74

set_option maxHeartbeats 4000000 in
set_option maxRecDepth 100000 in
theorem ct_X9_hire (l : Launch) (dC : Nat → ClassId) (dI : Nat → Nat → Nat) (ad0 : Nat) (ad1 : Nat) (ad2 : Nat) (ad3 : Nat) (ad4 : Nat) (ad5 : Nat) (ad6 : Nat) (ad7 : Nat) (ad8 : Nat) (ad9 : Nat) (ad10 : Nat) (ad11 : Nat) (ad12 : Nat) (ad13 : Nat) (ad14 : Nat) (ad15 : Nat) (ad16 : Nat) (ad17 : Nat) (ad18 : Nat) (ad19 : Nat) (ad20 : Nat) (ad21 : Nat) (ad22 : Nat) (ck0 : ClassId) (sz : Nat) : Met l yX9_hire wsX9_hire ({ frames := 3, cells := 0, slots := 0, locals := 62 }) (va_Pc [.ref ad0] (fun U => U.heap.size = sz ∧ va_P (dC, dI) vwCl [(ad0, .inr (9, [.ref ad1, .ref ad2, .ref ad3, .ref ad4, .ref ad5, .ref ad6, .ref ad7, .ref ad8, .int 0, .ref ad9, .ref ad10, .ref ad11, .ref ad12, .ref ad13])), (ad1, .inr (7, [.int 0, .int 0, .int (-1), .ref ad14, .ref ad15, .int 0, .int 0, .int 0, .int 0, .ref ad16, .ref ad17, .int 0, .int 0, .int 0])), (ad14, .inr (3, [.int 0, .int 0, .int 10, .int 0, .int 0, .int 1, .ref ad18, .ref ad19, .ref ad20, .ref ad21, .ref ad22])), (ad21, .inl (ck0, 3, .inl (lf [1, 0, 0])))] U.heap ∧ va_K (dC, dI) vwCl [(ck0, .int)] U ∧ va_D (fun _ => True) [(ad0, .inr (9, [.ref ad1, .ref ad2, .ref ad3, .ref ad4, .ref ad5, .ref ad6, .ref ad7, .ref ad8, .int 0, .ref ad9, .ref ad10, .ref ad11, .ref ad12, .ref ad13])), (ad1, .inr (7, [.int 0, .int 0, .int (-1), .ref ad14, .ref ad15, .int 0, .int 0, .int 0, .int 0, .ref ad16, .ref ad17, .int 0, .int 0, .int 0])), (ad14, .inr (3, [.int 0, .int 0, .int 10, .int 0, .int 0, .int 1, .ref ad18, .ref ad19, .ref ad20, .ref ad21, .ref ad22])), (ad21, .inl (ck0, 3, .inl (lf [1, 0, 0])))] ∧ vq_SR RX7 80 "whole" U ∧ vq_SR RX7 98 "sign" U)) (va_Qi (fun (r : Int32) (_ : Unit) => r = (-1)) (fun _ _ => True) (va_A [(ad0, .inr (9, [.ref ad1, .ref ad2, .ref ad3, .ref ad4, .ref ad5, .ref ad6, .ref ad7, .ref ad8, .int 0, .ref ad9, .ref ad10, .ref ad11, .ref ad12, .ref ad13])), (ad1, .inr (7, [.int 0, .int 0, .int (-1), .ref ad14, .ref ad15, .int 0, .int 0, .int 0, .int 0, .ref ad16, .ref ad17, .int 0, .int 0, .int 0])), (ad14, .inr (3, [.int 0, .int 0, .int 10, .int 0, .int 0, .int 1, .ref ad18, .ref ad19, .ref ad20, .ref ad21, .ref ad22])), (ad21, .inl (ck0, 3, .inl (lf [1, 0, 0])))] sz)) 0 0 (va_A [(ad0, .inr (9, [.ref ad1, .ref ad2, .ref ad3, .ref ad4, .ref ad5, .ref ad6, .ref ad7, .ref ad8, .int 0, .ref ad9, .ref ad10, .ref ad11, .ref ad12, .ref ad13])), (ad1, .inr (7, [.int 0, .int 0, .int (-1), .ref ad14, .ref ad15, .int 0, .int 0, .int 0, .int 0, .ref ad16, .ref ad17, .int 0, .int 0, .int 0])), (ad14, .inr (3, [.int 0, .int 0, .int 10, .int 0, .int 0, .int 1, .ref ad18, .ref ad19, .ref ad20, .ref ad21, .ref ad22])), (ad21, .inl (ck0, 3, .inl (lf [1, 0, 0])))] sz) := by
  refine Met.ofW (cc := cX9_hire) (maxL := 3) (ret := (some .int)) (by decide) rfl ?_
  intro p e s m args below meth c s₁ B hml hv
  obtain ⟨rfl, hsz, hP, hK, hD0, hF_2, hF_3⟩ := hv
  have hx := B.exec
  have hb := B.bytes
  have hr := B.returns
  have hts := atoms_spec (ws := wsX9_hire) B.pre
  have hown : s.vm.findClass RX9 = some m.cls := findClass_of_methodNamed B.named
  have hlocks := B.notSynchronized
  subst hsz
  have hD := hD0.self (sz := s.heap.size)
  generalize hAe : va_A [(ad0, .inr (9, [.ref ad1, .ref ad2, .ref ad3, .ref ad4, .ref ad5, .ref ad6, .ref ad7, .ref ad8, .int 0, .ref ad9, .ref ad10, .ref ad11, .ref ad12, .ref ad13])), (ad1, .inr (7, [.int 0, .int 0, .int (-1), .ref ad14, .ref ad15, .int 0, .int 0, .int 0, .int 0, .ref ad16, .ref ad17, .int 0, .int 0, .int 0])), (ad14, .inr (3, [.int 0, .int 0, .int 10, .int 0, .int 0, .int 1, .ref ad18, .ref ad19, .ref ad20, .ref ad21, .ref ad22])), (ad21, .inl (ck0, 3, .inl (lf [1, 0, 0])))] s.heap.size = A at hD ⊢
  have hA : ∀ q : Nat, s.heap.size ≤ q → A q := fun q h => by rw [← hAe]; exact Or.inr h
  have hS : va_S A s.heap s.heap [] := va_S.rf
  have hP : va_P (dC, dI) vwCl [(ad0, .inr (9, [.ref ad1, .ref ad2, .ref ad3, .ref ad4, .ref ad5, .ref ad6, .ref ad7, .ref ad8, .int 0, .ref ad9, .ref ad10, .ref ad11, .ref ad12, .ref ad13])), (ad1, .inr (7, [.int 0, .int 0, .int (-1), .ref ad14, .ref ad15, .int 0, .int 0, .int 0, .int 0, .ref ad16, .ref ad17, .int 0, .int 0, .int 0])), (ad14, .inr (3, [.int 0, .int 0, .int 10, .int 0, .int 0, .int 1, .ref ad18, .ref ad19, .ref ad20, .ref ad21, .ref ad22])), (ad21, .inl (ck0, 3, .inl (lf [1, 0, 0])))] s.heap := hP
  have hl := lv_entry ([.ref ad0]) (n := 3) (Nat.le_of_ble_eq_true rfl)
  rw [lg_entry_eq]
  generalize (lg_sl ([.ref ad0]) ++ List.replicate (3 - (lg_sl ([.ref ad0])).length) Slot.unset).toArray = ls at hl ⊢
  have hl : lv_has ls 3 [(0, .ref ad0)] := hl
  refine lv_aload_n hx hb dX9_hire_0 rfl (lv_at hl 0 rfl) ?_
  refine va_get (D := (dC, dI)) (ci := 9) (v := .ref ad1) (C := RX9) (T := TX9) (N := 14) hx hb hts iw_X9_hire_X9 hown hK hP 0 rfl rfl 0 (by decide) (hts _ kk_X9_hire_0) (fun _ h9 => h9) rfl dX9_hire_1 ?_
  have hPc := hP.sub (ws' := [(ad1, .inr (7, [.int 0, .int 0, .int (-1), .ref ad14, .ref ad15, .int 0, .int 0, .int 0, .int 0, .ref ad16, .ref ad17, .int 0, .int 0, .int 0])), (ad14, .inr (3, [.int 0, .int 0, .int 10, .int 0, .int 0, .int 1, .ref ad18, .ref ad19, .ref ad20, .ref ad21, .ref ad22])), (ad21, .inl (ck0, 3, .inl (lf [1, 0, 0])))]) [1, 2, 3] rfl
  have hDc := hD.sub (ws' := [(ad1, .inr (7, [.int 0, .int 0, .int (-1), .ref ad14, .ref ad15, .int 0, .int 0, .int 0, .int 0, .ref ad16, .ref ad17, .int 0, .int 0, .int 0])), (ad14, .inr (3, [.int 0, .int 0, .int 10, .int 0, .int 0, .int 1, .ref ad18, .ref ad19, .ref ad20, .ref ad21, .ref ad22])), (ad21, .inl (ck0, 3, .inl (lf [1, 0, 0])))]) [1, 2, 3] (by decide) rfl
  have hKc := hK.sub (tys' := [(ck0, .int)]) [0] rfl
  have hFc := va_free (wc := [(ad1, .inr (7, [.int 0, .int 0, .int (-1), .ref ad14, .ref ad15, .int 0, .int 0, .int 0, .int 0, .ref ad16, .ref ad17, .int 0, .int 0, .int 0])), (ad14, .inr (3, [.int 0, .int 0, .int 10, .int 0, .int 0, .int 1, .ref ad18, .ref ad19, .ref ad20, .ref ad21, .ref ad22])), (ad21, .inl (ck0, 3, .inl (lf [1, 0, 0])))]) hD hS hA [1, 2, 3] rfl
  refine va_calli (va_runV (As := []) (rest := []) ⟨hx, hb, hml, hown, hts⟩ (ct_X7_readText l dC dI ad1 ad14 ad15 ad16 ad17 ad18 ad19 ad20 ad21 ad22 ck0 s.heap.size) (cwV 0 hts gX9_hire_X7_readText rfl rfl rfl (by decide +kernel) ⟨Nat.le_of_ble_eq_true rfl, Nat.le_of_ble_eq_true rfl⟩) ⟨fun a U g mk q => by obtain ⟨q0, q1, qP, qK, qD, qF0, qF1⟩ := q; exact ⟨q0, q1, qP, va_K.moved (u := U) (U := U.calling g mk a) (Vm.Alike.refl U.vm) qK, qD, vq_SR.same (u := U) (U := U.calling g mk a) rfl qF0, vq_SR.same (u := U) (U := U.calling g mk a) rfl qF1⟩, va_recv hKc hPc (ci := 7) (q0 := 0) rfl rfl, fun U hU hW => ⟨rfl, by rw [hU], by rw [hU]; exact hPc, va_K.moved hW.alike hKc, hDc.weaken (fun _ _ _ _ => trivial), vq_SR.warm hW hF_2, vq_SR.warm hW hF_3⟩⟩ rfl rfl hl.1 rfl (lv_room (Nat.le_of_ble_eq_true rfl)) dX9_hire_4 ⟨Nat.le_of_ble_eq_true rfl, Nat.le_of_ble_eq_true rfl⟩) hS (fun q _ h => hFc q h) hFc (fun r1 u t H1 locs ht hvm hw hB hz1 hk1 hS => ?_)
  obtain ⟨hP1, hK1, hD1⟩ := hB
  rw [ht] at hP1
  have hK1 := va_K.moved hvm.symm hK1
  obtain ⟨hP, hD⟩ := va_join (wr := [(ad0, .inr (9, [.ref ad1, .ref ad2, .ref ad3, .ref ad4, .ref ad5, .ref ad6, .ref ad7, .ref ad8, .int 0, .ref ad9, .ref ad10, .ref ad11, .ref ad12, .ref ad13]))]) (w1 := [(ad21, .inl (ck0, 3, .inl (lf [1, 0, 0]))), (ad14, .inr (3, [.int 0, .int 0, .int 10, .int 0, .int 0, .int 1, .ref ad18, .ref ad19, .ref ad20, .ref ad21, .ref ad22])), (ad1, .inr (7, [.int 0, .int 1, .int 0, .ref ad14, .ref ad15, .int 0, .int 0, .int 0, .int 0, .ref ad16, .ref ad17, .int 0, .int 0, .int 0]))]) hP hD [1, 2, 3] [0] rfl rfl (by decide) (by decide) hk1 hFc hP1 hD1
  have hK := (hK.sub (tys' := []) [] rfl).app hK1
  clear hPc hDc hKc hFc hP1 hD1 hK1 hk1 hz1
  generalize H1 = H at hP hS ⊢
  have hP : va_P (dC, dI) vwCl [(ad0, .inr (9, [.ref ad1, .ref ad2, .ref ad3, .ref ad4, .ref ad5, .ref ad6, .ref ad7, .ref ad8, .int 0, .ref ad9, .ref ad10, .ref ad11, .ref ad12, .ref ad13])), (ad21, .inl (ck0, 3, .inl (lf [1, 0, 0]))), (ad14, .inr (3, [.int 0, .int 0, .int 10, .int 0, .int 0, .int 1, .ref ad18, .ref ad19, .ref ad20, .ref ad21, .ref ad22])), (ad1, .inr (7, [.int 0, .int 1, .int 0, .ref ad14, .ref ad15, .int 0, .int 0, .int 0, .int 0, .ref ad16, .ref ad17, .int 0, .int 0, .int 0]))] H := hP
  have hD : va_D A [(ad0, .inr (9, [.ref ad1, .ref ad2, .ref ad3, .ref ad4, .ref ad5, .ref ad6, .ref ad7, .ref ad8, .int 0, .ref ad9, .ref ad10, .ref ad11, .ref ad12, .ref ad13])), (ad21, .inl (ck0, 3, .inl (lf [1, 0, 0]))), (ad14, .inr (3, [.int 0, .int 0, .int 10, .int 0, .int 0, .int 1, .ref ad18, .ref ad19, .ref ad20, .ref ad21, .ref ad22])), (ad1, .inr (7, [.int 0, .int 1, .int 0, .ref ad14, .ref ad15, .int 0, .int 0, .int 0, .int 0, .ref ad16, .ref ad17, .int 0, .int 0, .int 0]))] := hD
  have hK : va_K (dC, dI) vwCl [(ck0, .int)] s := hK
  refine W.widen (k := 0) (n := 0) (by decide) (by decide) ?_
  have hw : r1 = 0 := hw
  subst hw
  refine lv_istore_n (lv' := [(1, .int 0), (0, .ref ad0)]) hx hb dX9_hire_7 rfl hl (by decide) rfl (fun ls hl => ?_)
  refine lv_aload_n hx hb dX9_hire_8 rfl (lv_at hl 1 rfl) ?_
  refine va_get (D := (dC, dI)) (ci := 9) (v := .ref ad1) (C := RX9) (T := TX9) (N := 14) hx hb hts iw_X9_hire_X9 hown hK hP 0 rfl rfl 0 (by decide) (hts _ kk_X9_hire_0) (fun _ h9 => h9) rfl dX9_hire_9 ?_
  refine lv_iconst (v := 0) hx hb dX9_hire_12 (by decide) ?_
  refine va_put (D := (dC, dI)) (ci := 7) (v := .int 0) (ty := .int) (C := RX7) (T := TX7) (N := 14) hx hb hts iw_X9_hire_X7 tyX7 tyX7_ok nmX7 hown hK hP hD hS 3 rfl rfl 0 (by decide) (hts _ kk_X9_hire_1) (fun _ h9 => h9) rfl (by decide +kernel) rfl rfl (Nat.le_of_ble_eq_true rfl) dX9_hire_13 (fun H locs hP hD hS => ?_)
  have hP : va_P (dC, dI) vwCl [(ad0, .inr (9, [.ref ad1, .ref ad2, .ref ad3, .ref ad4, .ref ad5, .ref ad6, .ref ad7, .ref ad8, .int 0, .ref ad9, .ref ad10, .ref ad11, .ref ad12, .ref ad13])), (ad21, .inl (ck0, 3, .inl (lf [1, 0, 0]))), (ad14, .inr (3, [.int 0, .int 0, .int 10, .int 0, .int 0, .int 1, .ref ad18, .ref ad19, .ref ad20, .ref ad21, .ref ad22])), (ad1, .inr (7, [.int 0, .int 1, .int 0, .ref ad14, .ref ad15, .int 0, .int 0, .int 0, .int 0, .ref ad16, .ref ad17, .int 0, .int 0, .int 0]))] H := hP
  have hD : va_D A [(ad0, .inr (9, [.ref ad1, .ref ad2, .ref ad3, .ref ad4, .ref ad5, .ref ad6, .ref ad7, .ref ad8, .int 0, .ref ad9, .ref ad10, .ref ad11, .ref ad12, .ref ad13])), (ad21, .inl (ck0, 3, .inl (lf [1, 0, 0]))), (ad14, .inr (3, [.int 0, .int 0, .int 10, .int 0, .int 0, .int 1, .ref ad18, .ref ad19, .ref ad20, .ref ad21, .ref ad22])), (ad1, .inr (7, [.int 0, .int 1, .int 0, .ref ad14, .ref ad15, .int 0, .int 0, .int 0, .int 0, .ref ad16, .ref ad17, .int 0, .int 0, .int 0]))] := hD
  refine lv_iload_n hx hb dX9_hire_16 rfl (lv_at hl 0 rfl) ?_
  refine lv_if_ne (tgt := 22) hx hb dX9_hire_17 (by decide) (fun cz => absurd cz (by decide)) (fun _ => ?_)
  refine lv_iconst (v := (-1)) hx hb dX9_hire_20 (by decide) ?_
  refine W.widen (k := 0) (n := 0) (by decide) (by decide) ?_
  exact W.iret (v := (-1)) hx hb hr (fun t ht hW => ⟨⟨(-1), (), rfl, rfl, trivial⟩, hS.F ht⟩) hS.2.2 dX9_hire_21

set_option maxHeartbeats 4000000 in
set_option maxRecDepth 100000 in
theorem ct_X9_fault (l : Launch) (dC : Nat → ClassId) (dI : Nat → Nat → Nat) (ad0 : Nat) (vi0 : Int32) (ad1 : Nat) (ad2 : Nat) (ad3 : Nat) (ad4 : Nat) (ad5 : Nat) (ad6 : Nat) (ad7 : Nat) (ad8 : Nat) (ad9 : Nat) (ad10 : Nat) (ad11 : Nat) (ad12 : Nat) (ad13 : Nat) (ad14 : Nat) (ad15 : Nat) (ad16 : Nat) (ad17 : Nat) (sz : Nat) : Met l yX9_fault wsX9_fault ({ frames := 0, cells := 0, slots := 0, locals := 0 }) (va_Pc [.ref ad0, .int vi0] (fun U => U.heap.size = sz ∧ va_P (dC, dI) vwCl [(ad0, .inr (9, [.ref ad1, .ref ad2, .ref ad3, .ref ad4, .ref ad5, .ref ad6, .ref ad7, .ref ad8, .int 0, .ref ad9, .ref ad10, .ref ad11, .ref ad12, .ref ad13])), (ad1, .inr (7, [.int 0, .int 0, .int (-1), .ref ad14, .ref ad15, .int 0, .int 0, .int 0, .int 0, .ref ad16, .ref ad17, .int 0, .int 0, .int 0]))] U.heap ∧ va_K (dC, dI) vwCl [] U ∧ va_D (fun _ => True) [(ad0, .inr (9, [.ref ad1, .ref ad2, .ref ad3, .ref ad4, .ref ad5, .ref ad6, .ref ad7, .ref ad8, .int 0, .ref ad9, .ref ad10, .ref ad11, .ref ad12, .ref ad13])), (ad1, .inr (7, [.int 0, .int 0, .int (-1), .ref ad14, .ref ad15, .int 0, .int 0, .int 0, .int 0, .ref ad16, .ref ad17, .int 0, .int 0, .int 0]))])) (va_Qi (fun (r : Int32) (_ : Unit) => r = sp_fault vi0) (fun _ _ => True) (va_A [(ad0, .inr (9, [.ref ad1, .ref ad2, .ref ad3, .ref ad4, .ref ad5, .ref ad6, .ref ad7, .ref ad8, .int 0, .ref ad9, .ref ad10, .ref ad11, .ref ad12, .ref ad13])), (ad1, .inr (7, [.int 0, .int 0, .int (-1), .ref ad14, .ref ad15, .int 0, .int 0, .int 0, .int 0, .ref ad16, .ref ad17, .int 0, .int 0, .int 0]))] sz)) 0 0 (va_A [(ad0, .inr (9, [.ref ad1, .ref ad2, .ref ad3, .ref ad4, .ref ad5, .ref ad6, .ref ad7, .ref ad8, .int 0, .ref ad9, .ref ad10, .ref ad11, .ref ad12, .ref ad13])), (ad1, .inr (7, [.int 0, .int 0, .int (-1), .ref ad14, .ref ad15, .int 0, .int 0, .int 0, .int 0, .ref ad16, .ref ad17, .int 0, .int 0, .int 0]))] sz) := by
  refine Met.ofW (cc := cX9_fault) (maxL := 2) (ret := (some .int)) (by decide) rfl ?_
  intro p e s m args below meth c s₁ B hml hv
  obtain ⟨rfl, hsz, hP, hK, hD0⟩ := hv
  have hx := B.exec
  have hb := B.bytes
  have hr := B.returns
  have hts := atoms_spec (ws := wsX9_fault) B.pre
  have hown : s.vm.findClass RX9 = some m.cls := findClass_of_methodNamed B.named
  have hlocks := B.notSynchronized
  subst hsz
  have hD := hD0.self (sz := s.heap.size)
  generalize hAe : va_A [(ad0, .inr (9, [.ref ad1, .ref ad2, .ref ad3, .ref ad4, .ref ad5, .ref ad6, .ref ad7, .ref ad8, .int 0, .ref ad9, .ref ad10, .ref ad11, .ref ad12, .ref ad13])), (ad1, .inr (7, [.int 0, .int 0, .int (-1), .ref ad14, .ref ad15, .int 0, .int 0, .int 0, .int 0, .ref ad16, .ref ad17, .int 0, .int 0, .int 0]))] s.heap.size = A at hD ⊢
  have hA : ∀ q : Nat, s.heap.size ≤ q → A q := fun q h => by rw [← hAe]; exact Or.inr h
  have hS : va_S A s.heap s.heap [] := va_S.rf
  have hP : va_P (dC, dI) vwCl [(ad0, .inr (9, [.ref ad1, .ref ad2, .ref ad3, .ref ad4, .ref ad5, .ref ad6, .ref ad7, .ref ad8, .int 0, .ref ad9, .ref ad10, .ref ad11, .ref ad12, .ref ad13])), (ad1, .inr (7, [.int 0, .int 0, .int (-1), .ref ad14, .ref ad15, .int 0, .int 0, .int 0, .int 0, .ref ad16, .ref ad17, .int 0, .int 0, .int 0]))] s.heap := hP
  have hl := lv_entry ([.ref ad0, .int vi0]) (n := 2) (Nat.le_of_ble_eq_true rfl)
  rw [lg_entry_eq]
  generalize (lg_sl ([.ref ad0, .int vi0]) ++ List.replicate (2 - (lg_sl ([.ref ad0, .int vi0])).length) Slot.unset).toArray = ls at hl ⊢
  have hl : lv_has ls 2 [(0, .ref ad0), (1, .int vi0)] := hl
  refine lv_iload_n hx hb dX9_fault_0 rfl (lv_at hl 1 rfl) ?_
  refine lv_if_ne (tgt := 12) hx hb dX9_fault_1 (by decide) (fun c1 => ?_) (fun c1 => ?_)
  · refine lv_iload_n hx hb dX9_fault_12 rfl (lv_at hl 1 rfl) ?_
    refine lv_iconst (v := 1) hx hb dX9_fault_13 (by decide) ?_
    refine lv_icmp_ne (tgt := 27) hx hb dX9_fault_14 (by decide) (fun c2 => ?_) (fun c2 => ?_)
    · refine lv_iconst (v := (-1)) hx hb dX9_fault_27 (by decide) ?_
      refine W.widen (k := 0) (n := 0) (by decide) (by decide) ?_
      exact W.iret (v := (-1)) hx hb hr (fun t ht hW => ⟨⟨(-1), (), rfl, (by first | rfl | (simp only [sp_fault] at *; grind)), trivial⟩, hS.F ht⟩) hS.2.2 dX9_fault_28
    · have hpin : vi0 = 1 := by grind
      subst hpin
      refine lv_aload_n hx hb dX9_fault_17 rfl (lv_at hl 0 rfl) ?_
      refine va_get (D := (dC, dI)) (ci := 9) (v := .ref ad1) (C := RX9) (T := TX9) (N := 14) hx hb hts iw_X9_fault_X9 hown hK hP 0 rfl rfl 0 (by decide) (hts _ kk_X9_fault_0) (fun _ h9 => h9) rfl dX9_fault_18 ?_
      refine va_get (D := (dC, dI)) (ci := 7) (v := .int (-1)) (C := RX7) (T := TX7) (N := 14) hx hb hts iw_X9_fault_X7 hown hK hP 1 rfl rfl 2 (by decide) (hts _ kk_X9_fault_1) (fun _ h9 => h9) rfl dX9_fault_21 ?_
      refine lv_goto (tgt := 28) hx hb dX9_fault_24 (by decide) ?_
      refine W.widen (k := 0) (n := 0) (by decide) (by decide) ?_
      exact W.iret (v := (-1)) hx hb hr (fun t ht hW => ⟨⟨(-1), (), rfl, (by first | rfl | (simp only [sp_fault] at *; grind)), trivial⟩, hS.F ht⟩) hS.2.2 dX9_fault_28
  · have hpin : vi0 = 0 := by grind
    subst hpin
    refine lv_aload_n hx hb dX9_fault_4 rfl (lv_at hl 0 rfl) ?_
    refine va_get (D := (dC, dI)) (ci := 9) (v := .ref ad1) (C := RX9) (T := TX9) (N := 14) hx hb hts iw_X9_fault_X9 hown hK hP 0 rfl rfl 0 (by decide) (hts _ kk_X9_fault_0) (fun _ h9 => h9) rfl dX9_fault_5 ?_
    refine va_get (D := (dC, dI)) (ci := 7) (v := .int 0) (C := RX7) (T := TX7) (N := 14) hx hb hts iw_X9_fault_X7 hown hK hP 1 rfl rfl 1 (by decide) (hts _ kk_X9_fault_2) (fun _ h9 => h9) rfl dX9_fault_8 ?_
    refine W.widen (k := 0) (n := 0) (by decide) (by decide) ?_
    exact W.iret (v := 0) hx hb hr (fun t ht hW => ⟨⟨0, (), rfl, (by first | rfl | (simp only [sp_fault] at *; grind)), trivial⟩, hS.F ht⟩) hS.2.2 dX9_fault_11

set_option maxHeartbeats 4000000 in
set_option maxRecDepth 100000 in
theorem ct_X9_toldOfOne (l : Launch) (dC : Nat → ClassId) (dI : Nat → Nat → Nat) (ad0 : Nat) (vi0 : Int32) (ad1 : Nat) (ad2 : Nat) (ad3 : Nat) (ad4 : Nat) (ad5 : Nat) (ad6 : Nat) (ad7 : Nat) (ad8 : Nat) (ad9 : Nat) (ad10 : Nat) (ad11 : Nat) (ad12 : Nat) (ad13 : Nat) (ad14 : Nat) (ad15 : Nat) (ad16 : Nat) (ad17 : Nat) (ad18 : Nat) (ck0 : ClassId) (sz : Nat) : Met l yX9_toldOfOne wsX9_toldOfOne ({ frames := 0, cells := 0, slots := 0, locals := 0 }) (va_Pc [.ref ad0, .int vi0] (fun U => U.heap.size = sz ∧ va_P (dC, dI) vwCl [(ad0, .inr (9, [.ref ad1, .ref ad2, .ref ad3, .ref ad4, .ref ad5, .ref ad6, .ref ad7, .ref ad8, .int 0, .ref ad9, .ref ad10, .ref ad11, .ref ad12, .ref ad13])), (ad2, .inr (3, [.int 0, .int 0, .int 10, .int 0, .int 0, .int 1, .ref ad14, .ref ad15, .ref ad16, .ref ad17, .ref ad18])), (ad17, .inl (ck0, 3, .inl (lf [1, 0, 0])))] U.heap ∧ va_K (dC, dI) vwCl [(ck0, .int)] U ∧ va_D (fun _ => True) [(ad0, .inr (9, [.ref ad1, .ref ad2, .ref ad3, .ref ad4, .ref ad5, .ref ad6, .ref ad7, .ref ad8, .int 0, .ref ad9, .ref ad10, .ref ad11, .ref ad12, .ref ad13])), (ad2, .inr (3, [.int 0, .int 0, .int 10, .int 0, .int 0, .int 1, .ref ad14, .ref ad15, .ref ad16, .ref ad17, .ref ad18])), (ad17, .inl (ck0, 3, .inl (lf [1, 0, 0])))])) (va_Qi (fun (r : Int32) (_ : Unit) => r = sp_told1 vi0) (fun _ t => va_P (dC, dI) vwCl [(ad0, .inr (9, [.ref ad1, .ref ad2, .ref ad3, .ref ad4, .ref ad5, .ref ad6, .ref ad7, .ref ad8, .int 0, .ref ad9, .ref ad10, .ref ad11, .ref ad12, .ref ad13])), (ad2, .inr (3, [.int 0, .int 0, .int 10, .int 0, .int 0, .int 1, .ref ad14, .ref ad15, .ref ad16, .ref ad17, .ref ad18])), (ad17, .inl (ck0, 3, .inl (lf [1, 0, 0])))] t.heap ∧ va_K (dC, dI) vwCl [(ck0, .int)] t ∧ va_D (va_A [(ad0, .inr (9, [.ref ad1, .ref ad2, .ref ad3, .ref ad4, .ref ad5, .ref ad6, .ref ad7, .ref ad8, .int 0, .ref ad9, .ref ad10, .ref ad11, .ref ad12, .ref ad13])), (ad2, .inr (3, [.int 0, .int 0, .int 10, .int 0, .int 0, .int 1, .ref ad14, .ref ad15, .ref ad16, .ref ad17, .ref ad18])), (ad17, .inl (ck0, 3, .inl (lf [1, 0, 0])))] sz) [(ad0, .inr (9, [.ref ad1, .ref ad2, .ref ad3, .ref ad4, .ref ad5, .ref ad6, .ref ad7, .ref ad8, .int 0, .ref ad9, .ref ad10, .ref ad11, .ref ad12, .ref ad13])), (ad2, .inr (3, [.int 0, .int 0, .int 10, .int 0, .int 0, .int 1, .ref ad14, .ref ad15, .ref ad16, .ref ad17, .ref ad18])), (ad17, .inl (ck0, 3, .inl (lf [1, 0, 0])))]) (va_A [(ad0, .inr (9, [.ref ad1, .ref ad2, .ref ad3, .ref ad4, .ref ad5, .ref ad6, .ref ad7, .ref ad8, .int 0, .ref ad9, .ref ad10, .ref ad11, .ref ad12, .ref ad13])), (ad2, .inr (3, [.int 0, .int 0, .int 10, .int 0, .int 0, .int 1, .ref ad14, .ref ad15, .ref ad16, .ref ad17, .ref ad18])), (ad17, .inl (ck0, 3, .inl (lf [1, 0, 0])))] sz)) 0 0 (va_A [(ad0, .inr (9, [.ref ad1, .ref ad2, .ref ad3, .ref ad4, .ref ad5, .ref ad6, .ref ad7, .ref ad8, .int 0, .ref ad9, .ref ad10, .ref ad11, .ref ad12, .ref ad13])), (ad2, .inr (3, [.int 0, .int 0, .int 10, .int 0, .int 0, .int 1, .ref ad14, .ref ad15, .ref ad16, .ref ad17, .ref ad18])), (ad17, .inl (ck0, 3, .inl (lf [1, 0, 0])))] sz) := by
  refine Met.ofW (cc := cX9_toldOfOne) (maxL := 2) (ret := (some .int)) (by decide) rfl ?_
  intro p e s m args below meth c s₁ B hml hv
  obtain ⟨rfl, hsz, hP, hK, hD0⟩ := hv
  have hx := B.exec
  have hb := B.bytes
  have hr := B.returns
  have hts := atoms_spec (ws := wsX9_toldOfOne) B.pre
  have hown : s.vm.findClass RX9 = some m.cls := findClass_of_methodNamed B.named
  have hlocks := B.notSynchronized
  subst hsz
  have hD := hD0.self (sz := s.heap.size)
  generalize hAe : va_A [(ad0, .inr (9, [.ref ad1, .ref ad2, .ref ad3, .ref ad4, .ref ad5, .ref ad6, .ref ad7, .ref ad8, .int 0, .ref ad9, .ref ad10, .ref ad11, .ref ad12, .ref ad13])), (ad2, .inr (3, [.int 0, .int 0, .int 10, .int 0, .int 0, .int 1, .ref ad14, .ref ad15, .ref ad16, .ref ad17, .ref ad18])), (ad17, .inl (ck0, 3, .inl (lf [1, 0, 0])))] s.heap.size = A at hD ⊢
  have hA : ∀ q : Nat, s.heap.size ≤ q → A q := fun q h => by rw [← hAe]; exact Or.inr h
  have hS : va_S A s.heap s.heap [] := va_S.rf
  have hP : va_P (dC, dI) vwCl [(ad0, .inr (9, [.ref ad1, .ref ad2, .ref ad3, .ref ad4, .ref ad5, .ref ad6, .ref ad7, .ref ad8, .int 0, .ref ad9, .ref ad10, .ref ad11, .ref ad12, .ref ad13])), (ad2, .inr (3, [.int 0, .int 0, .int 10, .int 0, .int 0, .int 1, .ref ad14, .ref ad15, .ref ad16, .ref ad17, .ref ad18])), (ad17, .inl (ck0, 3, .inl (lf [1, 0, 0])))] s.heap := hP
  have hl := lv_entry ([.ref ad0, .int vi0]) (n := 2) (Nat.le_of_ble_eq_true rfl)
  rw [lg_entry_eq]
  generalize (lg_sl ([.ref ad0, .int vi0]) ++ List.replicate (2 - (lg_sl ([.ref ad0, .int vi0])).length) Slot.unset).toArray = ls at hl ⊢
  have hl : lv_has ls 2 [(0, .ref ad0), (1, .int vi0)] := hl
  refine lv_iload_n hx hb dX9_toldOfOne_0 rfl (lv_at hl 1 rfl) ?_
  refine lv_bipush (v := 10) hx hb dX9_toldOfOne_1 (by decide) ?_
  refine lv_icmp_lt (tgt := 33) hx hb dX9_toldOfOne_3 (by decide) (fun c1 => ?_) (fun c1 => ?_)
  · refine lv_iload_n hx hb dX9_toldOfOne_33 rfl (lv_at hl 1 rfl) ?_
    refine lv_bipush (v := 20) hx hb dX9_toldOfOne_34 (by decide) ?_
    refine lv_icmp_lt (tgt := 66) hx hb dX9_toldOfOne_36 (by decide) (fun _ => ?_) (fun c2 => False.elim (by grind))
    refine lv_iload_n hx hb dX9_toldOfOne_66 rfl (lv_at hl 1 rfl) ?_
    refine lv_bipush (v := 30) hx hb dX9_toldOfOne_67 (by decide) ?_
    refine lv_icmp_lt (tgt := 99) hx hb dX9_toldOfOne_69 (by decide) (fun _ => ?_) (fun c3 => False.elim (by grind))
    refine lv_iload_n hx hb dX9_toldOfOne_99 rfl (lv_at hl 1 rfl) ?_
    refine lv_bipush (v := 40) hx hb dX9_toldOfOne_100 (by decide) ?_
    refine lv_icmp_lt (tgt := 136) hx hb dX9_toldOfOne_102 (by decide) (fun _ => ?_) (fun c4 => False.elim (by grind))
    refine lv_iconst (v := (-1)) hx hb dX9_toldOfOne_136 (by decide) ?_
    refine W.widen (k := 0) (n := 0) (by decide) (by decide) ?_
    have hP9 := hP.sub (ws' := [(ad0, .inr (9, [.ref ad1, .ref ad2, .ref ad3, .ref ad4, .ref ad5, .ref ad6, .ref ad7, .ref ad8, .int 0, .ref ad9, .ref ad10, .ref ad11, .ref ad12, .ref ad13])), (ad2, .inr (3, [.int 0, .int 0, .int 10, .int 0, .int 0, .int 1, .ref ad14, .ref ad15, .ref ad16, .ref ad17, .ref ad18])), (ad17, .inl (ck0, 3, .inl (lf [1, 0, 0])))]) [0, 1, 2] rfl
    have hD9 := hD.sub (ws' := [(ad0, .inr (9, [.ref ad1, .ref ad2, .ref ad3, .ref ad4, .ref ad5, .ref ad6, .ref ad7, .ref ad8, .int 0, .ref ad9, .ref ad10, .ref ad11, .ref ad12, .ref ad13])), (ad2, .inr (3, [.int 0, .int 0, .int 10, .int 0, .int 0, .int 1, .ref ad14, .ref ad15, .ref ad16, .ref ad17, .ref ad18])), (ad17, .inl (ck0, 3, .inl (lf [1, 0, 0])))]) [0, 1, 2] (by decide) rfl
    have hK9 := hK.sub (tys' := [(ck0, .int)]) [0] rfl
    exact W.iret (v := (-1)) hx hb hr (fun t ht hW => ⟨⟨(-1), (), rfl, (by first | rfl | (simp only [sp_told1] at *; grind)), by rw [ht]; exact hP9, va_K.moved hW.alike hK9, hD9⟩, hS.F ht⟩) hS.2.2 dX9_toldOfOne_137
  · refine lv_iload_n hx hb dX9_toldOfOne_6 rfl (lv_at hl 1 rfl) ?_
    refine lv_bipush (v := 10) hx hb dX9_toldOfOne_7 (by decide) ?_
    refine lv_aload_n hx hb dX9_toldOfOne_9 rfl (lv_at hl 0 rfl) ?_
    refine va_get (D := (dC, dI)) (ci := 9) (v := .ref ad2) (C := RX9) (T := TX9) (N := 14) hx hb hts iw_X9_toldOfOne_X9 hown hK hP 0 rfl rfl 1 (by decide) (hts _ kk_X9_toldOfOne_0) (fun _ h9 => h9) rfl dX9_toldOfOne_10 ?_
    refine va_get (D := (dC, dI)) (ci := 3) (v := .int 0) (C := RX3) (T := TX3) (N := 11) hx hb hts iw_X9_toldOfOne_X3 hown hK hP 1 rfl rfl 0 (by decide) (hts _ kk_X9_toldOfOne_1) (fun _ h9 => h9) rfl dX9_toldOfOne_13 ?_
    refine lv_iadd hx hb dX9_toldOfOne_16 ?_
    refine px_i (v := 10) (by decide) ?_
    refine lv_icmp_ge (tgt := 33) hx hb dX9_toldOfOne_17 (by decide) (fun _ => ?_) (fun c5 => False.elim (by grind))
    refine lv_iload_n hx hb dX9_toldOfOne_33 rfl (lv_at hl 1 rfl) ?_
    refine lv_bipush (v := 20) hx hb dX9_toldOfOne_34 (by decide) ?_
    refine lv_icmp_lt (tgt := 66) hx hb dX9_toldOfOne_36 (by decide) (fun c6 => ?_) (fun c6 => ?_)
    · refine lv_iload_n hx hb dX9_toldOfOne_66 rfl (lv_at hl 1 rfl) ?_
      refine lv_bipush (v := 30) hx hb dX9_toldOfOne_67 (by decide) ?_
      refine lv_icmp_lt (tgt := 99) hx hb dX9_toldOfOne_69 (by decide) (fun _ => ?_) (fun c7 => False.elim (by grind))
      refine lv_iload_n hx hb dX9_toldOfOne_99 rfl (lv_at hl 1 rfl) ?_
      refine lv_bipush (v := 40) hx hb dX9_toldOfOne_100 (by decide) ?_
      refine lv_icmp_lt (tgt := 136) hx hb dX9_toldOfOne_102 (by decide) (fun _ => ?_) (fun c8 => False.elim (by grind))
      refine lv_iconst (v := (-1)) hx hb dX9_toldOfOne_136 (by decide) ?_
      refine W.widen (k := 0) (n := 0) (by decide) (by decide) ?_
      have hP9 := hP.sub (ws' := [(ad0, .inr (9, [.ref ad1, .ref ad2, .ref ad3, .ref ad4, .ref ad5, .ref ad6, .ref ad7, .ref ad8, .int 0, .ref ad9, .ref ad10, .ref ad11, .ref ad12, .ref ad13])), (ad2, .inr (3, [.int 0, .int 0, .int 10, .int 0, .int 0, .int 1, .ref ad14, .ref ad15, .ref ad16, .ref ad17, .ref ad18])), (ad17, .inl (ck0, 3, .inl (lf [1, 0, 0])))]) [0, 1, 2] rfl
      have hD9 := hD.sub (ws' := [(ad0, .inr (9, [.ref ad1, .ref ad2, .ref ad3, .ref ad4, .ref ad5, .ref ad6, .ref ad7, .ref ad8, .int 0, .ref ad9, .ref ad10, .ref ad11, .ref ad12, .ref ad13])), (ad2, .inr (3, [.int 0, .int 0, .int 10, .int 0, .int 0, .int 1, .ref ad14, .ref ad15, .ref ad16, .ref ad17, .ref ad18])), (ad17, .inl (ck0, 3, .inl (lf [1, 0, 0])))]) [0, 1, 2] (by decide) rfl
      have hK9 := hK.sub (tys' := [(ck0, .int)]) [0] rfl
      exact W.iret (v := (-1)) hx hb hr (fun t ht hW => ⟨⟨(-1), (), rfl, (by first | rfl | (simp only [sp_told1] at *; grind)), by rw [ht]; exact hP9, va_K.moved hW.alike hK9, hD9⟩, hS.F ht⟩) hS.2.2 dX9_toldOfOne_137
    · refine lv_iload_n hx hb dX9_toldOfOne_39 rfl (lv_at hl 1 rfl) ?_
      refine lv_bipush (v := 20) hx hb dX9_toldOfOne_40 (by decide) ?_
      refine lv_aload_n hx hb dX9_toldOfOne_42 rfl (lv_at hl 0 rfl) ?_
      refine va_get (D := (dC, dI)) (ci := 9) (v := .ref ad2) (C := RX9) (T := TX9) (N := 14) hx hb hts iw_X9_toldOfOne_X9 hown hK hP 0 rfl rfl 1 (by decide) (hts _ kk_X9_toldOfOne_0) (fun _ h9 => h9) rfl dX9_toldOfOne_43 ?_
      refine va_get (D := (dC, dI)) (ci := 3) (v := .int 0) (C := RX3) (T := TX3) (N := 11) hx hb hts iw_X9_toldOfOne_X3 hown hK hP 1 rfl rfl 1 (by decide) (hts _ kk_X9_toldOfOne_2) (fun _ h9 => h9) rfl dX9_toldOfOne_46 ?_
      refine lv_iadd hx hb dX9_toldOfOne_49 ?_
      refine px_i (v := 20) (by decide) ?_
      refine lv_icmp_ge (tgt := 66) hx hb dX9_toldOfOne_50 (by decide) (fun _ => ?_) (fun c9 => False.elim (by grind))
      refine lv_iload_n hx hb dX9_toldOfOne_66 rfl (lv_at hl 1 rfl) ?_
      refine lv_bipush (v := 30) hx hb dX9_toldOfOne_67 (by decide) ?_
      refine lv_icmp_lt (tgt := 99) hx hb dX9_toldOfOne_69 (by decide) (fun c10 => ?_) (fun c10 => ?_)
      · refine lv_iload_n hx hb dX9_toldOfOne_99 rfl (lv_at hl 1 rfl) ?_
        refine lv_bipush (v := 40) hx hb dX9_toldOfOne_100 (by decide) ?_
        refine lv_icmp_lt (tgt := 136) hx hb dX9_toldOfOne_102 (by decide) (fun _ => ?_) (fun c11 => False.elim (by grind))
        refine lv_iconst (v := (-1)) hx hb dX9_toldOfOne_136 (by decide) ?_
        refine W.widen (k := 0) (n := 0) (by decide) (by decide) ?_
        have hP9 := hP.sub (ws' := [(ad0, .inr (9, [.ref ad1, .ref ad2, .ref ad3, .ref ad4, .ref ad5, .ref ad6, .ref ad7, .ref ad8, .int 0, .ref ad9, .ref ad10, .ref ad11, .ref ad12, .ref ad13])), (ad2, .inr (3, [.int 0, .int 0, .int 10, .int 0, .int 0, .int 1, .ref ad14, .ref ad15, .ref ad16, .ref ad17, .ref ad18])), (ad17, .inl (ck0, 3, .inl (lf [1, 0, 0])))]) [0, 1, 2] rfl
        have hD9 := hD.sub (ws' := [(ad0, .inr (9, [.ref ad1, .ref ad2, .ref ad3, .ref ad4, .ref ad5, .ref ad6, .ref ad7, .ref ad8, .int 0, .ref ad9, .ref ad10, .ref ad11, .ref ad12, .ref ad13])), (ad2, .inr (3, [.int 0, .int 0, .int 10, .int 0, .int 0, .int 1, .ref ad14, .ref ad15, .ref ad16, .ref ad17, .ref ad18])), (ad17, .inl (ck0, 3, .inl (lf [1, 0, 0])))]) [0, 1, 2] (by decide) rfl
        have hK9 := hK.sub (tys' := [(ck0, .int)]) [0] rfl
        exact W.iret (v := (-1)) hx hb hr (fun t ht hW => ⟨⟨(-1), (), rfl, (by first | rfl | (simp only [sp_told1] at *; grind)), by rw [ht]; exact hP9, va_K.moved hW.alike hK9, hD9⟩, hS.F ht⟩) hS.2.2 dX9_toldOfOne_137
      · refine lv_iload_n hx hb dX9_toldOfOne_72 rfl (lv_at hl 1 rfl) ?_
        refine lv_bipush (v := 30) hx hb dX9_toldOfOne_73 (by decide) ?_
        refine lv_aload_n hx hb dX9_toldOfOne_75 rfl (lv_at hl 0 rfl) ?_
        refine va_get (D := (dC, dI)) (ci := 9) (v := .ref ad2) (C := RX9) (T := TX9) (N := 14) hx hb hts iw_X9_toldOfOne_X9 hown hK hP 0 rfl rfl 1 (by decide) (hts _ kk_X9_toldOfOne_0) (fun _ h9 => h9) rfl dX9_toldOfOne_76 ?_
        refine va_get (D := (dC, dI)) (ci := 3) (v := .int 1) (C := RX3) (T := TX3) (N := 11) hx hb hts iw_X9_toldOfOne_X3 hown hK hP 1 rfl rfl 5 (by decide) (hts _ kk_X9_toldOfOne_3) (fun _ h9 => h9) rfl dX9_toldOfOne_79 ?_
        refine lv_iadd hx hb dX9_toldOfOne_82 ?_
        refine px_i (v := 31) (by decide) ?_
        refine lv_icmp_ge (tgt := 99) hx hb dX9_toldOfOne_83 (by decide) (fun c12 => ?_) (fun c12 => ?_)
        · refine lv_iload_n hx hb dX9_toldOfOne_99 rfl (lv_at hl 1 rfl) ?_
          refine lv_bipush (v := 40) hx hb dX9_toldOfOne_100 (by decide) ?_
          refine lv_icmp_lt (tgt := 136) hx hb dX9_toldOfOne_102 (by decide) (fun c13 => ?_) (fun c13 => ?_)
          · refine lv_iconst (v := (-1)) hx hb dX9_toldOfOne_136 (by decide) ?_
            refine W.widen (k := 0) (n := 0) (by decide) (by decide) ?_
            have hP9 := hP.sub (ws' := [(ad0, .inr (9, [.ref ad1, .ref ad2, .ref ad3, .ref ad4, .ref ad5, .ref ad6, .ref ad7, .ref ad8, .int 0, .ref ad9, .ref ad10, .ref ad11, .ref ad12, .ref ad13])), (ad2, .inr (3, [.int 0, .int 0, .int 10, .int 0, .int 0, .int 1, .ref ad14, .ref ad15, .ref ad16, .ref ad17, .ref ad18])), (ad17, .inl (ck0, 3, .inl (lf [1, 0, 0])))]) [0, 1, 2] rfl
            have hD9 := hD.sub (ws' := [(ad0, .inr (9, [.ref ad1, .ref ad2, .ref ad3, .ref ad4, .ref ad5, .ref ad6, .ref ad7, .ref ad8, .int 0, .ref ad9, .ref ad10, .ref ad11, .ref ad12, .ref ad13])), (ad2, .inr (3, [.int 0, .int 0, .int 10, .int 0, .int 0, .int 1, .ref ad14, .ref ad15, .ref ad16, .ref ad17, .ref ad18])), (ad17, .inl (ck0, 3, .inl (lf [1, 0, 0])))]) [0, 1, 2] (by decide) rfl
            have hK9 := hK.sub (tys' := [(ck0, .int)]) [0] rfl
            exact W.iret (v := (-1)) hx hb hr (fun t ht hW => ⟨⟨(-1), (), rfl, (by first | rfl | (simp only [sp_told1] at *; grind)), by rw [ht]; exact hP9, va_K.moved hW.alike hK9, hD9⟩, hS.F ht⟩) hS.2.2 dX9_toldOfOne_137
          · refine lv_iload_n hx hb dX9_toldOfOne_105 rfl (lv_at hl 1 rfl) ?_
            refine lv_bipush (v := 40) hx hb dX9_toldOfOne_106 (by decide) ?_
            refine lv_aload_n hx hb dX9_toldOfOne_108 rfl (lv_at hl 0 rfl) ?_
            refine va_get (D := (dC, dI)) (ci := 9) (v := .ref ad2) (C := RX9) (T := TX9) (N := 14) hx hb hts iw_X9_toldOfOne_X9 hown hK hP 0 rfl rfl 1 (by decide) (hts _ kk_X9_toldOfOne_0) (fun _ h9 => h9) rfl dX9_toldOfOne_109 ?_
            refine va_get (D := (dC, dI)) (ci := 3) (v := .int 1) (C := RX3) (T := TX3) (N := 11) hx hb hts iw_X9_toldOfOne_X3 hown hK hP 1 rfl rfl 5 (by decide) (hts _ kk_X9_toldOfOne_3) (fun _ h9 => h9) rfl dX9_toldOfOne_112 ?_
            refine lv_iadd hx hb dX9_toldOfOne_115 ?_
            refine px_i (v := 41) (by decide) ?_
            refine lv_iconst (v := 1) hx hb dX9_toldOfOne_116 (by decide) ?_
            refine lv_isub hx hb dX9_toldOfOne_117 ?_
            refine px_i (v := 40) (by decide) ?_
            refine lv_icmp_ge (tgt := 136) hx hb dX9_toldOfOne_118 (by decide) (fun _ => ?_) (fun c14 => False.elim (by grind))
            refine lv_iconst (v := (-1)) hx hb dX9_toldOfOne_136 (by decide) ?_
            refine W.widen (k := 0) (n := 0) (by decide) (by decide) ?_
            have hP9 := hP.sub (ws' := [(ad0, .inr (9, [.ref ad1, .ref ad2, .ref ad3, .ref ad4, .ref ad5, .ref ad6, .ref ad7, .ref ad8, .int 0, .ref ad9, .ref ad10, .ref ad11, .ref ad12, .ref ad13])), (ad2, .inr (3, [.int 0, .int 0, .int 10, .int 0, .int 0, .int 1, .ref ad14, .ref ad15, .ref ad16, .ref ad17, .ref ad18])), (ad17, .inl (ck0, 3, .inl (lf [1, 0, 0])))]) [0, 1, 2] rfl
            have hD9 := hD.sub (ws' := [(ad0, .inr (9, [.ref ad1, .ref ad2, .ref ad3, .ref ad4, .ref ad5, .ref ad6, .ref ad7, .ref ad8, .int 0, .ref ad9, .ref ad10, .ref ad11, .ref ad12, .ref ad13])), (ad2, .inr (3, [.int 0, .int 0, .int 10, .int 0, .int 0, .int 1, .ref ad14, .ref ad15, .ref ad16, .ref ad17, .ref ad18])), (ad17, .inl (ck0, 3, .inl (lf [1, 0, 0])))]) [0, 1, 2] (by decide) rfl
            have hK9 := hK.sub (tys' := [(ck0, .int)]) [0] rfl
            exact W.iret (v := (-1)) hx hb hr (fun t ht hW => ⟨⟨(-1), (), rfl, (by first | rfl | (simp only [sp_told1] at *; grind)), by rw [ht]; exact hP9, va_K.moved hW.alike hK9, hD9⟩, hS.F ht⟩) hS.2.2 dX9_toldOfOne_137
        · have hpin : vi0 = 30 := by grind
          subst hpin
          refine lv_aload_n hx hb dX9_toldOfOne_86 rfl (lv_at hl 0 rfl) ?_
          refine va_get (D := (dC, dI)) (ci := 9) (v := .ref ad2) (C := RX9) (T := TX9) (N := 14) hx hb hts iw_X9_toldOfOne_X9 hown hK hP 0 rfl rfl 1 (by decide) (hts _ kk_X9_toldOfOne_0) (fun _ h9 => h9) rfl dX9_toldOfOne_87 ?_
          refine va_get (D := (dC, dI)) (ci := 3) (v := .ref ad17) (C := RX3) (T := TX3) (N := 11) hx hb hts iw_X9_toldOfOne_X3 hown hK hP 1 rfl rfl 9 (by decide) (hts _ kk_X9_toldOfOne_4) (fun _ h9 => h9) rfl dX9_toldOfOne_90 ?_
          refine lv_iload_n hx hb dX9_toldOfOne_93 rfl (lv_at hl 1 rfl) ?_
          refine lv_bipush (v := 30) hx hb dX9_toldOfOne_94 (by decide) ?_
          refine lv_isub hx hb dX9_toldOfOne_96 ?_
          refine px_i (v := 0) (by decide) ?_
          refine va_iald hx hb hK hP 2 0 rfl rfl (vq_in 0 3 (by decide)) dX9_toldOfOne_97 ?_
          refine px_i (v := 1) rfl ?_
          refine W.widen (k := 0) (n := 0) (by decide) (by decide) ?_
          have hP9 := hP.sub (ws' := [(ad0, .inr (9, [.ref ad1, .ref ad2, .ref ad3, .ref ad4, .ref ad5, .ref ad6, .ref ad7, .ref ad8, .int 0, .ref ad9, .ref ad10, .ref ad11, .ref ad12, .ref ad13])), (ad2, .inr (3, [.int 0, .int 0, .int 10, .int 0, .int 0, .int 1, .ref ad14, .ref ad15, .ref ad16, .ref ad17, .ref ad18])), (ad17, .inl (ck0, 3, .inl (lf [1, 0, 0])))]) [0, 1, 2] rfl
          have hD9 := hD.sub (ws' := [(ad0, .inr (9, [.ref ad1, .ref ad2, .ref ad3, .ref ad4, .ref ad5, .ref ad6, .ref ad7, .ref ad8, .int 0, .ref ad9, .ref ad10, .ref ad11, .ref ad12, .ref ad13])), (ad2, .inr (3, [.int 0, .int 0, .int 10, .int 0, .int 0, .int 1, .ref ad14, .ref ad15, .ref ad16, .ref ad17, .ref ad18])), (ad17, .inl (ck0, 3, .inl (lf [1, 0, 0])))]) [0, 1, 2] (by decide) rfl
          have hK9 := hK.sub (tys' := [(ck0, .int)]) [0] rfl
          exact W.iret (v := 1) hx hb hr (fun t ht hW => ⟨⟨1, (), rfl, (by first | rfl | (simp only [sp_told1] at *; grind)), by rw [ht]; exact hP9, va_K.moved hW.alike hK9, hD9⟩, hS.F ht⟩) hS.2.2 dX9_toldOfOne_98

set_option maxHeartbeats 4000000 in
set_option maxRecDepth 100000 in
theorem ct_X9_told (l : Launch) (dC : Nat → ClassId) (dI : Nat → Nat → Nat) (ad0 : Nat) (vi0 : Int32) (ad1 : Nat) (ad2 : Nat) (ad3 : Nat) (ad4 : Nat) (ad5 : Nat) (ad6 : Nat) (ad7 : Nat) (ad8 : Nat) (ad9 : Nat) (ad10 : Nat) (ad11 : Nat) (ad12 : Nat) (ad13 : Nat) (ad14 : Nat) (ad15 : Nat) (ad16 : Nat) (ad17 : Nat) (ad18 : Nat) (ck0 : ClassId) (sz : Nat) : Met l yX9_told wsX9_told ({ frames := 1, cells := 0, slots := 0, locals := 21 }) (va_Pc [.ref ad0, .int vi0] (fun U => U.heap.size = sz ∧ va_P (dC, dI) vwCl [(ad0, .inr (9, [.ref ad1, .ref ad2, .ref ad3, .ref ad4, .ref ad5, .ref ad6, .ref ad7, .ref ad8, .int 0, .ref ad9, .ref ad10, .ref ad11, .ref ad12, .ref ad13])), (ad2, .inr (3, [.int 0, .int 0, .int 10, .int 0, .int 0, .int 1, .ref ad14, .ref ad15, .ref ad16, .ref ad17, .ref ad18])), (ad17, .inl (ck0, 3, .inl (lf [1, 0, 0])))] U.heap ∧ va_K (dC, dI) vwCl [(ck0, .int)] U ∧ va_D (fun _ => True) [(ad0, .inr (9, [.ref ad1, .ref ad2, .ref ad3, .ref ad4, .ref ad5, .ref ad6, .ref ad7, .ref ad8, .int 0, .ref ad9, .ref ad10, .ref ad11, .ref ad12, .ref ad13])), (ad2, .inr (3, [.int 0, .int 0, .int 10, .int 0, .int 0, .int 1, .ref ad14, .ref ad15, .ref ad16, .ref ad17, .ref ad18])), (ad17, .inl (ck0, 3, .inl (lf [1, 0, 0])))])) (va_Qi (fun (r : Int32) (_ : Unit) => r = sp_told vi0) (fun _ _ => True) (va_A [(ad0, .inr (9, [.ref ad1, .ref ad2, .ref ad3, .ref ad4, .ref ad5, .ref ad6, .ref ad7, .ref ad8, .int 0, .ref ad9, .ref ad10, .ref ad11, .ref ad12, .ref ad13])), (ad2, .inr (3, [.int 0, .int 0, .int 10, .int 0, .int 0, .int 1, .ref ad14, .ref ad15, .ref ad16, .ref ad17, .ref ad18])), (ad17, .inl (ck0, 3, .inl (lf [1, 0, 0])))] sz)) 0 0 (va_A [(ad0, .inr (9, [.ref ad1, .ref ad2, .ref ad3, .ref ad4, .ref ad5, .ref ad6, .ref ad7, .ref ad8, .int 0, .ref ad9, .ref ad10, .ref ad11, .ref ad12, .ref ad13])), (ad2, .inr (3, [.int 0, .int 0, .int 10, .int 0, .int 0, .int 1, .ref ad14, .ref ad15, .ref ad16, .ref ad17, .ref ad18])), (ad17, .inl (ck0, 3, .inl (lf [1, 0, 0])))] sz) := by
  refine Met.ofW (cc := cX9_told) (maxL := 2) (ret := (some .int)) (by decide) rfl ?_
  intro p e s m args below meth c s₁ B hml hv
  obtain ⟨rfl, hsz, hP, hK, hD0⟩ := hv
  have hx := B.exec
  have hb := B.bytes
  have hr := B.returns
  have hts := atoms_spec (ws := wsX9_told) B.pre
  have hown : s.vm.findClass RX9 = some m.cls := findClass_of_methodNamed B.named
  have hlocks := B.notSynchronized
  subst hsz
  have hD := hD0.self (sz := s.heap.size)
  generalize hAe : va_A [(ad0, .inr (9, [.ref ad1, .ref ad2, .ref ad3, .ref ad4, .ref ad5, .ref ad6, .ref ad7, .ref ad8, .int 0, .ref ad9, .ref ad10, .ref ad11, .ref ad12, .ref ad13])), (ad2, .inr (3, [.int 0, .int 0, .int 10, .int 0, .int 0, .int 1, .ref ad14, .ref ad15, .ref ad16, .ref ad17, .ref ad18])), (ad17, .inl (ck0, 3, .inl (lf [1, 0, 0])))] s.heap.size = A at hD ⊢
  have hA : ∀ q : Nat, s.heap.size ≤ q → A q := fun q h => by rw [← hAe]; exact Or.inr h
  have hS : va_S A s.heap s.heap [] := va_S.rf
  have hP : va_P (dC, dI) vwCl [(ad0, .inr (9, [.ref ad1, .ref ad2, .ref ad3, .ref ad4, .ref ad5, .ref ad6, .ref ad7, .ref ad8, .int 0, .ref ad9, .ref ad10, .ref ad11, .ref ad12, .ref ad13])), (ad2, .inr (3, [.int 0, .int 0, .int 10, .int 0, .int 0, .int 1, .ref ad14, .ref ad15, .ref ad16, .ref ad17, .ref ad18])), (ad17, .inl (ck0, 3, .inl (lf [1, 0, 0])))] s.heap := hP
  have hl := lv_entry ([.ref ad0, .int vi0]) (n := 2) (Nat.le_of_ble_eq_true rfl)
  rw [lg_entry_eq]
  generalize (lg_sl ([.ref ad0, .int vi0]) ++ List.replicate (2 - (lg_sl ([.ref ad0, .int vi0])).length) Slot.unset).toArray = ls at hl ⊢
  have hl : lv_has ls 2 [(0, .ref ad0), (1, .int vi0)] := hl
  refine lv_iload_n hx hb dX9_told_0 rfl (lv_at hl 1 rfl) ?_
  by_cases c1 : vi0 = 0
  · skip
    have hpin : vi0 = 0 := by grind
    subst hpin
    refine lv_tableIn (off := 39) (tgt := 40) hx hb dX9_told_1 (by decide) (by decide) rfl (by decide) ?_
    refine lv_aload_n hx hb dX9_told_40 rfl (lv_at hl 0 rfl) ?_
    refine va_get (D := (dC, dI)) (ci := 9) (v := .ref ad2) (C := RX9) (T := TX9) (N := 14) hx hb hts iw_X9_told_X9 hown hK hP 0 rfl rfl 1 (by decide) (hts _ kk_X9_told_0) (fun _ h9 => h9) rfl dX9_told_41 ?_
    refine va_get (D := (dC, dI)) (ci := 3) (v := .int 0) (C := RX3) (T := TX3) (N := 11) hx hb hts iw_X9_told_X3 hown hK hP 1 rfl rfl 0 (by decide) (hts _ kk_X9_told_1) (fun _ h9 => h9) rfl dX9_told_44 ?_
    refine W.widen (k := 0) (n := 0) (by decide) (by decide) ?_
    exact W.iret (v := 0) hx hb hr (fun t ht hW => ⟨⟨0, (), rfl, (by first | rfl | (simp only [sp_told, sp_told1] at *; grind)), trivial⟩, hS.F ht⟩) hS.2.2 dX9_told_47
  -- else
  by_cases c2 : vi0 = 1
  · skip
    have hpin : vi0 = 1 := by grind
    subst hpin
    refine lv_tableIn (off := 47) (tgt := 48) hx hb dX9_told_1 (by decide) (by decide) rfl (by decide) ?_
    refine lv_aload_n hx hb dX9_told_48 rfl (lv_at hl 0 rfl) ?_
    refine va_get (D := (dC, dI)) (ci := 9) (v := .ref ad2) (C := RX9) (T := TX9) (N := 14) hx hb hts iw_X9_told_X9 hown hK hP 0 rfl rfl 1 (by decide) (hts _ kk_X9_told_0) (fun _ h9 => h9) rfl dX9_told_49 ?_
    refine va_get (D := (dC, dI)) (ci := 3) (v := .int 0) (C := RX3) (T := TX3) (N := 11) hx hb hts iw_X9_told_X3 hown hK hP 1 rfl rfl 1 (by decide) (hts _ kk_X9_told_2) (fun _ h9 => h9) rfl dX9_told_52 ?_
    refine W.widen (k := 0) (n := 0) (by decide) (by decide) ?_
    exact W.iret (v := 0) hx hb hr (fun t ht hW => ⟨⟨0, (), rfl, (by first | rfl | (simp only [sp_told, sp_told1] at *; grind)), trivial⟩, hS.F ht⟩) hS.2.2 dX9_told_55
  -- else
  by_cases c3 : vi0 = 2
  · skip
    have hpin : vi0 = 2 := by grind
    subst hpin
    refine lv_tableIn (off := 55) (tgt := 56) hx hb dX9_told_1 (by decide) (by decide) rfl (by decide) ?_
    refine lv_aload_n hx hb dX9_told_56 rfl (lv_at hl 0 rfl) ?_
    refine va_get (D := (dC, dI)) (ci := 9) (v := .ref ad2) (C := RX9) (T := TX9) (N := 14) hx hb hts iw_X9_told_X9 hown hK hP 0 rfl rfl 1 (by decide) (hts _ kk_X9_told_0) (fun _ h9 => h9) rfl dX9_told_57 ?_
    refine va_get (D := (dC, dI)) (ci := 3) (v := .int 10) (C := RX3) (T := TX3) (N := 11) hx hb hts iw_X9_told_X3 hown hK hP 1 rfl rfl 2 (by decide) (hts _ kk_X9_told_3) (fun _ h9 => h9) rfl dX9_told_60 ?_
    refine W.widen (k := 0) (n := 0) (by decide) (by decide) ?_
    exact W.iret (v := 10) hx hb hr (fun t ht hW => ⟨⟨10, (), rfl, (by first | rfl | (simp only [sp_told, sp_told1] at *; grind)), trivial⟩, hS.F ht⟩) hS.2.2 dX9_told_63
  -- else
  by_cases c4 : vi0 = 3
  · skip
    have hpin : vi0 = 3 := by grind
    subst hpin
    refine lv_tableIn (off := 63) (tgt := 64) hx hb dX9_told_1 (by decide) (by decide) rfl (by decide) ?_
    refine lv_aload_n hx hb dX9_told_64 rfl (lv_at hl 0 rfl) ?_
    refine va_get (D := (dC, dI)) (ci := 9) (v := .ref ad2) (C := RX9) (T := TX9) (N := 14) hx hb hts iw_X9_told_X9 hown hK hP 0 rfl rfl 1 (by decide) (hts _ kk_X9_told_0) (fun _ h9 => h9) rfl dX9_told_65 ?_
    refine va_get (D := (dC, dI)) (ci := 3) (v := .int 0) (C := RX3) (T := TX3) (N := 11) hx hb hts iw_X9_told_X3 hown hK hP 1 rfl rfl 3 (by decide) (hts _ kk_X9_told_4) (fun _ h9 => h9) rfl dX9_told_68 ?_
    refine W.widen (k := 0) (n := 0) (by decide) (by decide) ?_
    exact W.iret (v := 0) hx hb hr (fun t ht hW => ⟨⟨0, (), rfl, (by first | rfl | (simp only [sp_told, sp_told1] at *; grind)), trivial⟩, hS.F ht⟩) hS.2.2 dX9_told_71
  -- else
  by_cases c5 : vi0 = 4
  · skip
    have hpin : vi0 = 4 := by grind
    subst hpin
    refine lv_tableIn (off := 71) (tgt := 72) hx hb dX9_told_1 (by decide) (by decide) rfl (by decide) ?_
    refine lv_aload_n hx hb dX9_told_72 rfl (lv_at hl 0 rfl) ?_
    refine va_get (D := (dC, dI)) (ci := 9) (v := .ref ad2) (C := RX9) (T := TX9) (N := 14) hx hb hts iw_X9_told_X9 hown hK hP 0 rfl rfl 1 (by decide) (hts _ kk_X9_told_0) (fun _ h9 => h9) rfl dX9_told_73 ?_
    refine va_get (D := (dC, dI)) (ci := 3) (v := .int 0) (C := RX3) (T := TX3) (N := 11) hx hb hts iw_X9_told_X3 hown hK hP 1 rfl rfl 4 (by decide) (hts _ kk_X9_told_5) (fun _ h9 => h9) rfl dX9_told_76 ?_
    refine W.widen (k := 0) (n := 0) (by decide) (by decide) ?_
    exact W.iret (v := 0) hx hb hr (fun t ht hW => ⟨⟨0, (), rfl, (by first | rfl | (simp only [sp_told, sp_told1] at *; grind)), trivial⟩, hS.F ht⟩) hS.2.2 dX9_told_79
  -- else
  by_cases c6 : vi0 = 5
  · skip
    have hpin : vi0 = 5 := by grind
    subst hpin
    refine lv_tableIn (off := 79) (tgt := 80) hx hb dX9_told_1 (by decide) (by decide) rfl (by decide) ?_
    refine lv_aload_n hx hb dX9_told_80 rfl (lv_at hl 0 rfl) ?_
    refine va_get (D := (dC, dI)) (ci := 9) (v := .ref ad2) (C := RX9) (T := TX9) (N := 14) hx hb hts iw_X9_told_X9 hown hK hP 0 rfl rfl 1 (by decide) (hts _ kk_X9_told_0) (fun _ h9 => h9) rfl dX9_told_81 ?_
    refine va_get (D := (dC, dI)) (ci := 3) (v := .int 1) (C := RX3) (T := TX3) (N := 11) hx hb hts iw_X9_told_X3 hown hK hP 1 rfl rfl 5 (by decide) (hts _ kk_X9_told_6) (fun _ h9 => h9) rfl dX9_told_84 ?_
    refine W.widen (k := 0) (n := 0) (by decide) (by decide) ?_
    exact W.iret (v := 1) hx hb hr (fun t ht hW => ⟨⟨1, (), rfl, (by first | rfl | (simp only [sp_told, sp_told1] at *; grind)), trivial⟩, hS.F ht⟩) hS.2.2 dX9_told_87
  -- else
  refine lv_tableOut (tgt := 88) hx hb dX9_told_1 (by have z0 := lv_neT c1 (show (0 : Int32).toInt = 0 by decide); have z1 := lv_neT c2 (show (1 : Int32).toInt = 1 by decide); have z2 := lv_neT c3 (show (2 : Int32).toInt = 2 by decide); have z3 := lv_neT c4 (show (3 : Int32).toInt = 3 by decide); have z4 := lv_neT c5 (show (4 : Int32).toInt = 4 by decide); have z5 := lv_neT c6 (show (5 : Int32).toInt = 5 by decide); omega) (by decide) ?_
  refine lv_aload_n hx hb dX9_told_88 rfl (lv_at hl 0 rfl) ?_
  refine lv_iload_n hx hb dX9_told_89 rfl (lv_at hl 1 rfl) ?_
  have hPc := hP.sub (ws' := [(ad0, .inr (9, [.ref ad1, .ref ad2, .ref ad3, .ref ad4, .ref ad5, .ref ad6, .ref ad7, .ref ad8, .int 0, .ref ad9, .ref ad10, .ref ad11, .ref ad12, .ref ad13])), (ad2, .inr (3, [.int 0, .int 0, .int 10, .int 0, .int 0, .int 1, .ref ad14, .ref ad15, .ref ad16, .ref ad17, .ref ad18])), (ad17, .inl (ck0, 3, .inl (lf [1, 0, 0])))]) [0, 1, 2] rfl
  have hDc := hD.sub (ws' := [(ad0, .inr (9, [.ref ad1, .ref ad2, .ref ad3, .ref ad4, .ref ad5, .ref ad6, .ref ad7, .ref ad8, .int 0, .ref ad9, .ref ad10, .ref ad11, .ref ad12, .ref ad13])), (ad2, .inr (3, [.int 0, .int 0, .int 10, .int 0, .int 0, .int 1, .ref ad14, .ref ad15, .ref ad16, .ref ad17, .ref ad18])), (ad17, .inl (ck0, 3, .inl (lf [1, 0, 0])))]) [0, 1, 2] (by decide) rfl
  have hKc := hK.sub (tys' := [(ck0, .int)]) [0] rfl
  have hFc := va_free (wc := [(ad0, .inr (9, [.ref ad1, .ref ad2, .ref ad3, .ref ad4, .ref ad5, .ref ad6, .ref ad7, .ref ad8, .int 0, .ref ad9, .ref ad10, .ref ad11, .ref ad12, .ref ad13])), (ad2, .inr (3, [.int 0, .int 0, .int 10, .int 0, .int 0, .int 1, .ref ad14, .ref ad15, .ref ad16, .ref ad17, .ref ad18])), (ad17, .inl (ck0, 3, .inl (lf [1, 0, 0])))]) hD hS hA [0, 1, 2] rfl
  refine va_calli (va_runV (As := [.int vi0]) (rest := []) ⟨hx, hb, hml, hown, hts⟩ (ct_X9_toldOfOne l dC dI ad0 vi0 ad1 ad2 ad3 ad4 ad5 ad6 ad7 ad8 ad9 ad10 ad11 ad12 ad13 ad14 ad15 ad16 ad17 ad18 ck0 s.heap.size) (cwV 1 hts gX9_told_X9_toldOfOne rfl rfl rfl (by decide +kernel) ⟨Nat.le_of_ble_eq_true rfl, Nat.le_of_ble_eq_true rfl⟩) ⟨fun a U g mk q => by obtain ⟨q0, q1, qP, qK, qD⟩ := q; exact ⟨q0, q1, qP, va_K.moved (u := U) (U := U.calling g mk a) (Vm.Alike.refl U.vm) qK, qD⟩, va_recv hKc hPc (ci := 9) (q0 := 0) rfl rfl, fun U hU hW => ⟨rfl, by rw [hU], by rw [hU]; exact hPc, va_K.moved hW.alike hKc, hDc.weaken (fun _ _ _ _ => trivial)⟩⟩ rfl rfl hl.1 rfl (lv_room (Nat.le_of_ble_eq_true rfl)) dX9_told_90 ⟨Nat.le_of_ble_eq_true rfl, Nat.le_of_ble_eq_true rfl⟩) hS (fun q _ h => hFc q h) hFc (fun r7 u t H1 locs ht hvm hw hB hz1 hk1 hS => ?_)
  obtain ⟨hP1, hK1, hD1⟩ := hB
  rw [ht] at hP1
  have hK1 := va_K.moved hvm.symm hK1
  obtain ⟨hP, hD⟩ := va_join (wr := []) (w1 := [(ad0, .inr (9, [.ref ad1, .ref ad2, .ref ad3, .ref ad4, .ref ad5, .ref ad6, .ref ad7, .ref ad8, .int 0, .ref ad9, .ref ad10, .ref ad11, .ref ad12, .ref ad13])), (ad2, .inr (3, [.int 0, .int 0, .int 10, .int 0, .int 0, .int 1, .ref ad14, .ref ad15, .ref ad16, .ref ad17, .ref ad18])), (ad17, .inl (ck0, 3, .inl (lf [1, 0, 0])))]) hP hD [0, 1, 2] [] rfl rfl (by decide) (by decide) hk1 hFc hP1 hD1
  have hK := (hK.sub (tys' := []) [] rfl).app hK1
  clear hPc hDc hKc hFc hP1 hD1 hK1 hk1 hz1
  generalize H1 = H at hP hS ⊢
  have hP : va_P (dC, dI) vwCl [(ad0, .inr (9, [.ref ad1, .ref ad2, .ref ad3, .ref ad4, .ref ad5, .ref ad6, .ref ad7, .ref ad8, .int 0, .ref ad9, .ref ad10, .ref ad11, .ref ad12, .ref ad13])), (ad2, .inr (3, [.int 0, .int 0, .int 10, .int 0, .int 0, .int 1, .ref ad14, .ref ad15, .ref ad16, .ref ad17, .ref ad18])), (ad17, .inl (ck0, 3, .inl (lf [1, 0, 0])))] H := hP
  have hD : va_D A [(ad0, .inr (9, [.ref ad1, .ref ad2, .ref ad3, .ref ad4, .ref ad5, .ref ad6, .ref ad7, .ref ad8, .int 0, .ref ad9, .ref ad10, .ref ad11, .ref ad12, .ref ad13])), (ad2, .inr (3, [.int 0, .int 0, .int 10, .int 0, .int 0, .int 1, .ref ad14, .ref ad15, .ref ad16, .ref ad17, .ref ad18])), (ad17, .inl (ck0, 3, .inl (lf [1, 0, 0])))] := hD
  have hK : va_K (dC, dI) vwCl [(ck0, .int)] s := hK
  refine W.widen (k := 0) (n := 0) (by decide) (by decide) ?_
  have w8 : r7 = sp_told1 vi0 := hw
  refine W.widen (k := 0) (n := 0) (by decide) (by decide) ?_
  exact W.iret (v := r7) hx hb hr (fun t ht hW => ⟨⟨r7, (), rfl, (by first | rfl | (simp only [sp_told, sp_told1] at *; grind)), trivial⟩, hS.F ht⟩) hS.2.2 dX9_told_93

set_option maxHeartbeats 4000000 in
set_option maxRecDepth 100000 in
theorem ct_X9_isWork (l : Launch) (dC : Nat → ClassId) (dI : Nat → Nat → Nat) (ad0 : Nat) (vi0 : Int32) (ad1 : Nat) (ad2 : Nat) (ad3 : Nat) (ad4 : Nat) (ad5 : Nat) (ad6 : Nat) (ad7 : Nat) (ad8 : Nat) (ad9 : Nat) (ad10 : Nat) (ad11 : Nat) (ad12 : Nat) (ad13 : Nat) (ad14 : Nat) (ad15 : Nat) (ad16 : Nat) (ad17 : Nat) (ad18 : Nat) (sz : Nat) : Met l yX9_isWork wsX9_isWork ({ frames := 0, cells := 0, slots := 0, locals := 0 }) (va_Pc [.ref ad0, .int vi0] (fun U => U.heap.size = sz ∧ va_P (dC, dI) vwCl [(ad0, .inr (9, [.ref ad1, .ref ad2, .ref ad3, .ref ad4, .ref ad5, .ref ad6, .ref ad7, .ref ad8, .int 0, .ref ad9, .ref ad10, .ref ad11, .ref ad12, .ref ad13])), (ad2, .inr (3, [.int 0, .int 0, .int 10, .int 0, .int 0, .int 1, .ref ad14, .ref ad15, .ref ad16, .ref ad17, .ref ad18]))] U.heap ∧ va_K (dC, dI) vwCl [] U ∧ va_D (fun _ => True) [(ad0, .inr (9, [.ref ad1, .ref ad2, .ref ad3, .ref ad4, .ref ad5, .ref ad6, .ref ad7, .ref ad8, .int 0, .ref ad9, .ref ad10, .ref ad11, .ref ad12, .ref ad13])), (ad2, .inr (3, [.int 0, .int 0, .int 10, .int 0, .int 0, .int 1, .ref ad14, .ref ad15, .ref ad16, .ref ad17, .ref ad18]))])) (va_Qi (fun (r : Int32) (_ : Unit) => r = 0) (fun _ t => va_P (dC, dI) vwCl [(ad0, .inr (9, [.ref ad1, .ref ad2, .ref ad3, .ref ad4, .ref ad5, .ref ad6, .ref ad7, .ref ad8, .int 0, .ref ad9, .ref ad10, .ref ad11, .ref ad12, .ref ad13])), (ad2, .inr (3, [.int 0, .int 0, .int 10, .int 0, .int 0, .int 1, .ref ad14, .ref ad15, .ref ad16, .ref ad17, .ref ad18]))] t.heap ∧ va_K (dC, dI) vwCl [] t ∧ va_D (va_A [(ad0, .inr (9, [.ref ad1, .ref ad2, .ref ad3, .ref ad4, .ref ad5, .ref ad6, .ref ad7, .ref ad8, .int 0, .ref ad9, .ref ad10, .ref ad11, .ref ad12, .ref ad13])), (ad2, .inr (3, [.int 0, .int 0, .int 10, .int 0, .int 0, .int 1, .ref ad14, .ref ad15, .ref ad16, .ref ad17, .ref ad18]))] sz) [(ad0, .inr (9, [.ref ad1, .ref ad2, .ref ad3, .ref ad4, .ref ad5, .ref ad6, .ref ad7, .ref ad8, .int 0, .ref ad9, .ref ad10, .ref ad11, .ref ad12, .ref ad13])), (ad2, .inr (3, [.int 0, .int 0, .int 10, .int 0, .int 0, .int 1, .ref ad14, .ref ad15, .ref ad16, .ref ad17, .ref ad18]))]) (va_A [(ad0, .inr (9, [.ref ad1, .ref ad2, .ref ad3, .ref ad4, .ref ad5, .ref ad6, .ref ad7, .ref ad8, .int 0, .ref ad9, .ref ad10, .ref ad11, .ref ad12, .ref ad13])), (ad2, .inr (3, [.int 0, .int 0, .int 10, .int 0, .int 0, .int 1, .ref ad14, .ref ad15, .ref ad16, .ref ad17, .ref ad18]))] sz)) 0 0 (va_A [(ad0, .inr (9, [.ref ad1, .ref ad2, .ref ad3, .ref ad4, .ref ad5, .ref ad6, .ref ad7, .ref ad8, .int 0, .ref ad9, .ref ad10, .ref ad11, .ref ad12, .ref ad13])), (ad2, .inr (3, [.int 0, .int 0, .int 10, .int 0, .int 0, .int 1, .ref ad14, .ref ad15, .ref ad16, .ref ad17, .ref ad18]))] sz) := by
  refine Met.ofW (cc := cX9_isWork) (maxL := 2) (ret := (some .boolean)) (by decide) rfl ?_
  intro p e s m args below meth c s₁ B hml hv
  obtain ⟨rfl, hsz, hP, hK, hD0⟩ := hv
  have hx := B.exec
  have hb := B.bytes
  have hr := B.returns
  have hts := atoms_spec (ws := wsX9_isWork) B.pre
  have hown : s.vm.findClass RX9 = some m.cls := findClass_of_methodNamed B.named
  have hlocks := B.notSynchronized
  subst hsz
  have hD := hD0.self (sz := s.heap.size)
  generalize hAe : va_A [(ad0, .inr (9, [.ref ad1, .ref ad2, .ref ad3, .ref ad4, .ref ad5, .ref ad6, .ref ad7, .ref ad8, .int 0, .ref ad9, .ref ad10, .ref ad11, .ref ad12, .ref ad13])), (ad2, .inr (3, [.int 0, .int 0, .int 10, .int 0, .int 0, .int 1, .ref ad14, .ref ad15, .ref ad16, .ref ad17, .ref ad18]))] s.heap.size = A at hD ⊢
  have hA : ∀ q : Nat, s.heap.size ≤ q → A q := fun q h => by rw [← hAe]; exact Or.inr h
  have hS : va_S A s.heap s.heap [] := va_S.rf
  have hP : va_P (dC, dI) vwCl [(ad0, .inr (9, [.ref ad1, .ref ad2, .ref ad3, .ref ad4, .ref ad5, .ref ad6, .ref ad7, .ref ad8, .int 0, .ref ad9, .ref ad10, .ref ad11, .ref ad12, .ref ad13])), (ad2, .inr (3, [.int 0, .int 0, .int 10, .int 0, .int 0, .int 1, .ref ad14, .ref ad15, .ref ad16, .ref ad17, .ref ad18]))] s.heap := hP
  have hl := lv_entry ([.ref ad0, .int vi0]) (n := 2) (Nat.le_of_ble_eq_true rfl)
  rw [lg_entry_eq]
  generalize (lg_sl ([.ref ad0, .int vi0]) ++ List.replicate (2 - (lg_sl ([.ref ad0, .int vi0])).length) Slot.unset).toArray = ls at hl ⊢
  have hl : lv_has ls 2 [(0, .ref ad0), (1, .int vi0)] := hl
  refine lv_iload_n hx hb dX9_isWork_0 rfl (lv_at hl 1 rfl) ?_
  refine lv_if_lt (tgt := 19) hx hb dX9_isWork_1 (by decide) (fun c1 => ?_) (fun c1 => ?_)
  · refine lv_iconst (v := 0) hx hb dX9_isWork_19 (by decide) ?_
    refine W.widen (k := 0) (n := 0) (by decide) (by decide) ?_
    have hP9 := hP.sub (ws' := [(ad0, .inr (9, [.ref ad1, .ref ad2, .ref ad3, .ref ad4, .ref ad5, .ref ad6, .ref ad7, .ref ad8, .int 0, .ref ad9, .ref ad10, .ref ad11, .ref ad12, .ref ad13])), (ad2, .inr (3, [.int 0, .int 0, .int 10, .int 0, .int 0, .int 1, .ref ad14, .ref ad15, .ref ad16, .ref ad17, .ref ad18]))]) [0, 1] rfl
    have hD9 := hD.sub (ws' := [(ad0, .inr (9, [.ref ad1, .ref ad2, .ref ad3, .ref ad4, .ref ad5, .ref ad6, .ref ad7, .ref ad8, .int 0, .ref ad9, .ref ad10, .ref ad11, .ref ad12, .ref ad13])), (ad2, .inr (3, [.int 0, .int 0, .int 10, .int 0, .int 0, .int 1, .ref ad14, .ref ad15, .ref ad16, .ref ad17, .ref ad18]))]) [0, 1] (by decide) rfl
    have hK9 := hK.sub (tys' := []) [] rfl
    exact W.zret (v := 0) hx hb hr rfl (fun t ht hW => ⟨⟨0, (), rfl, rfl, by rw [ht]; exact hP9, va_K.moved hW.alike hK9, hD9⟩, hS.F ht⟩) hS.2.2 dX9_isWork_20
  · refine lv_iload_n hx hb dX9_isWork_4 rfl (lv_at hl 1 rfl) ?_
    refine lv_aload_n hx hb dX9_isWork_5 rfl (lv_at hl 0 rfl) ?_
    refine va_get (D := (dC, dI)) (ci := 9) (v := .ref ad2) (C := RX9) (T := TX9) (N := 14) hx hb hts iw_X9_isWork_X9 hown hK hP 0 rfl rfl 1 (by decide) (hts _ kk_X9_isWork_0) (fun _ h9 => h9) rfl dX9_isWork_6 ?_
    refine va_get (D := (dC, dI)) (ci := 3) (v := .int 0) (C := RX3) (T := TX3) (N := 11) hx hb hts iw_X9_isWork_X3 hown hK hP 1 rfl rfl 1 (by decide) (hts _ kk_X9_isWork_1) (fun _ h9 => h9) rfl dX9_isWork_9 ?_
    refine lv_icmp_ge (tgt := 19) hx hb dX9_isWork_12 (by decide) (fun _ => ?_) (fun c2 => False.elim (by grind))
    refine lv_iconst (v := 0) hx hb dX9_isWork_19 (by decide) ?_
    refine W.widen (k := 0) (n := 0) (by decide) (by decide) ?_
    have hP9 := hP.sub (ws' := [(ad0, .inr (9, [.ref ad1, .ref ad2, .ref ad3, .ref ad4, .ref ad5, .ref ad6, .ref ad7, .ref ad8, .int 0, .ref ad9, .ref ad10, .ref ad11, .ref ad12, .ref ad13])), (ad2, .inr (3, [.int 0, .int 0, .int 10, .int 0, .int 0, .int 1, .ref ad14, .ref ad15, .ref ad16, .ref ad17, .ref ad18]))]) [0, 1] rfl
    have hD9 := hD.sub (ws' := [(ad0, .inr (9, [.ref ad1, .ref ad2, .ref ad3, .ref ad4, .ref ad5, .ref ad6, .ref ad7, .ref ad8, .int 0, .ref ad9, .ref ad10, .ref ad11, .ref ad12, .ref ad13])), (ad2, .inr (3, [.int 0, .int 0, .int 10, .int 0, .int 0, .int 1, .ref ad14, .ref ad15, .ref ad16, .ref ad17, .ref ad18]))]) [0, 1] (by decide) rfl
    have hK9 := hK.sub (tys' := []) [] rfl
    exact W.zret (v := 0) hx hb hr rfl (fun t ht hW => ⟨⟨0, (), rfl, rfl, by rw [ht]; exact hP9, va_K.moved hW.alike hK9, hD9⟩, hS.F ht⟩) hS.2.2 dX9_isWork_20

set_option maxHeartbeats 4000000 in
set_option maxRecDepth 100000 in
theorem ct_X9_chance (l : Launch) (dC : Nat → ClassId) (dI : Nat → Nat → Nat) (ad0 : Nat) (vi0 : Int32) (vi1 : Int32) (ad1 : Nat) (ad2 : Nat) (ad3 : Nat) (ad4 : Nat) (ad5 : Nat) (ad6 : Nat) (ad7 : Nat) (ad8 : Nat) (ad9 : Nat) (ad10 : Nat) (ad11 : Nat) (ad12 : Nat) (ad13 : Nat) (ad14 : Nat) (ad15 : Nat) (ad16 : Nat) (ad17 : Nat) (ad18 : Nat) (sz : Nat) : Met l yX9_chance wsX9_chance ({ frames := 1, cells := 0, slots := 0, locals := 21 }) (va_Pc [.ref ad0, .int vi0, .int vi1] (fun U => U.heap.size = sz ∧ va_P (dC, dI) vwCl [(ad0, .inr (9, [.ref ad1, .ref ad2, .ref ad3, .ref ad4, .ref ad5, .ref ad6, .ref ad7, .ref ad8, .int 0, .ref ad9, .ref ad10, .ref ad11, .ref ad12, .ref ad13])), (ad2, .inr (3, [.int 0, .int 0, .int 10, .int 0, .int 0, .int 1, .ref ad14, .ref ad15, .ref ad16, .ref ad17, .ref ad18]))] U.heap ∧ va_K (dC, dI) vwCl [] U ∧ va_D (fun _ => True) [(ad0, .inr (9, [.ref ad1, .ref ad2, .ref ad3, .ref ad4, .ref ad5, .ref ad6, .ref ad7, .ref ad8, .int 0, .ref ad9, .ref ad10, .ref ad11, .ref ad12, .ref ad13])), (ad2, .inr (3, [.int 0, .int 0, .int 10, .int 0, .int 0, .int 1, .ref ad14, .ref ad15, .ref ad16, .ref ad17, .ref ad18]))])) (va_Qi (fun (r : Int32) (_ : Unit) => r = (-2)) (fun _ _ => True) (va_A [(ad0, .inr (9, [.ref ad1, .ref ad2, .ref ad3, .ref ad4, .ref ad5, .ref ad6, .ref ad7, .ref ad8, .int 0, .ref ad9, .ref ad10, .ref ad11, .ref ad12, .ref ad13])), (ad2, .inr (3, [.int 0, .int 0, .int 10, .int 0, .int 0, .int 1, .ref ad14, .ref ad15, .ref ad16, .ref ad17, .ref ad18]))] sz)) 0 0 (va_A [(ad0, .inr (9, [.ref ad1, .ref ad2, .ref ad3, .ref ad4, .ref ad5, .ref ad6, .ref ad7, .ref ad8, .int 0, .ref ad9, .ref ad10, .ref ad11, .ref ad12, .ref ad13])), (ad2, .inr (3, [.int 0, .int 0, .int 10, .int 0, .int 0, .int 1, .ref ad14, .ref ad15, .ref ad16, .ref ad17, .ref ad18]))] sz) := by
  refine Met.ofW (cc := cX9_chance) (maxL := 3) (ret := (some .int)) (by decide) rfl ?_
  intro p e s m args below meth c s₁ B hml hv
  obtain ⟨rfl, hsz, hP, hK, hD0⟩ := hv
  have hx := B.exec
  have hb := B.bytes
  have hr := B.returns
  have hts := atoms_spec (ws := wsX9_chance) B.pre
  have hown : s.vm.findClass RX9 = some m.cls := findClass_of_methodNamed B.named
  have hlocks := B.notSynchronized
  subst hsz
  have hD := hD0.self (sz := s.heap.size)
  generalize hAe : va_A [(ad0, .inr (9, [.ref ad1, .ref ad2, .ref ad3, .ref ad4, .ref ad5, .ref ad6, .ref ad7, .ref ad8, .int 0, .ref ad9, .ref ad10, .ref ad11, .ref ad12, .ref ad13])), (ad2, .inr (3, [.int 0, .int 0, .int 10, .int 0, .int 0, .int 1, .ref ad14, .ref ad15, .ref ad16, .ref ad17, .ref ad18]))] s.heap.size = A at hD ⊢
  have hA : ∀ q : Nat, s.heap.size ≤ q → A q := fun q h => by rw [← hAe]; exact Or.inr h
  have hS : va_S A s.heap s.heap [] := va_S.rf
  have hP : va_P (dC, dI) vwCl [(ad0, .inr (9, [.ref ad1, .ref ad2, .ref ad3, .ref ad4, .ref ad5, .ref ad6, .ref ad7, .ref ad8, .int 0, .ref ad9, .ref ad10, .ref ad11, .ref ad12, .ref ad13])), (ad2, .inr (3, [.int 0, .int 0, .int 10, .int 0, .int 0, .int 1, .ref ad14, .ref ad15, .ref ad16, .ref ad17, .ref ad18]))] s.heap := hP
  have hl := lv_entry ([.ref ad0, .int vi0, .int vi1]) (n := 3) (Nat.le_of_ble_eq_true rfl)
  rw [lg_entry_eq]
  generalize (lg_sl ([.ref ad0, .int vi0, .int vi1]) ++ List.replicate (3 - (lg_sl ([.ref ad0, .int vi0, .int vi1])).length) Slot.unset).toArray = ls at hl ⊢
  have hl : lv_has ls 3 [(0, .ref ad0), (1, .int vi0), (2, .int vi1)] := hl
  refine lv_aload_n hx hb dX9_chance_0 rfl (lv_at hl 0 rfl) ?_
  refine lv_iload_n hx hb dX9_chance_1 rfl (lv_at hl 1 rfl) ?_
  have hPc := hP.sub (ws' := [(ad0, .inr (9, [.ref ad1, .ref ad2, .ref ad3, .ref ad4, .ref ad5, .ref ad6, .ref ad7, .ref ad8, .int 0, .ref ad9, .ref ad10, .ref ad11, .ref ad12, .ref ad13])), (ad2, .inr (3, [.int 0, .int 0, .int 10, .int 0, .int 0, .int 1, .ref ad14, .ref ad15, .ref ad16, .ref ad17, .ref ad18]))]) [0, 1] rfl
  have hDc := hD.sub (ws' := [(ad0, .inr (9, [.ref ad1, .ref ad2, .ref ad3, .ref ad4, .ref ad5, .ref ad6, .ref ad7, .ref ad8, .int 0, .ref ad9, .ref ad10, .ref ad11, .ref ad12, .ref ad13])), (ad2, .inr (3, [.int 0, .int 0, .int 10, .int 0, .int 0, .int 1, .ref ad14, .ref ad15, .ref ad16, .ref ad17, .ref ad18]))]) [0, 1] (by decide) rfl
  have hKc := hK.sub (tys' := []) [] rfl
  have hFc := va_free (wc := [(ad0, .inr (9, [.ref ad1, .ref ad2, .ref ad3, .ref ad4, .ref ad5, .ref ad6, .ref ad7, .ref ad8, .int 0, .ref ad9, .ref ad10, .ref ad11, .ref ad12, .ref ad13])), (ad2, .inr (3, [.int 0, .int 0, .int 10, .int 0, .int 0, .int 1, .ref ad14, .ref ad15, .ref ad16, .ref ad17, .ref ad18]))]) hD hS hA [0, 1] rfl
  refine va_calli (va_runV (As := [.int vi0]) (rest := []) ⟨hx, hb, hml, hown, hts⟩ (ct_X9_isWork l dC dI ad0 vi0 ad1 ad2 ad3 ad4 ad5 ad6 ad7 ad8 ad9 ad10 ad11 ad12 ad13 ad14 ad15 ad16 ad17 ad18 s.heap.size) (cwV 1 hts gX9_chance_X9_isWork rfl rfl rfl (by decide +kernel) ⟨Nat.le_of_ble_eq_true rfl, Nat.le_of_ble_eq_true rfl⟩) ⟨fun a U g mk q => by obtain ⟨q0, q1, qP, qK, qD⟩ := q; exact ⟨q0, q1, qP, va_K.moved (u := U) (U := U.calling g mk a) (Vm.Alike.refl U.vm) qK, qD⟩, va_recv hKc hPc (ci := 9) (q0 := 0) rfl rfl, fun U hU hW => ⟨rfl, by rw [hU], by rw [hU]; exact hPc, va_K.moved hW.alike hKc, hDc.weaken (fun _ _ _ _ => trivial)⟩⟩ rfl rfl hl.1 rfl (lv_room (Nat.le_of_ble_eq_true rfl)) dX9_chance_2 ⟨Nat.le_of_ble_eq_true rfl, Nat.le_of_ble_eq_true rfl⟩) hS (fun q _ h => hFc q h) hFc (fun r1 u t H1 locs ht hvm hw hB hz1 hk1 hS => ?_)
  obtain ⟨hP1, hK1, hD1⟩ := hB
  rw [ht] at hP1
  have hK1 := va_K.moved hvm.symm hK1
  obtain ⟨hP, hD⟩ := va_join (wr := []) (w1 := [(ad0, .inr (9, [.ref ad1, .ref ad2, .ref ad3, .ref ad4, .ref ad5, .ref ad6, .ref ad7, .ref ad8, .int 0, .ref ad9, .ref ad10, .ref ad11, .ref ad12, .ref ad13])), (ad2, .inr (3, [.int 0, .int 0, .int 10, .int 0, .int 0, .int 1, .ref ad14, .ref ad15, .ref ad16, .ref ad17, .ref ad18]))]) hP hD [0, 1] [] rfl rfl (by decide) (by decide) hk1 hFc hP1 hD1
  have hK := (hK.sub (tys' := []) [] rfl).app hK1
  clear hPc hDc hKc hFc hP1 hD1 hK1 hk1 hz1
  generalize H1 = H at hP hS ⊢
  have hP : va_P (dC, dI) vwCl [(ad0, .inr (9, [.ref ad1, .ref ad2, .ref ad3, .ref ad4, .ref ad5, .ref ad6, .ref ad7, .ref ad8, .int 0, .ref ad9, .ref ad10, .ref ad11, .ref ad12, .ref ad13])), (ad2, .inr (3, [.int 0, .int 0, .int 10, .int 0, .int 0, .int 1, .ref ad14, .ref ad15, .ref ad16, .ref ad17, .ref ad18]))] H := hP
  have hD : va_D A [(ad0, .inr (9, [.ref ad1, .ref ad2, .ref ad3, .ref ad4, .ref ad5, .ref ad6, .ref ad7, .ref ad8, .int 0, .ref ad9, .ref ad10, .ref ad11, .ref ad12, .ref ad13])), (ad2, .inr (3, [.int 0, .int 0, .int 10, .int 0, .int 0, .int 1, .ref ad14, .ref ad15, .ref ad16, .ref ad17, .ref ad18]))] := hD
  have hK : va_K (dC, dI) vwCl [] s := hK
  refine W.widen (k := 0) (n := 0) (by decide) (by decide) ?_
  have hw : r1 = 0 := hw
  subst hw
  refine lv_if_eq (tgt := 30) hx hb dX9_chance_5 (by decide) (fun _ => ?_) (fun cz => absurd cz (by decide))
  refine lv_bipush (v := (-2)) hx hb dX9_chance_30 (by decide) ?_
  refine W.widen (k := 0) (n := 0) (by decide) (by decide) ?_
  exact W.iret (v := (-2)) hx hb hr (fun t ht hW => ⟨⟨(-2), (), rfl, rfl, trivial⟩, hS.F ht⟩) hS.2.2 dX9_chance_32

set_option maxHeartbeats 4000000 in
set_option maxRecDepth 100000 in
theorem ct_X3_feltOf (l : Launch) (dC : Nat → ClassId) (dI : Nat → Nat → Nat) (ad0 : Nat) (vi0 : Int32) (ad1 : Nat) (ad2 : Nat) (ad3 : Nat) (ad4 : Nat) (ad5 : Nat) (ck0 : ClassId) (sz : Nat) : Met l yX3_feltOf wsX3_feltOf ({ frames := 0, cells := 0, slots := 0, locals := 0 }) (va_Pc [.ref ad0, .int vi0] (fun U => U.heap.size = sz ∧ va_P (dC, dI) vwCl [(ad0, .inr (3, [.int 0, .int 0, .int 10, .int 0, .int 0, .int 1, .ref ad1, .ref ad2, .ref ad3, .ref ad4, .ref ad5])), (ad4, .inl (ck0, 3, .inl (lf [1, 0, 0])))] U.heap ∧ va_K (dC, dI) vwCl [(ck0, .int)] U ∧ va_D (fun _ => True) [(ad0, .inr (3, [.int 0, .int 0, .int 10, .int 0, .int 0, .int 1, .ref ad1, .ref ad2, .ref ad3, .ref ad4, .ref ad5])), (ad4, .inl (ck0, 3, .inl (lf [1, 0, 0])))])) (va_Qi (fun (r : Int32) (_ : Unit) => r = sp_felt vi0) (fun _ t => va_P (dC, dI) vwCl [(ad0, .inr (3, [.int 0, .int 0, .int 10, .int 0, .int 0, .int 1, .ref ad1, .ref ad2, .ref ad3, .ref ad4, .ref ad5])), (ad4, .inl (ck0, 3, .inl (lf [1, 0, 0])))] t.heap ∧ va_K (dC, dI) vwCl [(ck0, .int)] t ∧ va_D (va_A [(ad0, .inr (3, [.int 0, .int 0, .int 10, .int 0, .int 0, .int 1, .ref ad1, .ref ad2, .ref ad3, .ref ad4, .ref ad5])), (ad4, .inl (ck0, 3, .inl (lf [1, 0, 0])))] sz) [(ad0, .inr (3, [.int 0, .int 0, .int 10, .int 0, .int 0, .int 1, .ref ad1, .ref ad2, .ref ad3, .ref ad4, .ref ad5])), (ad4, .inl (ck0, 3, .inl (lf [1, 0, 0])))]) (va_A [(ad0, .inr (3, [.int 0, .int 0, .int 10, .int 0, .int 0, .int 1, .ref ad1, .ref ad2, .ref ad3, .ref ad4, .ref ad5])), (ad4, .inl (ck0, 3, .inl (lf [1, 0, 0])))] sz)) 0 0 (va_A [(ad0, .inr (3, [.int 0, .int 0, .int 10, .int 0, .int 0, .int 1, .ref ad1, .ref ad2, .ref ad3, .ref ad4, .ref ad5])), (ad4, .inl (ck0, 3, .inl (lf [1, 0, 0])))] sz) := by
  refine Met.ofW (cc := cX3_feltOf) (maxL := 6) (ret := (some .int)) (by decide) rfl ?_
  intro p e s m args below meth c s₁ B hml hv
  obtain ⟨rfl, hsz, hP, hK, hD0⟩ := hv
  have hx := B.exec
  have hb := B.bytes
  have hr := B.returns
  have hts := atoms_spec (ws := wsX3_feltOf) B.pre
  have hown : s.vm.findClass RX3 = some m.cls := findClass_of_methodNamed B.named
  have hlocks := B.notSynchronized
  subst hsz
  have hD := hD0.self (sz := s.heap.size)
  generalize hAe : va_A [(ad0, .inr (3, [.int 0, .int 0, .int 10, .int 0, .int 0, .int 1, .ref ad1, .ref ad2, .ref ad3, .ref ad4, .ref ad5])), (ad4, .inl (ck0, 3, .inl (lf [1, 0, 0])))] s.heap.size = A at hD ⊢
  have hA : ∀ q : Nat, s.heap.size ≤ q → A q := fun q h => by rw [← hAe]; exact Or.inr h
  have hS : va_S A s.heap s.heap [] := va_S.rf
  have hP : va_P (dC, dI) vwCl [(ad0, .inr (3, [.int 0, .int 0, .int 10, .int 0, .int 0, .int 1, .ref ad1, .ref ad2, .ref ad3, .ref ad4, .ref ad5])), (ad4, .inl (ck0, 3, .inl (lf [1, 0, 0])))] s.heap := hP
  have hl := lv_entry ([.ref ad0, .int vi0]) (n := 6) (Nat.le_of_ble_eq_true rfl)
  rw [lg_entry_eq]
  generalize (lg_sl ([.ref ad0, .int vi0]) ++ List.replicate (6 - (lg_sl ([.ref ad0, .int vi0])).length) Slot.unset).toArray = ls at hl ⊢
  have hl : lv_has ls 6 [(0, .ref ad0), (1, .int vi0)] := hl
  refine lv_iconst (v := 0) hx hb dX3_feltOf_0 (by decide) ?_
  refine lv_istore_n (lv' := [(2, .int 0), (0, .ref ad0), (1, .int vi0)]) hx hb dX3_feltOf_1 rfl hl (by decide) rfl (fun ls hl => ?_)
  refine lv_iconst (v := 0) hx hb dX3_feltOf_2 (by decide) ?_
  refine lv_istore_n (lv' := [(3, .int 0), (2, .int 0), (0, .ref ad0), (1, .int vi0)]) hx hb dX3_feltOf_3 rfl hl (by decide) rfl (fun ls hl => ?_)
  refine lv_iconst (v := 0) hx hb dX3_feltOf_4 (by decide) ?_
  refine lv_istore (lv' := [(4, .int 0), (3, .int 0), (2, .int 0), (0, .ref ad0), (1, .int vi0)]) hx hb dX3_feltOf_5 hl (by decide) rfl (fun ls hl => ?_)
  refine lv_iload hx hb dX3_feltOf_7 (lv_at hl 0 rfl) ?_
  refine lv_aload_n hx hb dX3_feltOf_9 rfl (lv_at hl 3 rfl) ?_
  refine va_get (D := (dC, dI)) (ci := 3) (v := .int 1) (C := RX3) (T := TX3) (N := 11) hx hb hts iw_X3_feltOf_X3 hown hK hP 0 rfl rfl 5 (by decide) (hts _ kk_X3_feltOf_0) (fun _ h9 => h9) rfl dX3_feltOf_10 ?_
  refine lv_icmp_ge (tgt := 74) hx hb dX3_feltOf_13 (by decide) (fun cz => absurd cz (by decide)) (fun _ => ?_)
  refine lv_iload hx hb dX3_feltOf_16 (lv_at hl 0 rfl) ?_
  refine lv_aload_n hx hb dX3_feltOf_18 rfl (lv_at hl 3 rfl) ?_
  refine va_get (D := (dC, dI)) (ci := 3) (v := .int 1) (C := RX3) (T := TX3) (N := 11) hx hb hts iw_X3_feltOf_X3 hown hK hP 0 rfl rfl 5 (by decide) (hts _ kk_X3_feltOf_0) (fun _ h9 => h9) rfl dX3_feltOf_19 ?_
  refine lv_iconst (v := 1) hx hb dX3_feltOf_22 (by decide) ?_
  refine lv_isub hx hb dX3_feltOf_23 ?_
  refine px_i (v := 0) (by decide) ?_
  refine lv_icmp_ne (tgt := 31) hx hb dX3_feltOf_24 (by decide) (fun cz => absurd cz (by decide)) (fun _ => ?_)
  refine lv_iload_n hx hb dX3_feltOf_27 rfl (lv_at hl 4 rfl) ?_
  refine lv_goto (tgt := 42) hx hb dX3_feltOf_28 (by decide) ?_
  refine lv_istore (lv' := [(5, .int vi0), (4, .int 0), (3, .int 0), (2, .int 0), (0, .ref ad0), (1, .int vi0)]) hx hb dX3_feltOf_42 hl (by decide) rfl (fun ls hl => ?_)
  refine lv_iload hx hb dX3_feltOf_44 (lv_at hl 0 rfl) ?_
  refine lv_iload_n hx hb dX3_feltOf_46 rfl (lv_at hl 2 rfl) ?_
  refine lv_icmp_le (tgt := 68) hx hb dX3_feltOf_47 (by decide) (fun c1 => ?_) (fun c1 => ?_)
  · refine lv_iinc (v := 1) (lv' := [(4, .int 1), (5, .int vi0), (3, .int 0), (2, .int 0), (0, .ref ad0), (1, .int vi0)]) hx hb dX3_feltOf_68 hl (k := 1) rfl (by decide) (by decide) rfl (fun ls hl => ?_)
    refine lv_goto (tgt := 7) hx hb dX3_feltOf_71 (by decide) ?_
    refine lv_iload hx hb dX3_feltOf_7 (lv_at hl 0 rfl) ?_
    refine lv_aload_n hx hb dX3_feltOf_9 rfl (lv_at hl 4 rfl) ?_
    refine va_get (D := (dC, dI)) (ci := 3) (v := .int 1) (C := RX3) (T := TX3) (N := 11) hx hb hts iw_X3_feltOf_X3 hown hK hP 0 rfl rfl 5 (by decide) (hts _ kk_X3_feltOf_0) (fun _ h9 => h9) rfl dX3_feltOf_10 ?_
    refine lv_icmp_ge (tgt := 74) hx hb dX3_feltOf_13 (by decide) (fun _ => ?_) (fun cz => absurd cz (by decide))
    refine lv_iload_n hx hb dX3_feltOf_74 rfl (lv_at hl 3 rfl) ?_
    refine W.widen (k := 0) (n := 0) (by decide) (by decide) ?_
    have hP9 := hP.sub (ws' := [(ad0, .inr (3, [.int 0, .int 0, .int 10, .int 0, .int 0, .int 1, .ref ad1, .ref ad2, .ref ad3, .ref ad4, .ref ad5])), (ad4, .inl (ck0, 3, .inl (lf [1, 0, 0])))]) [0, 1] rfl
    have hD9 := hD.sub (ws' := [(ad0, .inr (3, [.int 0, .int 0, .int 10, .int 0, .int 0, .int 1, .ref ad1, .ref ad2, .ref ad3, .ref ad4, .ref ad5])), (ad4, .inl (ck0, 3, .inl (lf [1, 0, 0])))]) [0, 1] (by decide) rfl
    have hK9 := hK.sub (tys' := [(ck0, .int)]) [0] rfl
    exact W.iret (v := 0) hx hb hr (fun t ht hW => ⟨⟨0, (), rfl, (by simp only [sp_felt] at *; grind), by rw [ht]; exact hP9, va_K.moved hW.alike hK9, hD9⟩, hS.F ht⟩) hS.2.2 dX3_feltOf_75
  · refine lv_iload_n hx hb dX3_feltOf_50 rfl (lv_at hl 3 rfl) ?_
    refine lv_aload_n hx hb dX3_feltOf_51 rfl (lv_at hl 4 rfl) ?_
    refine va_get (D := (dC, dI)) (ci := 3) (v := .ref ad4) (C := RX3) (T := TX3) (N := 11) hx hb hts iw_X3_feltOf_X3 hown hK hP 0 rfl rfl 9 (by decide) (hts _ kk_X3_feltOf_1) (fun _ h9 => h9) rfl dX3_feltOf_52 ?_
    refine lv_iload hx hb dX3_feltOf_55 (lv_at hl 1 rfl) ?_
    refine va_iald hx hb hK hP 1 0 rfl rfl (vq_in 0 3 (by decide)) dX3_feltOf_57 ?_
    refine px_i (v := 1) rfl ?_
    refine lv_iload hx hb dX3_feltOf_58 (lv_at hl 0 rfl) ?_
    refine lv_iload_n hx hb dX3_feltOf_60 rfl (lv_at hl 2 rfl) ?_
    refine lv_isub hx hb dX3_feltOf_61 ?_
    refine lv_topi (fun x2 ex2 => ?_)
    refine lv_imul hx hb dX3_feltOf_62 ?_
    refine lv_topi (fun x3 ex3 => ?_)
    refine lv_iadd hx hb dX3_feltOf_63 ?_
    refine lv_topi (fun x4 ex4 => ?_)
    refine lv_istore_n (lv' := [(2, .int x4), (5, .int vi0), (4, .int 0), (3, .int 0), (0, .ref ad0), (1, .int vi0)]) hx hb dX3_feltOf_64 rfl hl (by decide) rfl (fun ls hl => ?_)
    refine lv_iload hx hb dX3_feltOf_65 (lv_at hl 1 rfl) ?_
    refine lv_istore_n (lv' := [(3, .int vi0), (2, .int x4), (5, .int vi0), (4, .int 0), (0, .ref ad0), (1, .int vi0)]) hx hb dX3_feltOf_67 rfl hl (by decide) rfl (fun ls hl => ?_)
    refine lv_iinc (v := 1) (lv' := [(4, .int 1), (3, .int vi0), (2, .int x4), (5, .int vi0), (0, .ref ad0), (1, .int vi0)]) hx hb dX3_feltOf_68 hl (k := 3) rfl (by decide) (by decide) rfl (fun ls hl => ?_)
    refine lv_goto (tgt := 7) hx hb dX3_feltOf_71 (by decide) ?_
    refine lv_iload hx hb dX3_feltOf_7 (lv_at hl 0 rfl) ?_
    refine lv_aload_n hx hb dX3_feltOf_9 rfl (lv_at hl 4 rfl) ?_
    refine va_get (D := (dC, dI)) (ci := 3) (v := .int 1) (C := RX3) (T := TX3) (N := 11) hx hb hts iw_X3_feltOf_X3 hown hK hP 0 rfl rfl 5 (by decide) (hts _ kk_X3_feltOf_0) (fun _ h9 => h9) rfl dX3_feltOf_10 ?_
    refine lv_icmp_ge (tgt := 74) hx hb dX3_feltOf_13 (by decide) (fun _ => ?_) (fun cz => absurd cz (by decide))
    refine lv_iload_n hx hb dX3_feltOf_74 rfl (lv_at hl 2 rfl) ?_
    refine W.widen (k := 0) (n := 0) (by decide) (by decide) ?_
    have hP9 := hP.sub (ws' := [(ad0, .inr (3, [.int 0, .int 0, .int 10, .int 0, .int 0, .int 1, .ref ad1, .ref ad2, .ref ad3, .ref ad4, .ref ad5])), (ad4, .inl (ck0, 3, .inl (lf [1, 0, 0])))]) [0, 1] rfl
    have hD9 := hD.sub (ws' := [(ad0, .inr (3, [.int 0, .int 0, .int 10, .int 0, .int 0, .int 1, .ref ad1, .ref ad2, .ref ad3, .ref ad4, .ref ad5])), (ad4, .inl (ck0, 3, .inl (lf [1, 0, 0])))]) [0, 1] (by decide) rfl
    have hK9 := hK.sub (tys' := [(ck0, .int)]) [0] rfl
    exact W.iret (v := x4) hx hb hr (fun t ht hW => ⟨⟨x4, (), rfl, (by simp only [sp_felt] at *; grind), by rw [ht]; exact hP9, va_K.moved hW.alike hK9, hD9⟩, hS.F ht⟩) hS.2.2 dX3_feltOf_75

set_option maxHeartbeats 4000000 in
set_option maxRecDepth 100000 in
theorem ct_X9_feeling (l : Launch) (dC : Nat → ClassId) (dI : Nat → Nat → Nat) (ad0 : Nat) (vi0 : Int32) (ad1 : Nat) (ad2 : Nat) (ad3 : Nat) (ad4 : Nat) (ad5 : Nat) (ad6 : Nat) (ad7 : Nat) (ad8 : Nat) (ad9 : Nat) (ad10 : Nat) (ad11 : Nat) (ad12 : Nat) (ad13 : Nat) (ad14 : Nat) (ad15 : Nat) (ad16 : Nat) (ad17 : Nat) (ad18 : Nat) (ck0 : ClassId) (sz : Nat) : Met l yX9_feeling wsX9_feeling ({ frames := 1, cells := 0, slots := 0, locals := 25 }) (va_Pc [.ref ad0, .int vi0] (fun U => U.heap.size = sz ∧ va_P (dC, dI) vwCl [(ad0, .inr (9, [.ref ad1, .ref ad2, .ref ad3, .ref ad4, .ref ad5, .ref ad6, .ref ad7, .ref ad8, .int 0, .ref ad9, .ref ad10, .ref ad11, .ref ad12, .ref ad13])), (ad2, .inr (3, [.int 0, .int 0, .int 10, .int 0, .int 0, .int 1, .ref ad14, .ref ad15, .ref ad16, .ref ad17, .ref ad18])), (ad17, .inl (ck0, 3, .inl (lf [1, 0, 0])))] U.heap ∧ va_K (dC, dI) vwCl [(ck0, .int)] U ∧ va_D (fun _ => True) [(ad0, .inr (9, [.ref ad1, .ref ad2, .ref ad3, .ref ad4, .ref ad5, .ref ad6, .ref ad7, .ref ad8, .int 0, .ref ad9, .ref ad10, .ref ad11, .ref ad12, .ref ad13])), (ad2, .inr (3, [.int 0, .int 0, .int 10, .int 0, .int 0, .int 1, .ref ad14, .ref ad15, .ref ad16, .ref ad17, .ref ad18])), (ad17, .inl (ck0, 3, .inl (lf [1, 0, 0])))])) (va_Qi (fun (r : Int32) (_ : Unit) => r = sp_feeling vi0) (fun _ _ => True) (va_A [(ad0, .inr (9, [.ref ad1, .ref ad2, .ref ad3, .ref ad4, .ref ad5, .ref ad6, .ref ad7, .ref ad8, .int 0, .ref ad9, .ref ad10, .ref ad11, .ref ad12, .ref ad13])), (ad2, .inr (3, [.int 0, .int 0, .int 10, .int 0, .int 0, .int 1, .ref ad14, .ref ad15, .ref ad16, .ref ad17, .ref ad18])), (ad17, .inl (ck0, 3, .inl (lf [1, 0, 0])))] sz)) 0 0 (va_A [(ad0, .inr (9, [.ref ad1, .ref ad2, .ref ad3, .ref ad4, .ref ad5, .ref ad6, .ref ad7, .ref ad8, .int 0, .ref ad9, .ref ad10, .ref ad11, .ref ad12, .ref ad13])), (ad2, .inr (3, [.int 0, .int 0, .int 10, .int 0, .int 0, .int 1, .ref ad14, .ref ad15, .ref ad16, .ref ad17, .ref ad18])), (ad17, .inl (ck0, 3, .inl (lf [1, 0, 0])))] sz) := by
  refine Met.ofW (cc := cX9_feeling) (maxL := 2) (ret := (some .int)) (by decide) rfl ?_
  intro p e s m args below meth c s₁ B hml hv
  obtain ⟨rfl, hsz, hP, hK, hD0⟩ := hv
  have hx := B.exec
  have hb := B.bytes
  have hr := B.returns
  have hts := atoms_spec (ws := wsX9_feeling) B.pre
  have hown : s.vm.findClass RX9 = some m.cls := findClass_of_methodNamed B.named
  have hlocks := B.notSynchronized
  subst hsz
  have hD := hD0.self (sz := s.heap.size)
  generalize hAe : va_A [(ad0, .inr (9, [.ref ad1, .ref ad2, .ref ad3, .ref ad4, .ref ad5, .ref ad6, .ref ad7, .ref ad8, .int 0, .ref ad9, .ref ad10, .ref ad11, .ref ad12, .ref ad13])), (ad2, .inr (3, [.int 0, .int 0, .int 10, .int 0, .int 0, .int 1, .ref ad14, .ref ad15, .ref ad16, .ref ad17, .ref ad18])), (ad17, .inl (ck0, 3, .inl (lf [1, 0, 0])))] s.heap.size = A at hD ⊢
  have hA : ∀ q : Nat, s.heap.size ≤ q → A q := fun q h => by rw [← hAe]; exact Or.inr h
  have hS : va_S A s.heap s.heap [] := va_S.rf
  have hP : va_P (dC, dI) vwCl [(ad0, .inr (9, [.ref ad1, .ref ad2, .ref ad3, .ref ad4, .ref ad5, .ref ad6, .ref ad7, .ref ad8, .int 0, .ref ad9, .ref ad10, .ref ad11, .ref ad12, .ref ad13])), (ad2, .inr (3, [.int 0, .int 0, .int 10, .int 0, .int 0, .int 1, .ref ad14, .ref ad15, .ref ad16, .ref ad17, .ref ad18])), (ad17, .inl (ck0, 3, .inl (lf [1, 0, 0])))] s.heap := hP
  have hl := lv_entry ([.ref ad0, .int vi0]) (n := 2) (Nat.le_of_ble_eq_true rfl)
  rw [lg_entry_eq]
  generalize (lg_sl ([.ref ad0, .int vi0]) ++ List.replicate (2 - (lg_sl ([.ref ad0, .int vi0])).length) Slot.unset).toArray = ls at hl ⊢
  have hl : lv_has ls 2 [(0, .ref ad0), (1, .int vi0)] := hl
  refine lv_iload_n hx hb dX9_feeling_0 rfl (lv_at hl 1 rfl) ?_
  refine lv_if_lt (tgt := 11) hx hb dX9_feeling_1 (by decide) (fun c1 => ?_) (fun c1 => ?_)
  · refine lv_bipush (v := (-2)) hx hb dX9_feeling_11 (by decide) ?_
    refine lv_goto (tgt := 24) hx hb dX9_feeling_13 (by decide) ?_
    refine W.widen (k := 0) (n := 0) (by decide) (by decide) ?_
    exact W.iret (v := (-2)) hx hb hr (fun t ht hW => ⟨⟨(-2), (), rfl, (by first | rfl | (simp only [sp_feeling, sp_felt] at *; grind)), trivial⟩, hS.F ht⟩) hS.2.2 dX9_feeling_24
  · refine lv_iload_n hx hb dX9_feeling_4 rfl (lv_at hl 1 rfl) ?_
    refine lv_sipush (v := 9999) hx hb dX9_feeling_5 (by decide) ?_
    refine lv_icmp_le (tgt := 16) hx hb dX9_feeling_8 (by decide) (fun c2 => ?_) (fun c2 => ?_)
    · refine lv_aload_n hx hb dX9_feeling_16 rfl (lv_at hl 0 rfl) ?_
      refine va_get (D := (dC, dI)) (ci := 9) (v := .ref ad2) (C := RX9) (T := TX9) (N := 14) hx hb hts iw_X9_feeling_X9 hown hK hP 0 rfl rfl 1 (by decide) (hts _ kk_X9_feeling_0) (fun _ h9 => h9) rfl dX9_feeling_17 ?_
      refine lv_iload_n hx hb dX9_feeling_20 rfl (lv_at hl 1 rfl) ?_
      have hPc := hP.sub (ws' := [(ad2, .inr (3, [.int 0, .int 0, .int 10, .int 0, .int 0, .int 1, .ref ad14, .ref ad15, .ref ad16, .ref ad17, .ref ad18])), (ad17, .inl (ck0, 3, .inl (lf [1, 0, 0])))]) [1, 2] rfl
      have hDc := hD.sub (ws' := [(ad2, .inr (3, [.int 0, .int 0, .int 10, .int 0, .int 0, .int 1, .ref ad14, .ref ad15, .ref ad16, .ref ad17, .ref ad18])), (ad17, .inl (ck0, 3, .inl (lf [1, 0, 0])))]) [1, 2] (by decide) rfl
      have hKc := hK.sub (tys' := [(ck0, .int)]) [0] rfl
      have hFc := va_free (wc := [(ad2, .inr (3, [.int 0, .int 0, .int 10, .int 0, .int 0, .int 1, .ref ad14, .ref ad15, .ref ad16, .ref ad17, .ref ad18])), (ad17, .inl (ck0, 3, .inl (lf [1, 0, 0])))]) hD hS hA [1, 2] rfl
      refine va_calli (va_runV (As := [.int vi0]) (rest := []) ⟨hx, hb, hml, hown, hts⟩ (ct_X3_feltOf l dC dI ad2 vi0 ad14 ad15 ad16 ad17 ad18 ck0 s.heap.size) (cwV 1 hts gX9_feeling_X3_feltOf rfl rfl rfl (by decide +kernel) ⟨Nat.le_of_ble_eq_true rfl, Nat.le_of_ble_eq_true rfl⟩) ⟨fun a U g mk q => by obtain ⟨q0, q1, qP, qK, qD⟩ := q; exact ⟨q0, q1, qP, va_K.moved (u := U) (U := U.calling g mk a) (Vm.Alike.refl U.vm) qK, qD⟩, va_recv hKc hPc (ci := 3) (q0 := 0) rfl rfl, fun U hU hW => ⟨rfl, by rw [hU], by rw [hU]; exact hPc, va_K.moved hW.alike hKc, hDc.weaken (fun _ _ _ _ => trivial)⟩⟩ rfl rfl hl.1 rfl (lv_room (Nat.le_of_ble_eq_true rfl)) dX9_feeling_21 ⟨Nat.le_of_ble_eq_true rfl, Nat.le_of_ble_eq_true rfl⟩) hS (fun q _ h => hFc q h) hFc (fun r3 u t H1 locs ht hvm hw hB hz1 hk1 hS => ?_)
      obtain ⟨hP1, hK1, hD1⟩ := hB
      rw [ht] at hP1
      have hK1 := va_K.moved hvm.symm hK1
      obtain ⟨hP, hD⟩ := va_join (wr := [(ad0, .inr (9, [.ref ad1, .ref ad2, .ref ad3, .ref ad4, .ref ad5, .ref ad6, .ref ad7, .ref ad8, .int 0, .ref ad9, .ref ad10, .ref ad11, .ref ad12, .ref ad13]))]) (w1 := [(ad2, .inr (3, [.int 0, .int 0, .int 10, .int 0, .int 0, .int 1, .ref ad14, .ref ad15, .ref ad16, .ref ad17, .ref ad18])), (ad17, .inl (ck0, 3, .inl (lf [1, 0, 0])))]) hP hD [1, 2] [0] rfl rfl (by decide) (by decide) hk1 hFc hP1 hD1
      have hK := (hK.sub (tys' := []) [] rfl).app hK1
      clear hPc hDc hKc hFc hP1 hD1 hK1 hk1 hz1
      generalize H1 = H at hP hS ⊢
      have hP : va_P (dC, dI) vwCl [(ad0, .inr (9, [.ref ad1, .ref ad2, .ref ad3, .ref ad4, .ref ad5, .ref ad6, .ref ad7, .ref ad8, .int 0, .ref ad9, .ref ad10, .ref ad11, .ref ad12, .ref ad13])), (ad2, .inr (3, [.int 0, .int 0, .int 10, .int 0, .int 0, .int 1, .ref ad14, .ref ad15, .ref ad16, .ref ad17, .ref ad18])), (ad17, .inl (ck0, 3, .inl (lf [1, 0, 0])))] H := hP
      have hD : va_D A [(ad0, .inr (9, [.ref ad1, .ref ad2, .ref ad3, .ref ad4, .ref ad5, .ref ad6, .ref ad7, .ref ad8, .int 0, .ref ad9, .ref ad10, .ref ad11, .ref ad12, .ref ad13])), (ad2, .inr (3, [.int 0, .int 0, .int 10, .int 0, .int 0, .int 1, .ref ad14, .ref ad15, .ref ad16, .ref ad17, .ref ad18])), (ad17, .inl (ck0, 3, .inl (lf [1, 0, 0])))] := hD
      have hK : va_K (dC, dI) vwCl [(ck0, .int)] s := hK
      refine W.widen (k := 0) (n := 0) (by decide) (by decide) ?_
      have w4 : r3 = sp_felt vi0 := hw
      refine W.widen (k := 0) (n := 0) (by decide) (by decide) ?_
      exact W.iret (v := r3) hx hb hr (fun t ht hW => ⟨⟨r3, (), rfl, (by first | rfl | (simp only [sp_feeling, sp_felt] at *; grind)), trivial⟩, hS.F ht⟩) hS.2.2 dX9_feeling_24
    · refine lv_bipush (v := (-2)) hx hb dX9_feeling_11 (by decide) ?_
      refine lv_goto (tgt := 24) hx hb dX9_feeling_13 (by decide) ?_
      refine W.widen (k := 0) (n := 0) (by decide) (by decide) ?_
      exact W.iret (v := (-2)) hx hb hr (fun t ht hW => ⟨⟨(-2), (), rfl, (by first | rfl | (simp only [sp_feeling, sp_felt] at *; grind)), trivial⟩, hS.F ht⟩) hS.2.2 dX9_feeling_24

set_option maxHeartbeats 4000000 in
set_option maxRecDepth 100000 in
theorem ct_X9_isSign (l : Launch) (dC : Nat → ClassId) (dI : Nat → Nat → Nat) (ad0 : Nat) (vi0 : Int32) (ad1 : Nat) (ad2 : Nat) (ad3 : Nat) (ad4 : Nat) (ad5 : Nat) (ad6 : Nat) (ad7 : Nat) (ad8 : Nat) (ad9 : Nat) (ad10 : Nat) (ad11 : Nat) (ad12 : Nat) (ad13 : Nat) (ad14 : Nat) (ad15 : Nat) (ad16 : Nat) (ad17 : Nat) (ad18 : Nat) (sz : Nat) : Met l yX9_isSign wsX9_isSign ({ frames := 0, cells := 0, slots := 0, locals := 0 }) (va_Pc [.ref ad0, .int vi0] (fun U => U.heap.size = sz ∧ va_P (dC, dI) vwCl [(ad0, .inr (9, [.ref ad1, .ref ad2, .ref ad3, .ref ad4, .ref ad5, .ref ad6, .ref ad7, .ref ad8, .int 0, .ref ad9, .ref ad10, .ref ad11, .ref ad12, .ref ad13])), (ad2, .inr (3, [.int 0, .int 0, .int 10, .int 0, .int 0, .int 1, .ref ad14, .ref ad15, .ref ad16, .ref ad17, .ref ad18]))] U.heap ∧ va_K (dC, dI) vwCl [] U ∧ va_D (fun _ => True) [(ad0, .inr (9, [.ref ad1, .ref ad2, .ref ad3, .ref ad4, .ref ad5, .ref ad6, .ref ad7, .ref ad8, .int 0, .ref ad9, .ref ad10, .ref ad11, .ref ad12, .ref ad13])), (ad2, .inr (3, [.int 0, .int 0, .int 10, .int 0, .int 0, .int 1, .ref ad14, .ref ad15, .ref ad16, .ref ad17, .ref ad18]))])) (va_Qi (fun (r : Int32) (_ : Unit) => r = 0) (fun _ t => va_P (dC, dI) vwCl [(ad0, .inr (9, [.ref ad1, .ref ad2, .ref ad3, .ref ad4, .ref ad5, .ref ad6, .ref ad7, .ref ad8, .int 0, .ref ad9, .ref ad10, .ref ad11, .ref ad12, .ref ad13])), (ad2, .inr (3, [.int 0, .int 0, .int 10, .int 0, .int 0, .int 1, .ref ad14, .ref ad15, .ref ad16, .ref ad17, .ref ad18]))] t.heap ∧ va_K (dC, dI) vwCl [] t ∧ va_D (va_A [(ad0, .inr (9, [.ref ad1, .ref ad2, .ref ad3, .ref ad4, .ref ad5, .ref ad6, .ref ad7, .ref ad8, .int 0, .ref ad9, .ref ad10, .ref ad11, .ref ad12, .ref ad13])), (ad2, .inr (3, [.int 0, .int 0, .int 10, .int 0, .int 0, .int 1, .ref ad14, .ref ad15, .ref ad16, .ref ad17, .ref ad18]))] sz) [(ad0, .inr (9, [.ref ad1, .ref ad2, .ref ad3, .ref ad4, .ref ad5, .ref ad6, .ref ad7, .ref ad8, .int 0, .ref ad9, .ref ad10, .ref ad11, .ref ad12, .ref ad13])), (ad2, .inr (3, [.int 0, .int 0, .int 10, .int 0, .int 0, .int 1, .ref ad14, .ref ad15, .ref ad16, .ref ad17, .ref ad18]))]) (va_A [(ad0, .inr (9, [.ref ad1, .ref ad2, .ref ad3, .ref ad4, .ref ad5, .ref ad6, .ref ad7, .ref ad8, .int 0, .ref ad9, .ref ad10, .ref ad11, .ref ad12, .ref ad13])), (ad2, .inr (3, [.int 0, .int 0, .int 10, .int 0, .int 0, .int 1, .ref ad14, .ref ad15, .ref ad16, .ref ad17, .ref ad18]))] sz)) 0 0 (va_A [(ad0, .inr (9, [.ref ad1, .ref ad2, .ref ad3, .ref ad4, .ref ad5, .ref ad6, .ref ad7, .ref ad8, .int 0, .ref ad9, .ref ad10, .ref ad11, .ref ad12, .ref ad13])), (ad2, .inr (3, [.int 0, .int 0, .int 10, .int 0, .int 0, .int 1, .ref ad14, .ref ad15, .ref ad16, .ref ad17, .ref ad18]))] sz) := by
  refine Met.ofW (cc := cX9_isSign) (maxL := 2) (ret := (some .boolean)) (by decide) rfl ?_
  intro p e s m args below meth c s₁ B hml hv
  obtain ⟨rfl, hsz, hP, hK, hD0⟩ := hv
  have hx := B.exec
  have hb := B.bytes
  have hr := B.returns
  have hts := atoms_spec (ws := wsX9_isSign) B.pre
  have hown : s.vm.findClass RX9 = some m.cls := findClass_of_methodNamed B.named
  have hlocks := B.notSynchronized
  subst hsz
  have hD := hD0.self (sz := s.heap.size)
  generalize hAe : va_A [(ad0, .inr (9, [.ref ad1, .ref ad2, .ref ad3, .ref ad4, .ref ad5, .ref ad6, .ref ad7, .ref ad8, .int 0, .ref ad9, .ref ad10, .ref ad11, .ref ad12, .ref ad13])), (ad2, .inr (3, [.int 0, .int 0, .int 10, .int 0, .int 0, .int 1, .ref ad14, .ref ad15, .ref ad16, .ref ad17, .ref ad18]))] s.heap.size = A at hD ⊢
  have hA : ∀ q : Nat, s.heap.size ≤ q → A q := fun q h => by rw [← hAe]; exact Or.inr h
  have hS : va_S A s.heap s.heap [] := va_S.rf
  have hP : va_P (dC, dI) vwCl [(ad0, .inr (9, [.ref ad1, .ref ad2, .ref ad3, .ref ad4, .ref ad5, .ref ad6, .ref ad7, .ref ad8, .int 0, .ref ad9, .ref ad10, .ref ad11, .ref ad12, .ref ad13])), (ad2, .inr (3, [.int 0, .int 0, .int 10, .int 0, .int 0, .int 1, .ref ad14, .ref ad15, .ref ad16, .ref ad17, .ref ad18]))] s.heap := hP
  have hl := lv_entry ([.ref ad0, .int vi0]) (n := 2) (Nat.le_of_ble_eq_true rfl)
  rw [lg_entry_eq]
  generalize (lg_sl ([.ref ad0, .int vi0]) ++ List.replicate (2 - (lg_sl ([.ref ad0, .int vi0])).length) Slot.unset).toArray = ls at hl ⊢
  have hl : lv_has ls 2 [(0, .ref ad0), (1, .int vi0)] := hl
  refine lv_iload_n hx hb dX9_isSign_0 rfl (lv_at hl 1 rfl) ?_
  refine lv_if_lt (tgt := 19) hx hb dX9_isSign_1 (by decide) (fun c1 => ?_) (fun c1 => ?_)
  · refine lv_iconst (v := 0) hx hb dX9_isSign_19 (by decide) ?_
    refine W.widen (k := 0) (n := 0) (by decide) (by decide) ?_
    have hP9 := hP.sub (ws' := [(ad0, .inr (9, [.ref ad1, .ref ad2, .ref ad3, .ref ad4, .ref ad5, .ref ad6, .ref ad7, .ref ad8, .int 0, .ref ad9, .ref ad10, .ref ad11, .ref ad12, .ref ad13])), (ad2, .inr (3, [.int 0, .int 0, .int 10, .int 0, .int 0, .int 1, .ref ad14, .ref ad15, .ref ad16, .ref ad17, .ref ad18]))]) [0, 1] rfl
    have hD9 := hD.sub (ws' := [(ad0, .inr (9, [.ref ad1, .ref ad2, .ref ad3, .ref ad4, .ref ad5, .ref ad6, .ref ad7, .ref ad8, .int 0, .ref ad9, .ref ad10, .ref ad11, .ref ad12, .ref ad13])), (ad2, .inr (3, [.int 0, .int 0, .int 10, .int 0, .int 0, .int 1, .ref ad14, .ref ad15, .ref ad16, .ref ad17, .ref ad18]))]) [0, 1] (by decide) rfl
    have hK9 := hK.sub (tys' := []) [] rfl
    exact W.zret (v := 0) hx hb hr rfl (fun t ht hW => ⟨⟨0, (), rfl, rfl, by rw [ht]; exact hP9, va_K.moved hW.alike hK9, hD9⟩, hS.F ht⟩) hS.2.2 dX9_isSign_20
  · refine lv_iload_n hx hb dX9_isSign_4 rfl (lv_at hl 1 rfl) ?_
    refine lv_aload_n hx hb dX9_isSign_5 rfl (lv_at hl 0 rfl) ?_
    refine va_get (D := (dC, dI)) (ci := 9) (v := .ref ad2) (C := RX9) (T := TX9) (N := 14) hx hb hts iw_X9_isSign_X9 hown hK hP 0 rfl rfl 1 (by decide) (hts _ kk_X9_isSign_0) (fun _ h9 => h9) rfl dX9_isSign_6 ?_
    refine va_get (D := (dC, dI)) (ci := 3) (v := .int 0) (C := RX3) (T := TX3) (N := 11) hx hb hts iw_X9_isSign_X3 hown hK hP 1 rfl rfl 0 (by decide) (hts _ kk_X9_isSign_1) (fun _ h9 => h9) rfl dX9_isSign_9 ?_
    refine lv_icmp_ge (tgt := 19) hx hb dX9_isSign_12 (by decide) (fun _ => ?_) (fun c2 => False.elim (by grind))
    refine lv_iconst (v := 0) hx hb dX9_isSign_19 (by decide) ?_
    refine W.widen (k := 0) (n := 0) (by decide) (by decide) ?_
    have hP9 := hP.sub (ws' := [(ad0, .inr (9, [.ref ad1, .ref ad2, .ref ad3, .ref ad4, .ref ad5, .ref ad6, .ref ad7, .ref ad8, .int 0, .ref ad9, .ref ad10, .ref ad11, .ref ad12, .ref ad13])), (ad2, .inr (3, [.int 0, .int 0, .int 10, .int 0, .int 0, .int 1, .ref ad14, .ref ad15, .ref ad16, .ref ad17, .ref ad18]))]) [0, 1] rfl
    have hD9 := hD.sub (ws' := [(ad0, .inr (9, [.ref ad1, .ref ad2, .ref ad3, .ref ad4, .ref ad5, .ref ad6, .ref ad7, .ref ad8, .int 0, .ref ad9, .ref ad10, .ref ad11, .ref ad12, .ref ad13])), (ad2, .inr (3, [.int 0, .int 0, .int 10, .int 0, .int 0, .int 1, .ref ad14, .ref ad15, .ref ad16, .ref ad17, .ref ad18]))]) [0, 1] (by decide) rfl
    have hK9 := hK.sub (tys' := []) [] rfl
    exact W.zret (v := 0) hx hb hr rfl (fun t ht hW => ⟨⟨0, (), rfl, rfl, by rw [ht]; exact hP9, va_K.moved hW.alike hK9, hD9⟩, hS.F ht⟩) hS.2.2 dX9_isSign_20

set_option maxHeartbeats 4000000 in
set_option maxRecDepth 100000 in
theorem ct_X9_wage (l : Launch) (dC : Nat → ClassId) (dI : Nat → Nat → Nat) (ad0 : Nat) (vi0 : Int32) (vi1 : Int32) (ad1 : Nat) (ad2 : Nat) (ad3 : Nat) (ad4 : Nat) (ad5 : Nat) (ad6 : Nat) (ad7 : Nat) (ad8 : Nat) (ad9 : Nat) (ad10 : Nat) (ad11 : Nat) (ad12 : Nat) (ad13 : Nat) (ad14 : Nat) (ad15 : Nat) (ad16 : Nat) (ad17 : Nat) (ad18 : Nat) (sz : Nat) : Met l yX9_wage wsX9_wage ({ frames := 1, cells := 0, slots := 0, locals := 21 }) (va_Pc [.ref ad0, .int vi0, .int vi1] (fun U => U.heap.size = sz ∧ va_P (dC, dI) vwCl [(ad0, .inr (9, [.ref ad1, .ref ad2, .ref ad3, .ref ad4, .ref ad5, .ref ad6, .ref ad7, .ref ad8, .int 0, .ref ad9, .ref ad10, .ref ad11, .ref ad12, .ref ad13])), (ad2, .inr (3, [.int 0, .int 0, .int 10, .int 0, .int 0, .int 1, .ref ad14, .ref ad15, .ref ad16, .ref ad17, .ref ad18]))] U.heap ∧ va_K (dC, dI) vwCl [] U ∧ va_D (fun _ => True) [(ad0, .inr (9, [.ref ad1, .ref ad2, .ref ad3, .ref ad4, .ref ad5, .ref ad6, .ref ad7, .ref ad8, .int 0, .ref ad9, .ref ad10, .ref ad11, .ref ad12, .ref ad13])), (ad2, .inr (3, [.int 0, .int 0, .int 10, .int 0, .int 0, .int 1, .ref ad14, .ref ad15, .ref ad16, .ref ad17, .ref ad18]))])) (va_Qi (fun (r : Int32) (_ : Unit) => r = (-2)) (fun _ _ => True) (va_A [(ad0, .inr (9, [.ref ad1, .ref ad2, .ref ad3, .ref ad4, .ref ad5, .ref ad6, .ref ad7, .ref ad8, .int 0, .ref ad9, .ref ad10, .ref ad11, .ref ad12, .ref ad13])), (ad2, .inr (3, [.int 0, .int 0, .int 10, .int 0, .int 0, .int 1, .ref ad14, .ref ad15, .ref ad16, .ref ad17, .ref ad18]))] sz)) 0 0 (va_A [(ad0, .inr (9, [.ref ad1, .ref ad2, .ref ad3, .ref ad4, .ref ad5, .ref ad6, .ref ad7, .ref ad8, .int 0, .ref ad9, .ref ad10, .ref ad11, .ref ad12, .ref ad13])), (ad2, .inr (3, [.int 0, .int 0, .int 10, .int 0, .int 0, .int 1, .ref ad14, .ref ad15, .ref ad16, .ref ad17, .ref ad18]))] sz) := by
  refine Met.ofW (cc := cX9_wage) (maxL := 4) (ret := (some .int)) (by decide) rfl ?_
  intro p e s m args below meth c s₁ B hml hv
  obtain ⟨rfl, hsz, hP, hK, hD0⟩ := hv
  have hx := B.exec
  have hb := B.bytes
  have hr := B.returns
  have hts := atoms_spec (ws := wsX9_wage) B.pre
  have hown : s.vm.findClass RX9 = some m.cls := findClass_of_methodNamed B.named
  have hlocks := B.notSynchronized
  subst hsz
  have hD := hD0.self (sz := s.heap.size)
  generalize hAe : va_A [(ad0, .inr (9, [.ref ad1, .ref ad2, .ref ad3, .ref ad4, .ref ad5, .ref ad6, .ref ad7, .ref ad8, .int 0, .ref ad9, .ref ad10, .ref ad11, .ref ad12, .ref ad13])), (ad2, .inr (3, [.int 0, .int 0, .int 10, .int 0, .int 0, .int 1, .ref ad14, .ref ad15, .ref ad16, .ref ad17, .ref ad18]))] s.heap.size = A at hD ⊢
  have hA : ∀ q : Nat, s.heap.size ≤ q → A q := fun q h => by rw [← hAe]; exact Or.inr h
  have hS : va_S A s.heap s.heap [] := va_S.rf
  have hP : va_P (dC, dI) vwCl [(ad0, .inr (9, [.ref ad1, .ref ad2, .ref ad3, .ref ad4, .ref ad5, .ref ad6, .ref ad7, .ref ad8, .int 0, .ref ad9, .ref ad10, .ref ad11, .ref ad12, .ref ad13])), (ad2, .inr (3, [.int 0, .int 0, .int 10, .int 0, .int 0, .int 1, .ref ad14, .ref ad15, .ref ad16, .ref ad17, .ref ad18]))] s.heap := hP
  have hl := lv_entry ([.ref ad0, .int vi0, .int vi1]) (n := 4) (Nat.le_of_ble_eq_true rfl)
  rw [lg_entry_eq]
  generalize (lg_sl ([.ref ad0, .int vi0, .int vi1]) ++ List.replicate (4 - (lg_sl ([.ref ad0, .int vi0, .int vi1])).length) Slot.unset).toArray = ls at hl ⊢
  have hl : lv_has ls 4 [(0, .ref ad0), (1, .int vi0), (2, .int vi1)] := hl
  refine lv_aload_n hx hb dX9_wage_0 rfl (lv_at hl 0 rfl) ?_
  refine lv_iload_n hx hb dX9_wage_1 rfl (lv_at hl 1 rfl) ?_
  have hPc := hP.sub (ws' := [(ad0, .inr (9, [.ref ad1, .ref ad2, .ref ad3, .ref ad4, .ref ad5, .ref ad6, .ref ad7, .ref ad8, .int 0, .ref ad9, .ref ad10, .ref ad11, .ref ad12, .ref ad13])), (ad2, .inr (3, [.int 0, .int 0, .int 10, .int 0, .int 0, .int 1, .ref ad14, .ref ad15, .ref ad16, .ref ad17, .ref ad18]))]) [0, 1] rfl
  have hDc := hD.sub (ws' := [(ad0, .inr (9, [.ref ad1, .ref ad2, .ref ad3, .ref ad4, .ref ad5, .ref ad6, .ref ad7, .ref ad8, .int 0, .ref ad9, .ref ad10, .ref ad11, .ref ad12, .ref ad13])), (ad2, .inr (3, [.int 0, .int 0, .int 10, .int 0, .int 0, .int 1, .ref ad14, .ref ad15, .ref ad16, .ref ad17, .ref ad18]))]) [0, 1] (by decide) rfl
  have hKc := hK.sub (tys' := []) [] rfl
  have hFc := va_free (wc := [(ad0, .inr (9, [.ref ad1, .ref ad2, .ref ad3, .ref ad4, .ref ad5, .ref ad6, .ref ad7, .ref ad8, .int 0, .ref ad9, .ref ad10, .ref ad11, .ref ad12, .ref ad13])), (ad2, .inr (3, [.int 0, .int 0, .int 10, .int 0, .int 0, .int 1, .ref ad14, .ref ad15, .ref ad16, .ref ad17, .ref ad18]))]) hD hS hA [0, 1] rfl
  refine va_calli (va_runV (As := [.int vi0]) (rest := []) ⟨hx, hb, hml, hown, hts⟩ (ct_X9_isSign l dC dI ad0 vi0 ad1 ad2 ad3 ad4 ad5 ad6 ad7 ad8 ad9 ad10 ad11 ad12 ad13 ad14 ad15 ad16 ad17 ad18 s.heap.size) (cwV 1 hts gX9_wage_X9_isSign rfl rfl rfl (by decide +kernel) ⟨Nat.le_of_ble_eq_true rfl, Nat.le_of_ble_eq_true rfl⟩) ⟨fun a U g mk q => by obtain ⟨q0, q1, qP, qK, qD⟩ := q; exact ⟨q0, q1, qP, va_K.moved (u := U) (U := U.calling g mk a) (Vm.Alike.refl U.vm) qK, qD⟩, va_recv hKc hPc (ci := 9) (q0 := 0) rfl rfl, fun U hU hW => ⟨rfl, by rw [hU], by rw [hU]; exact hPc, va_K.moved hW.alike hKc, hDc.weaken (fun _ _ _ _ => trivial)⟩⟩ rfl rfl hl.1 rfl (lv_room (Nat.le_of_ble_eq_true rfl)) dX9_wage_2 ⟨Nat.le_of_ble_eq_true rfl, Nat.le_of_ble_eq_true rfl⟩) hS (fun q _ h => hFc q h) hFc (fun r1 u t H1 locs ht hvm hw hB hz1 hk1 hS => ?_)
  obtain ⟨hP1, hK1, hD1⟩ := hB
  rw [ht] at hP1
  have hK1 := va_K.moved hvm.symm hK1
  obtain ⟨hP, hD⟩ := va_join (wr := []) (w1 := [(ad0, .inr (9, [.ref ad1, .ref ad2, .ref ad3, .ref ad4, .ref ad5, .ref ad6, .ref ad7, .ref ad8, .int 0, .ref ad9, .ref ad10, .ref ad11, .ref ad12, .ref ad13])), (ad2, .inr (3, [.int 0, .int 0, .int 10, .int 0, .int 0, .int 1, .ref ad14, .ref ad15, .ref ad16, .ref ad17, .ref ad18]))]) hP hD [0, 1] [] rfl rfl (by decide) (by decide) hk1 hFc hP1 hD1
  have hK := (hK.sub (tys' := []) [] rfl).app hK1
  clear hPc hDc hKc hFc hP1 hD1 hK1 hk1 hz1
  generalize H1 = H at hP hS ⊢
  have hP : va_P (dC, dI) vwCl [(ad0, .inr (9, [.ref ad1, .ref ad2, .ref ad3, .ref ad4, .ref ad5, .ref ad6, .ref ad7, .ref ad8, .int 0, .ref ad9, .ref ad10, .ref ad11, .ref ad12, .ref ad13])), (ad2, .inr (3, [.int 0, .int 0, .int 10, .int 0, .int 0, .int 1, .ref ad14, .ref ad15, .ref ad16, .ref ad17, .ref ad18]))] H := hP
  have hD : va_D A [(ad0, .inr (9, [.ref ad1, .ref ad2, .ref ad3, .ref ad4, .ref ad5, .ref ad6, .ref ad7, .ref ad8, .int 0, .ref ad9, .ref ad10, .ref ad11, .ref ad12, .ref ad13])), (ad2, .inr (3, [.int 0, .int 0, .int 10, .int 0, .int 0, .int 1, .ref ad14, .ref ad15, .ref ad16, .ref ad17, .ref ad18]))] := hD
  have hK : va_K (dC, dI) vwCl [] s := hK
  refine W.widen (k := 0) (n := 0) (by decide) (by decide) ?_
  have hw : r1 = 0 := hw
  subst hw
  refine lv_if_eq (tgt := 26) hx hb dX9_wage_5 (by decide) (fun _ => ?_) (fun cz => absurd cz (by decide))
  refine lv_bipush (v := (-2)) hx hb dX9_wage_26 (by decide) ?_
  refine W.widen (k := 0) (n := 0) (by decide) (by decide) ?_
  exact W.iret (v := (-2)) hx hb hr (fun t ht hW => ⟨⟨(-2), (), rfl, rfl, trivial⟩, hS.F ht⟩) hS.2.2 dX9_wage_28

set_option maxHeartbeats 4000000 in
set_option maxRecDepth 100000 in
theorem ct_X9_worth (l : Launch) (dC : Nat → ClassId) (dI : Nat → Nat → Nat) (ad0 : Nat) (vi0 : Int32) (ad1 : Nat) (ad2 : Nat) (ad3 : Nat) (ad4 : Nat) (ad5 : Nat) (ad6 : Nat) (ad7 : Nat) (ad8 : Nat) (ad9 : Nat) (ad10 : Nat) (ad11 : Nat) (ad12 : Nat) (ad13 : Nat) (ad14 : Nat) (ad15 : Nat) (ad16 : Nat) (ad17 : Nat) (ad18 : Nat) (sz : Nat) : Met l yX9_worth wsX9_worth ({ frames := 1, cells := 0, slots := 0, locals := 21 }) (va_Pc [.ref ad0, .int vi0] (fun U => U.heap.size = sz ∧ va_P (dC, dI) vwCl [(ad0, .inr (9, [.ref ad1, .ref ad2, .ref ad3, .ref ad4, .ref ad5, .ref ad6, .ref ad7, .ref ad8, .int 0, .ref ad9, .ref ad10, .ref ad11, .ref ad12, .ref ad13])), (ad2, .inr (3, [.int 0, .int 0, .int 10, .int 0, .int 0, .int 1, .ref ad14, .ref ad15, .ref ad16, .ref ad17, .ref ad18]))] U.heap ∧ va_K (dC, dI) vwCl [] U ∧ va_D (fun _ => True) [(ad0, .inr (9, [.ref ad1, .ref ad2, .ref ad3, .ref ad4, .ref ad5, .ref ad6, .ref ad7, .ref ad8, .int 0, .ref ad9, .ref ad10, .ref ad11, .ref ad12, .ref ad13])), (ad2, .inr (3, [.int 0, .int 0, .int 10, .int 0, .int 0, .int 1, .ref ad14, .ref ad15, .ref ad16, .ref ad17, .ref ad18]))])) (va_Qi (fun (r : Int32) (_ : Unit) => r = (-2000000000)) (fun _ _ => True) (va_A [(ad0, .inr (9, [.ref ad1, .ref ad2, .ref ad3, .ref ad4, .ref ad5, .ref ad6, .ref ad7, .ref ad8, .int 0, .ref ad9, .ref ad10, .ref ad11, .ref ad12, .ref ad13])), (ad2, .inr (3, [.int 0, .int 0, .int 10, .int 0, .int 0, .int 1, .ref ad14, .ref ad15, .ref ad16, .ref ad17, .ref ad18]))] sz)) 0 0 (va_A [(ad0, .inr (9, [.ref ad1, .ref ad2, .ref ad3, .ref ad4, .ref ad5, .ref ad6, .ref ad7, .ref ad8, .int 0, .ref ad9, .ref ad10, .ref ad11, .ref ad12, .ref ad13])), (ad2, .inr (3, [.int 0, .int 0, .int 10, .int 0, .int 0, .int 1, .ref ad14, .ref ad15, .ref ad16, .ref ad17, .ref ad18]))] sz) := by
  refine Met.ofW (cc := cX9_worth) (maxL := 2) (ret := (some .int)) (by decide) rfl ?_
  intro p e s m args below meth c s₁ B hml hv
  obtain ⟨rfl, hsz, hP, hK, hD0⟩ := hv
  have hx := B.exec
  have hb := B.bytes
  have hr := B.returns
  have hts := atoms_spec (ws := wsX9_worth) B.pre
  have hown : s.vm.findClass RX9 = some m.cls := findClass_of_methodNamed B.named
  have hlocks := B.notSynchronized
  subst hsz
  have hD := hD0.self (sz := s.heap.size)
  generalize hAe : va_A [(ad0, .inr (9, [.ref ad1, .ref ad2, .ref ad3, .ref ad4, .ref ad5, .ref ad6, .ref ad7, .ref ad8, .int 0, .ref ad9, .ref ad10, .ref ad11, .ref ad12, .ref ad13])), (ad2, .inr (3, [.int 0, .int 0, .int 10, .int 0, .int 0, .int 1, .ref ad14, .ref ad15, .ref ad16, .ref ad17, .ref ad18]))] s.heap.size = A at hD ⊢
  have hA : ∀ q : Nat, s.heap.size ≤ q → A q := fun q h => by rw [← hAe]; exact Or.inr h
  have hS : va_S A s.heap s.heap [] := va_S.rf
  have hP : va_P (dC, dI) vwCl [(ad0, .inr (9, [.ref ad1, .ref ad2, .ref ad3, .ref ad4, .ref ad5, .ref ad6, .ref ad7, .ref ad8, .int 0, .ref ad9, .ref ad10, .ref ad11, .ref ad12, .ref ad13])), (ad2, .inr (3, [.int 0, .int 0, .int 10, .int 0, .int 0, .int 1, .ref ad14, .ref ad15, .ref ad16, .ref ad17, .ref ad18]))] s.heap := hP
  have hl := lv_entry ([.ref ad0, .int vi0]) (n := 2) (Nat.le_of_ble_eq_true rfl)
  rw [lg_entry_eq]
  generalize (lg_sl ([.ref ad0, .int vi0]) ++ List.replicate (2 - (lg_sl ([.ref ad0, .int vi0])).length) Slot.unset).toArray = ls at hl ⊢
  have hl : lv_has ls 2 [(0, .ref ad0), (1, .int vi0)] := hl
  refine lv_aload_n hx hb dX9_worth_0 rfl (lv_at hl 0 rfl) ?_
  refine lv_iload_n hx hb dX9_worth_1 rfl (lv_at hl 1 rfl) ?_
  have hPc := hP.sub (ws' := [(ad0, .inr (9, [.ref ad1, .ref ad2, .ref ad3, .ref ad4, .ref ad5, .ref ad6, .ref ad7, .ref ad8, .int 0, .ref ad9, .ref ad10, .ref ad11, .ref ad12, .ref ad13])), (ad2, .inr (3, [.int 0, .int 0, .int 10, .int 0, .int 0, .int 1, .ref ad14, .ref ad15, .ref ad16, .ref ad17, .ref ad18]))]) [0, 1] rfl
  have hDc := hD.sub (ws' := [(ad0, .inr (9, [.ref ad1, .ref ad2, .ref ad3, .ref ad4, .ref ad5, .ref ad6, .ref ad7, .ref ad8, .int 0, .ref ad9, .ref ad10, .ref ad11, .ref ad12, .ref ad13])), (ad2, .inr (3, [.int 0, .int 0, .int 10, .int 0, .int 0, .int 1, .ref ad14, .ref ad15, .ref ad16, .ref ad17, .ref ad18]))]) [0, 1] (by decide) rfl
  have hKc := hK.sub (tys' := []) [] rfl
  have hFc := va_free (wc := [(ad0, .inr (9, [.ref ad1, .ref ad2, .ref ad3, .ref ad4, .ref ad5, .ref ad6, .ref ad7, .ref ad8, .int 0, .ref ad9, .ref ad10, .ref ad11, .ref ad12, .ref ad13])), (ad2, .inr (3, [.int 0, .int 0, .int 10, .int 0, .int 0, .int 1, .ref ad14, .ref ad15, .ref ad16, .ref ad17, .ref ad18]))]) hD hS hA [0, 1] rfl
  refine va_calli (va_runV (As := [.int vi0]) (rest := []) ⟨hx, hb, hml, hown, hts⟩ (ct_X9_isWork l dC dI ad0 vi0 ad1 ad2 ad3 ad4 ad5 ad6 ad7 ad8 ad9 ad10 ad11 ad12 ad13 ad14 ad15 ad16 ad17 ad18 s.heap.size) (cwV 1 hts gX9_worth_X9_isWork rfl rfl rfl (by decide +kernel) ⟨Nat.le_of_ble_eq_true rfl, Nat.le_of_ble_eq_true rfl⟩) ⟨fun a U g mk q => by obtain ⟨q0, q1, qP, qK, qD⟩ := q; exact ⟨q0, q1, qP, va_K.moved (u := U) (U := U.calling g mk a) (Vm.Alike.refl U.vm) qK, qD⟩, va_recv hKc hPc (ci := 9) (q0 := 0) rfl rfl, fun U hU hW => ⟨rfl, by rw [hU], by rw [hU]; exact hPc, va_K.moved hW.alike hKc, hDc.weaken (fun _ _ _ _ => trivial)⟩⟩ rfl rfl hl.1 rfl (lv_room (Nat.le_of_ble_eq_true rfl)) dX9_worth_2 ⟨Nat.le_of_ble_eq_true rfl, Nat.le_of_ble_eq_true rfl⟩) hS (fun q _ h => hFc q h) hFc (fun r1 u t H1 locs ht hvm hw hB hz1 hk1 hS => ?_)
  obtain ⟨hP1, hK1, hD1⟩ := hB
  rw [ht] at hP1
  have hK1 := va_K.moved hvm.symm hK1
  obtain ⟨hP, hD⟩ := va_join (wr := []) (w1 := [(ad0, .inr (9, [.ref ad1, .ref ad2, .ref ad3, .ref ad4, .ref ad5, .ref ad6, .ref ad7, .ref ad8, .int 0, .ref ad9, .ref ad10, .ref ad11, .ref ad12, .ref ad13])), (ad2, .inr (3, [.int 0, .int 0, .int 10, .int 0, .int 0, .int 1, .ref ad14, .ref ad15, .ref ad16, .ref ad17, .ref ad18]))]) hP hD [0, 1] [] rfl rfl (by decide) (by decide) hk1 hFc hP1 hD1
  have hK := (hK.sub (tys' := []) [] rfl).app hK1
  clear hPc hDc hKc hFc hP1 hD1 hK1 hk1 hz1
  generalize H1 = H at hP hS ⊢
  have hP : va_P (dC, dI) vwCl [(ad0, .inr (9, [.ref ad1, .ref ad2, .ref ad3, .ref ad4, .ref ad5, .ref ad6, .ref ad7, .ref ad8, .int 0, .ref ad9, .ref ad10, .ref ad11, .ref ad12, .ref ad13])), (ad2, .inr (3, [.int 0, .int 0, .int 10, .int 0, .int 0, .int 1, .ref ad14, .ref ad15, .ref ad16, .ref ad17, .ref ad18]))] H := hP
  have hD : va_D A [(ad0, .inr (9, [.ref ad1, .ref ad2, .ref ad3, .ref ad4, .ref ad5, .ref ad6, .ref ad7, .ref ad8, .int 0, .ref ad9, .ref ad10, .ref ad11, .ref ad12, .ref ad13])), (ad2, .inr (3, [.int 0, .int 0, .int 10, .int 0, .int 0, .int 1, .ref ad14, .ref ad15, .ref ad16, .ref ad17, .ref ad18]))] := hD
  have hK : va_K (dC, dI) vwCl [] s := hK
  refine W.widen (k := 0) (n := 0) (by decide) (by decide) ?_
  have hw : r1 = 0 := hw
  subst hw
  refine lv_if_eq (tgt := 23) hx hb dX9_worth_5 (by decide) (fun _ => ?_) (fun cz => absurd cz (by decide))
  refine lv_ldc (v := (-2000000000)) hx hb hown (hts _ kk_X9_worth_0) dX9_worth_23 ?_
  refine W.widen (k := 0) (n := 0) (by decide) (by decide) ?_
  exact W.iret (v := (-2000000000)) hx hb hr (fun t ht hW => ⟨⟨(-2000000000), (), rfl, rfl, trivial⟩, hS.F ht⟩) hS.2.2 dX9_worth_25

set_option maxHeartbeats 4000000 in
set_option maxRecDepth 100000 in
theorem ct_X9_leaves (l : Launch) (dC : Nat → ClassId) (dI : Nat → Nat → Nat) (ad0 : Nat) (vi0 : Int32) (ad1 : Nat) (ad2 : Nat) (ad3 : Nat) (ad4 : Nat) (ad5 : Nat) (ad6 : Nat) (ad7 : Nat) (ad8 : Nat) (ad9 : Nat) (ad10 : Nat) (ad11 : Nat) (ad12 : Nat) (ad13 : Nat) (ad14 : Nat) (ad15 : Nat) (ad16 : Nat) (ad17 : Nat) (ad18 : Nat) (sz : Nat) : Met l yX9_leaves wsX9_leaves ({ frames := 1, cells := 0, slots := 0, locals := 21 }) (va_Pc [.ref ad0, .int vi0] (fun U => U.heap.size = sz ∧ va_P (dC, dI) vwCl [(ad0, .inr (9, [.ref ad1, .ref ad2, .ref ad3, .ref ad4, .ref ad5, .ref ad6, .ref ad7, .ref ad8, .int 0, .ref ad9, .ref ad10, .ref ad11, .ref ad12, .ref ad13])), (ad2, .inr (3, [.int 0, .int 0, .int 10, .int 0, .int 0, .int 1, .ref ad14, .ref ad15, .ref ad16, .ref ad17, .ref ad18]))] U.heap ∧ va_K (dC, dI) vwCl [] U ∧ va_D (fun _ => True) [(ad0, .inr (9, [.ref ad1, .ref ad2, .ref ad3, .ref ad4, .ref ad5, .ref ad6, .ref ad7, .ref ad8, .int 0, .ref ad9, .ref ad10, .ref ad11, .ref ad12, .ref ad13])), (ad2, .inr (3, [.int 0, .int 0, .int 10, .int 0, .int 0, .int 1, .ref ad14, .ref ad15, .ref ad16, .ref ad17, .ref ad18]))])) (va_Qi (fun (r : Int32) (_ : Unit) => r = (-2000000000)) (fun _ _ => True) (va_A [(ad0, .inr (9, [.ref ad1, .ref ad2, .ref ad3, .ref ad4, .ref ad5, .ref ad6, .ref ad7, .ref ad8, .int 0, .ref ad9, .ref ad10, .ref ad11, .ref ad12, .ref ad13])), (ad2, .inr (3, [.int 0, .int 0, .int 10, .int 0, .int 0, .int 1, .ref ad14, .ref ad15, .ref ad16, .ref ad17, .ref ad18]))] sz)) 0 0 (va_A [(ad0, .inr (9, [.ref ad1, .ref ad2, .ref ad3, .ref ad4, .ref ad5, .ref ad6, .ref ad7, .ref ad8, .int 0, .ref ad9, .ref ad10, .ref ad11, .ref ad12, .ref ad13])), (ad2, .inr (3, [.int 0, .int 0, .int 10, .int 0, .int 0, .int 1, .ref ad14, .ref ad15, .ref ad16, .ref ad17, .ref ad18]))] sz) := by
  refine Met.ofW (cc := cX9_leaves) (maxL := 2) (ret := (some .int)) (by decide) rfl ?_
  intro p e s m args below meth c s₁ B hml hv
  obtain ⟨rfl, hsz, hP, hK, hD0⟩ := hv
  have hx := B.exec
  have hb := B.bytes
  have hr := B.returns
  have hts := atoms_spec (ws := wsX9_leaves) B.pre
  have hown : s.vm.findClass RX9 = some m.cls := findClass_of_methodNamed B.named
  have hlocks := B.notSynchronized
  subst hsz
  have hD := hD0.self (sz := s.heap.size)
  generalize hAe : va_A [(ad0, .inr (9, [.ref ad1, .ref ad2, .ref ad3, .ref ad4, .ref ad5, .ref ad6, .ref ad7, .ref ad8, .int 0, .ref ad9, .ref ad10, .ref ad11, .ref ad12, .ref ad13])), (ad2, .inr (3, [.int 0, .int 0, .int 10, .int 0, .int 0, .int 1, .ref ad14, .ref ad15, .ref ad16, .ref ad17, .ref ad18]))] s.heap.size = A at hD ⊢
  have hA : ∀ q : Nat, s.heap.size ≤ q → A q := fun q h => by rw [← hAe]; exact Or.inr h
  have hS : va_S A s.heap s.heap [] := va_S.rf
  have hP : va_P (dC, dI) vwCl [(ad0, .inr (9, [.ref ad1, .ref ad2, .ref ad3, .ref ad4, .ref ad5, .ref ad6, .ref ad7, .ref ad8, .int 0, .ref ad9, .ref ad10, .ref ad11, .ref ad12, .ref ad13])), (ad2, .inr (3, [.int 0, .int 0, .int 10, .int 0, .int 0, .int 1, .ref ad14, .ref ad15, .ref ad16, .ref ad17, .ref ad18]))] s.heap := hP
  have hl := lv_entry ([.ref ad0, .int vi0]) (n := 2) (Nat.le_of_ble_eq_true rfl)
  rw [lg_entry_eq]
  generalize (lg_sl ([.ref ad0, .int vi0]) ++ List.replicate (2 - (lg_sl ([.ref ad0, .int vi0])).length) Slot.unset).toArray = ls at hl ⊢
  have hl : lv_has ls 2 [(0, .ref ad0), (1, .int vi0)] := hl
  refine lv_aload_n hx hb dX9_leaves_0 rfl (lv_at hl 0 rfl) ?_
  refine lv_iload_n hx hb dX9_leaves_1 rfl (lv_at hl 1 rfl) ?_
  have hPc := hP.sub (ws' := [(ad0, .inr (9, [.ref ad1, .ref ad2, .ref ad3, .ref ad4, .ref ad5, .ref ad6, .ref ad7, .ref ad8, .int 0, .ref ad9, .ref ad10, .ref ad11, .ref ad12, .ref ad13])), (ad2, .inr (3, [.int 0, .int 0, .int 10, .int 0, .int 0, .int 1, .ref ad14, .ref ad15, .ref ad16, .ref ad17, .ref ad18]))]) [0, 1] rfl
  have hDc := hD.sub (ws' := [(ad0, .inr (9, [.ref ad1, .ref ad2, .ref ad3, .ref ad4, .ref ad5, .ref ad6, .ref ad7, .ref ad8, .int 0, .ref ad9, .ref ad10, .ref ad11, .ref ad12, .ref ad13])), (ad2, .inr (3, [.int 0, .int 0, .int 10, .int 0, .int 0, .int 1, .ref ad14, .ref ad15, .ref ad16, .ref ad17, .ref ad18]))]) [0, 1] (by decide) rfl
  have hKc := hK.sub (tys' := []) [] rfl
  have hFc := va_free (wc := [(ad0, .inr (9, [.ref ad1, .ref ad2, .ref ad3, .ref ad4, .ref ad5, .ref ad6, .ref ad7, .ref ad8, .int 0, .ref ad9, .ref ad10, .ref ad11, .ref ad12, .ref ad13])), (ad2, .inr (3, [.int 0, .int 0, .int 10, .int 0, .int 0, .int 1, .ref ad14, .ref ad15, .ref ad16, .ref ad17, .ref ad18]))]) hD hS hA [0, 1] rfl
  refine va_calli (va_runV (As := [.int vi0]) (rest := []) ⟨hx, hb, hml, hown, hts⟩ (ct_X9_isWork l dC dI ad0 vi0 ad1 ad2 ad3 ad4 ad5 ad6 ad7 ad8 ad9 ad10 ad11 ad12 ad13 ad14 ad15 ad16 ad17 ad18 s.heap.size) (cwV 1 hts gX9_leaves_X9_isWork rfl rfl rfl (by decide +kernel) ⟨Nat.le_of_ble_eq_true rfl, Nat.le_of_ble_eq_true rfl⟩) ⟨fun a U g mk q => by obtain ⟨q0, q1, qP, qK, qD⟩ := q; exact ⟨q0, q1, qP, va_K.moved (u := U) (U := U.calling g mk a) (Vm.Alike.refl U.vm) qK, qD⟩, va_recv hKc hPc (ci := 9) (q0 := 0) rfl rfl, fun U hU hW => ⟨rfl, by rw [hU], by rw [hU]; exact hPc, va_K.moved hW.alike hKc, hDc.weaken (fun _ _ _ _ => trivial)⟩⟩ rfl rfl hl.1 rfl (lv_room (Nat.le_of_ble_eq_true rfl)) dX9_leaves_2 ⟨Nat.le_of_ble_eq_true rfl, Nat.le_of_ble_eq_true rfl⟩) hS (fun q _ h => hFc q h) hFc (fun r1 u t H1 locs ht hvm hw hB hz1 hk1 hS => ?_)
  obtain ⟨hP1, hK1, hD1⟩ := hB
  rw [ht] at hP1
  have hK1 := va_K.moved hvm.symm hK1
  obtain ⟨hP, hD⟩ := va_join (wr := []) (w1 := [(ad0, .inr (9, [.ref ad1, .ref ad2, .ref ad3, .ref ad4, .ref ad5, .ref ad6, .ref ad7, .ref ad8, .int 0, .ref ad9, .ref ad10, .ref ad11, .ref ad12, .ref ad13])), (ad2, .inr (3, [.int 0, .int 0, .int 10, .int 0, .int 0, .int 1, .ref ad14, .ref ad15, .ref ad16, .ref ad17, .ref ad18]))]) hP hD [0, 1] [] rfl rfl (by decide) (by decide) hk1 hFc hP1 hD1
  have hK := (hK.sub (tys' := []) [] rfl).app hK1
  clear hPc hDc hKc hFc hP1 hD1 hK1 hk1 hz1
  generalize H1 = H at hP hS ⊢
  have hP : va_P (dC, dI) vwCl [(ad0, .inr (9, [.ref ad1, .ref ad2, .ref ad3, .ref ad4, .ref ad5, .ref ad6, .ref ad7, .ref ad8, .int 0, .ref ad9, .ref ad10, .ref ad11, .ref ad12, .ref ad13])), (ad2, .inr (3, [.int 0, .int 0, .int 10, .int 0, .int 0, .int 1, .ref ad14, .ref ad15, .ref ad16, .ref ad17, .ref ad18]))] H := hP
  have hD : va_D A [(ad0, .inr (9, [.ref ad1, .ref ad2, .ref ad3, .ref ad4, .ref ad5, .ref ad6, .ref ad7, .ref ad8, .int 0, .ref ad9, .ref ad10, .ref ad11, .ref ad12, .ref ad13])), (ad2, .inr (3, [.int 0, .int 0, .int 10, .int 0, .int 0, .int 1, .ref ad14, .ref ad15, .ref ad16, .ref ad17, .ref ad18]))] := hD
  have hK : va_K (dC, dI) vwCl [] s := hK
  refine W.widen (k := 0) (n := 0) (by decide) (by decide) ?_
  have hw : r1 = 0 := hw
  subst hw
  refine lv_if_eq (tgt := 23) hx hb dX9_leaves_5 (by decide) (fun _ => ?_) (fun cz => absurd cz (by decide))
  refine lv_ldc (v := (-2000000000)) hx hb hown (hts _ kk_X9_leaves_0) dX9_leaves_23 ?_
  refine W.widen (k := 0) (n := 0) (by decide) (by decide) ?_
  exact W.iret (v := (-2000000000)) hx hb hr (fun t ht hW => ⟨⟨(-2000000000), (), rfl, rfl, trivial⟩, hS.F ht⟩) hS.2.2 dX9_leaves_25

set_option maxHeartbeats 4000000 in
set_option maxRecDepth 100000 in
theorem ct_X9_does (l : Launch) (dC : Nat → ClassId) (dI : Nat → Nat → Nat) (ad0 : Nat) (ad1 : Nat) (ad2 : Nat) (ad3 : Nat) (ad4 : Nat) (ad5 : Nat) (ad6 : Nat) (ad7 : Nat) (ad8 : Nat) (ad9 : Nat) (ad10 : Nat) (ad11 : Nat) (ad12 : Nat) (ad13 : Nat) (ad14 : Nat) (ad15 : Nat) (ad16 : Nat) (ad17 : Nat) (ad18 : Nat) (sz : Nat) : Met l yX9_does wsX9_does ({ frames := 0, cells := 0, slots := 0, locals := 0 }) (va_Pc [.ref ad0] (fun U => U.heap.size = sz ∧ va_P (dC, dI) vwCl [(ad0, .inr (9, [.ref ad1, .ref ad2, .ref ad3, .ref ad4, .ref ad5, .ref ad6, .ref ad7, .ref ad8, .int 0, .ref ad9, .ref ad10, .ref ad11, .ref ad12, .ref ad13])), (ad2, .inr (3, [.int 0, .int 0, .int 10, .int 0, .int 0, .int 1, .ref ad14, .ref ad15, .ref ad16, .ref ad17, .ref ad18]))] U.heap ∧ va_K (dC, dI) vwCl [] U ∧ va_D (fun _ => True) [(ad0, .inr (9, [.ref ad1, .ref ad2, .ref ad3, .ref ad4, .ref ad5, .ref ad6, .ref ad7, .ref ad8, .int 0, .ref ad9, .ref ad10, .ref ad11, .ref ad12, .ref ad13])), (ad2, .inr (3, [.int 0, .int 0, .int 10, .int 0, .int 0, .int 1, .ref ad14, .ref ad15, .ref ad16, .ref ad17, .ref ad18]))])) (va_Qi (fun (r : Int32) (_ : Unit) => r = (-4)) (fun _ _ => True) (va_A [(ad0, .inr (9, [.ref ad1, .ref ad2, .ref ad3, .ref ad4, .ref ad5, .ref ad6, .ref ad7, .ref ad8, .int 0, .ref ad9, .ref ad10, .ref ad11, .ref ad12, .ref ad13])), (ad2, .inr (3, [.int 0, .int 0, .int 10, .int 0, .int 0, .int 1, .ref ad14, .ref ad15, .ref ad16, .ref ad17, .ref ad18]))] sz)) 0 0 (va_A [(ad0, .inr (9, [.ref ad1, .ref ad2, .ref ad3, .ref ad4, .ref ad5, .ref ad6, .ref ad7, .ref ad8, .int 0, .ref ad9, .ref ad10, .ref ad11, .ref ad12, .ref ad13])), (ad2, .inr (3, [.int 0, .int 0, .int 10, .int 0, .int 0, .int 1, .ref ad14, .ref ad15, .ref ad16, .ref ad17, .ref ad18]))] sz) := by
  refine Met.ofW (cc := cX9_does) (maxL := 1) (ret := (some .int)) (by decide) rfl ?_
  intro p e s m args below meth c s₁ B hml hv
  obtain ⟨rfl, hsz, hP, hK, hD0⟩ := hv
  have hx := B.exec
  have hb := B.bytes
  have hr := B.returns
  have hts := atoms_spec (ws := wsX9_does) B.pre
  have hown : s.vm.findClass RX9 = some m.cls := findClass_of_methodNamed B.named
  have hlocks := B.notSynchronized
  subst hsz
  have hD := hD0.self (sz := s.heap.size)
  generalize hAe : va_A [(ad0, .inr (9, [.ref ad1, .ref ad2, .ref ad3, .ref ad4, .ref ad5, .ref ad6, .ref ad7, .ref ad8, .int 0, .ref ad9, .ref ad10, .ref ad11, .ref ad12, .ref ad13])), (ad2, .inr (3, [.int 0, .int 0, .int 10, .int 0, .int 0, .int 1, .ref ad14, .ref ad15, .ref ad16, .ref ad17, .ref ad18]))] s.heap.size = A at hD ⊢
  have hA : ∀ q : Nat, s.heap.size ≤ q → A q := fun q h => by rw [← hAe]; exact Or.inr h
  have hS : va_S A s.heap s.heap [] := va_S.rf
  have hP : va_P (dC, dI) vwCl [(ad0, .inr (9, [.ref ad1, .ref ad2, .ref ad3, .ref ad4, .ref ad5, .ref ad6, .ref ad7, .ref ad8, .int 0, .ref ad9, .ref ad10, .ref ad11, .ref ad12, .ref ad13])), (ad2, .inr (3, [.int 0, .int 0, .int 10, .int 0, .int 0, .int 1, .ref ad14, .ref ad15, .ref ad16, .ref ad17, .ref ad18]))] s.heap := hP
  have hl := lv_entry ([.ref ad0]) (n := 1) (Nat.le_of_ble_eq_true rfl)
  rw [lg_entry_eq]
  generalize (lg_sl ([.ref ad0]) ++ List.replicate (1 - (lg_sl ([.ref ad0])).length) Slot.unset).toArray = ls at hl ⊢
  have hl : lv_has ls 1 [(0, .ref ad0)] := hl
  refine lv_aload_n hx hb dX9_does_0 rfl (lv_at hl 0 rfl) ?_
  refine va_get (D := (dC, dI)) (ci := 9) (v := .ref ad2) (C := RX9) (T := TX9) (N := 14) hx hb hts iw_X9_does_X9 hown hK hP 0 rfl rfl 1 (by decide) (hts _ kk_X9_does_0) (fun _ h9 => h9) rfl dX9_does_1 ?_
  refine va_get (D := (dC, dI)) (ci := 3) (v := .int 0) (C := RX3) (T := TX3) (N := 11) hx hb hts iw_X9_does_X3 hown hK hP 1 rfl rfl 1 (by decide) (hts _ kk_X9_does_1) (fun _ h9 => h9) rfl dX9_does_4 ?_
  refine lv_if_ne (tgt := 15) hx hb dX9_does_7 (by decide) (fun cz => absurd cz (by decide)) (fun _ => ?_)
  refine lv_bipush (v := (-4)) hx hb dX9_does_10 (by decide) ?_
  refine lv_goto (tgt := 26) hx hb dX9_does_12 (by decide) ?_
  refine W.widen (k := 0) (n := 0) (by decide) (by decide) ?_
  exact W.iret (v := (-4)) hx hb hr (fun t ht hW => ⟨⟨(-4), (), rfl, rfl, trivial⟩, hS.F ht⟩) hS.2.2 dX9_does_26

set_option maxHeartbeats 4000000 in
set_option maxRecDepth 100000 in
theorem ct_X9_comes (l : Launch) (dC : Nat → ClassId) (dI : Nat → Nat → Nat) (ad0 : Nat) (ad1 : Nat) (ad2 : Nat) (ad3 : Nat) (ad4 : Nat) (ad5 : Nat) (ad6 : Nat) (ad7 : Nat) (ad8 : Nat) (ad9 : Nat) (ad10 : Nat) (ad11 : Nat) (ad12 : Nat) (ad13 : Nat) (ad14 : Nat) (ad15 : Nat) (ad16 : Nat) (ad17 : Nat) (ad18 : Nat) (sz : Nat) : Met l yX9_comes wsX9_comes ({ frames := 0, cells := 0, slots := 0, locals := 0 }) (va_Pc [.ref ad0] (fun U => U.heap.size = sz ∧ va_P (dC, dI) vwCl [(ad0, .inr (9, [.ref ad1, .ref ad2, .ref ad3, .ref ad4, .ref ad5, .ref ad6, .ref ad7, .ref ad8, .int 0, .ref ad9, .ref ad10, .ref ad11, .ref ad12, .ref ad13])), (ad2, .inr (3, [.int 0, .int 0, .int 10, .int 0, .int 0, .int 1, .ref ad14, .ref ad15, .ref ad16, .ref ad17, .ref ad18]))] U.heap ∧ va_K (dC, dI) vwCl [] U ∧ va_D (fun _ => True) [(ad0, .inr (9, [.ref ad1, .ref ad2, .ref ad3, .ref ad4, .ref ad5, .ref ad6, .ref ad7, .ref ad8, .int 0, .ref ad9, .ref ad10, .ref ad11, .ref ad12, .ref ad13])), (ad2, .inr (3, [.int 0, .int 0, .int 10, .int 0, .int 0, .int 1, .ref ad14, .ref ad15, .ref ad16, .ref ad17, .ref ad18]))])) (va_Qi (fun (r : Int32) (_ : Unit) => r = (-4)) (fun _ _ => True) (va_A [(ad0, .inr (9, [.ref ad1, .ref ad2, .ref ad3, .ref ad4, .ref ad5, .ref ad6, .ref ad7, .ref ad8, .int 0, .ref ad9, .ref ad10, .ref ad11, .ref ad12, .ref ad13])), (ad2, .inr (3, [.int 0, .int 0, .int 10, .int 0, .int 0, .int 1, .ref ad14, .ref ad15, .ref ad16, .ref ad17, .ref ad18]))] sz)) 0 0 (va_A [(ad0, .inr (9, [.ref ad1, .ref ad2, .ref ad3, .ref ad4, .ref ad5, .ref ad6, .ref ad7, .ref ad8, .int 0, .ref ad9, .ref ad10, .ref ad11, .ref ad12, .ref ad13])), (ad2, .inr (3, [.int 0, .int 0, .int 10, .int 0, .int 0, .int 1, .ref ad14, .ref ad15, .ref ad16, .ref ad17, .ref ad18]))] sz) := by
  refine Met.ofW (cc := cX9_comes) (maxL := 2) (ret := (some .int)) (by decide) rfl ?_
  intro p e s m args below meth c s₁ B hml hv
  obtain ⟨rfl, hsz, hP, hK, hD0⟩ := hv
  have hx := B.exec
  have hb := B.bytes
  have hr := B.returns
  have hts := atoms_spec (ws := wsX9_comes) B.pre
  have hown : s.vm.findClass RX9 = some m.cls := findClass_of_methodNamed B.named
  have hlocks := B.notSynchronized
  subst hsz
  have hD := hD0.self (sz := s.heap.size)
  generalize hAe : va_A [(ad0, .inr (9, [.ref ad1, .ref ad2, .ref ad3, .ref ad4, .ref ad5, .ref ad6, .ref ad7, .ref ad8, .int 0, .ref ad9, .ref ad10, .ref ad11, .ref ad12, .ref ad13])), (ad2, .inr (3, [.int 0, .int 0, .int 10, .int 0, .int 0, .int 1, .ref ad14, .ref ad15, .ref ad16, .ref ad17, .ref ad18]))] s.heap.size = A at hD ⊢
  have hA : ∀ q : Nat, s.heap.size ≤ q → A q := fun q h => by rw [← hAe]; exact Or.inr h
  have hS : va_S A s.heap s.heap [] := va_S.rf
  have hP : va_P (dC, dI) vwCl [(ad0, .inr (9, [.ref ad1, .ref ad2, .ref ad3, .ref ad4, .ref ad5, .ref ad6, .ref ad7, .ref ad8, .int 0, .ref ad9, .ref ad10, .ref ad11, .ref ad12, .ref ad13])), (ad2, .inr (3, [.int 0, .int 0, .int 10, .int 0, .int 0, .int 1, .ref ad14, .ref ad15, .ref ad16, .ref ad17, .ref ad18]))] s.heap := hP
  have hl := lv_entry ([.ref ad0]) (n := 2) (Nat.le_of_ble_eq_true rfl)
  rw [lg_entry_eq]
  generalize (lg_sl ([.ref ad0]) ++ List.replicate (2 - (lg_sl ([.ref ad0])).length) Slot.unset).toArray = ls at hl ⊢
  have hl : lv_has ls 2 [(0, .ref ad0)] := hl
  refine lv_aload_n hx hb dX9_comes_0 rfl (lv_at hl 0 rfl) ?_
  refine va_get (D := (dC, dI)) (ci := 9) (v := .ref ad2) (C := RX9) (T := TX9) (N := 14) hx hb hts iw_X9_comes_X9 hown hK hP 0 rfl rfl 1 (by decide) (hts _ kk_X9_comes_0) (fun _ h9 => h9) rfl dX9_comes_1 ?_
  refine va_get (D := (dC, dI)) (ci := 3) (v := .int 0) (C := RX3) (T := TX3) (N := 11) hx hb hts iw_X9_comes_X3 hown hK hP 1 rfl rfl 1 (by decide) (hts _ kk_X9_comes_1) (fun _ h9 => h9) rfl dX9_comes_4 ?_
  refine lv_if_ne (tgt := 13) hx hb dX9_comes_7 (by decide) (fun cz => absurd cz (by decide)) (fun _ => ?_)
  refine lv_bipush (v := (-4)) hx hb dX9_comes_10 (by decide) ?_
  refine W.widen (k := 0) (n := 0) (by decide) (by decide) ?_
  exact W.iret (v := (-4)) hx hb hr (fun t ht hW => ⟨⟨(-4), (), rfl, rfl, trivial⟩, hS.F ht⟩) hS.2.2 dX9_comes_12

set_option maxHeartbeats 4000000 in
set_option maxRecDepth 100000 in
theorem ct_X9_upper (l : Launch) (dC : Nat → ClassId) (dI : Nat → Nat → Nat) (ad0 : Nat) (ad1 : Nat) (ad2 : Nat) (ad3 : Nat) (ad4 : Nat) (ad5 : Nat) (ad6 : Nat) (ad7 : Nat) (ad8 : Nat) (ad9 : Nat) (ad10 : Nat) (ad11 : Nat) (ad12 : Nat) (ad13 : Nat) (sz : Nat) : Met l yX9_upper wsX9_upper ({ frames := 0, cells := 0, slots := 0, locals := 0 }) (va_Pc [.ref ad0] (fun U => U.heap.size = sz ∧ va_P (dC, dI) vwCl [(ad0, .inr (9, [.ref ad1, .ref ad2, .ref ad3, .ref ad4, .ref ad5, .ref ad6, .ref ad7, .ref ad8, .int 0, .ref ad9, .ref ad10, .ref ad11, .ref ad12, .ref ad13])), (ad4, .inr (2, [.long (-2000000000), .long 0]))] U.heap ∧ va_K (dC, dI) vwCl [] U ∧ va_D (fun _ => True) [(ad0, .inr (9, [.ref ad1, .ref ad2, .ref ad3, .ref ad4, .ref ad5, .ref ad6, .ref ad7, .ref ad8, .int 0, .ref ad9, .ref ad10, .ref ad11, .ref ad12, .ref ad13])), (ad4, .inr (2, [.long (-2000000000), .long 0]))])) (va_Ql (fun (r : Int64) (_ : Unit) => r = (-2000000000)) (fun _ _ => True) (va_A [(ad0, .inr (9, [.ref ad1, .ref ad2, .ref ad3, .ref ad4, .ref ad5, .ref ad6, .ref ad7, .ref ad8, .int 0, .ref ad9, .ref ad10, .ref ad11, .ref ad12, .ref ad13])), (ad4, .inr (2, [.long (-2000000000), .long 0]))] sz)) 0 0 (va_A [(ad0, .inr (9, [.ref ad1, .ref ad2, .ref ad3, .ref ad4, .ref ad5, .ref ad6, .ref ad7, .ref ad8, .int 0, .ref ad9, .ref ad10, .ref ad11, .ref ad12, .ref ad13])), (ad4, .inr (2, [.long (-2000000000), .long 0]))] sz) := by
  refine Met.ofW (cc := cX9_upper) (maxL := 1) (ret := (some .long)) (by decide) rfl ?_
  intro p e s m args below meth c s₁ B hml hv
  obtain ⟨rfl, hsz, hP, hK, hD0⟩ := hv
  have hx := B.exec
  have hb := B.bytes
  have hr := B.returns
  have hts := atoms_spec (ws := wsX9_upper) B.pre
  have hown : s.vm.findClass RX9 = some m.cls := findClass_of_methodNamed B.named
  have hlocks := B.notSynchronized
  subst hsz
  have hD := hD0.self (sz := s.heap.size)
  generalize hAe : va_A [(ad0, .inr (9, [.ref ad1, .ref ad2, .ref ad3, .ref ad4, .ref ad5, .ref ad6, .ref ad7, .ref ad8, .int 0, .ref ad9, .ref ad10, .ref ad11, .ref ad12, .ref ad13])), (ad4, .inr (2, [.long (-2000000000), .long 0]))] s.heap.size = A at hD ⊢
  have hA : ∀ q : Nat, s.heap.size ≤ q → A q := fun q h => by rw [← hAe]; exact Or.inr h
  have hS : va_S A s.heap s.heap [] := va_S.rf
  have hP : va_P (dC, dI) vwCl [(ad0, .inr (9, [.ref ad1, .ref ad2, .ref ad3, .ref ad4, .ref ad5, .ref ad6, .ref ad7, .ref ad8, .int 0, .ref ad9, .ref ad10, .ref ad11, .ref ad12, .ref ad13])), (ad4, .inr (2, [.long (-2000000000), .long 0]))] s.heap := hP
  have hl := lv_entry ([.ref ad0]) (n := 1) (Nat.le_of_ble_eq_true rfl)
  rw [lg_entry_eq]
  generalize (lg_sl ([.ref ad0]) ++ List.replicate (1 - (lg_sl ([.ref ad0])).length) Slot.unset).toArray = ls at hl ⊢
  have hl : lv_has ls 1 [(0, .ref ad0)] := hl
  refine lv_aload_n hx hb dX9_upper_0 rfl (lv_at hl 0 rfl) ?_
  refine va_get (D := (dC, dI)) (ci := 9) (v := .ref ad4) (C := RX9) (T := TX9) (N := 14) hx hb hts iw_X9_upper_X9 hown hK hP 0 rfl rfl 3 (by decide) (hts _ kk_X9_upper_0) (fun _ h9 => h9) rfl dX9_upper_1 ?_
  refine va_get (D := (dC, dI)) (ci := 2) (v := .long (-2000000000)) (C := RX2) (T := TX2) (N := 2) hx hb hts iw_X9_upper_X2 hown hK hP 1 rfl rfl 0 (by decide) (hts _ kk_X9_upper_1) (fun _ h9 => h9) rfl dX9_upper_4 ?_
  refine W.widen (k := 0) (n := 0) (by decide) (by decide) ?_
  exact W.lret (v := (-2000000000)) hx hb hr (fun t ht hW => ⟨⟨(-2000000000), (), rfl, rfl, trivial⟩, hS.F ht⟩) hS.2.2 dX9_upper_7

set_option maxHeartbeats 4000000 in
set_option maxRecDepth 100000 in
theorem ct_X9_lower (l : Launch) (dC : Nat → ClassId) (dI : Nat → Nat → Nat) (ad0 : Nat) (ad1 : Nat) (ad2 : Nat) (ad3 : Nat) (ad4 : Nat) (ad5 : Nat) (ad6 : Nat) (ad7 : Nat) (ad8 : Nat) (ad9 : Nat) (ad10 : Nat) (ad11 : Nat) (ad12 : Nat) (ad13 : Nat) (sz : Nat) : Met l yX9_lower wsX9_lower ({ frames := 0, cells := 0, slots := 0, locals := 0 }) (va_Pc [.ref ad0] (fun U => U.heap.size = sz ∧ va_P (dC, dI) vwCl [(ad0, .inr (9, [.ref ad1, .ref ad2, .ref ad3, .ref ad4, .ref ad5, .ref ad6, .ref ad7, .ref ad8, .int 0, .ref ad9, .ref ad10, .ref ad11, .ref ad12, .ref ad13])), (ad4, .inr (2, [.long (-2000000000), .long 0]))] U.heap ∧ va_K (dC, dI) vwCl [] U ∧ va_D (fun _ => True) [(ad0, .inr (9, [.ref ad1, .ref ad2, .ref ad3, .ref ad4, .ref ad5, .ref ad6, .ref ad7, .ref ad8, .int 0, .ref ad9, .ref ad10, .ref ad11, .ref ad12, .ref ad13])), (ad4, .inr (2, [.long (-2000000000), .long 0]))])) (va_Ql (fun (r : Int64) (_ : Unit) => r = 0) (fun _ _ => True) (va_A [(ad0, .inr (9, [.ref ad1, .ref ad2, .ref ad3, .ref ad4, .ref ad5, .ref ad6, .ref ad7, .ref ad8, .int 0, .ref ad9, .ref ad10, .ref ad11, .ref ad12, .ref ad13])), (ad4, .inr (2, [.long (-2000000000), .long 0]))] sz)) 0 0 (va_A [(ad0, .inr (9, [.ref ad1, .ref ad2, .ref ad3, .ref ad4, .ref ad5, .ref ad6, .ref ad7, .ref ad8, .int 0, .ref ad9, .ref ad10, .ref ad11, .ref ad12, .ref ad13])), (ad4, .inr (2, [.long (-2000000000), .long 0]))] sz) := by
  refine Met.ofW (cc := cX9_lower) (maxL := 1) (ret := (some .long)) (by decide) rfl ?_
  intro p e s m args below meth c s₁ B hml hv
  obtain ⟨rfl, hsz, hP, hK, hD0⟩ := hv
  have hx := B.exec
  have hb := B.bytes
  have hr := B.returns
  have hts := atoms_spec (ws := wsX9_lower) B.pre
  have hown : s.vm.findClass RX9 = some m.cls := findClass_of_methodNamed B.named
  have hlocks := B.notSynchronized
  subst hsz
  have hD := hD0.self (sz := s.heap.size)
  generalize hAe : va_A [(ad0, .inr (9, [.ref ad1, .ref ad2, .ref ad3, .ref ad4, .ref ad5, .ref ad6, .ref ad7, .ref ad8, .int 0, .ref ad9, .ref ad10, .ref ad11, .ref ad12, .ref ad13])), (ad4, .inr (2, [.long (-2000000000), .long 0]))] s.heap.size = A at hD ⊢
  have hA : ∀ q : Nat, s.heap.size ≤ q → A q := fun q h => by rw [← hAe]; exact Or.inr h
  have hS : va_S A s.heap s.heap [] := va_S.rf
  have hP : va_P (dC, dI) vwCl [(ad0, .inr (9, [.ref ad1, .ref ad2, .ref ad3, .ref ad4, .ref ad5, .ref ad6, .ref ad7, .ref ad8, .int 0, .ref ad9, .ref ad10, .ref ad11, .ref ad12, .ref ad13])), (ad4, .inr (2, [.long (-2000000000), .long 0]))] s.heap := hP
  have hl := lv_entry ([.ref ad0]) (n := 1) (Nat.le_of_ble_eq_true rfl)
  rw [lg_entry_eq]
  generalize (lg_sl ([.ref ad0]) ++ List.replicate (1 - (lg_sl ([.ref ad0])).length) Slot.unset).toArray = ls at hl ⊢
  have hl : lv_has ls 1 [(0, .ref ad0)] := hl
  refine lv_aload_n hx hb dX9_lower_0 rfl (lv_at hl 0 rfl) ?_
  refine va_get (D := (dC, dI)) (ci := 9) (v := .ref ad4) (C := RX9) (T := TX9) (N := 14) hx hb hts iw_X9_lower_X9 hown hK hP 0 rfl rfl 3 (by decide) (hts _ kk_X9_lower_0) (fun _ h9 => h9) rfl dX9_lower_1 ?_
  refine va_get (D := (dC, dI)) (ci := 2) (v := .long 0) (C := RX2) (T := TX2) (N := 2) hx hb hts iw_X9_lower_X2 hown hK hP 1 rfl rfl 1 (by decide) (hts _ kk_X9_lower_1) (fun _ h9 => h9) rfl dX9_lower_4 ?_
  refine W.widen (k := 0) (n := 0) (by decide) (by decide) ?_
  exact W.lret (v := 0) hx hb hr (fun t ht hW => ⟨⟨0, (), rfl, rfl, trivial⟩, hS.F ht⟩) hS.2.2 dX9_lower_7

set_option maxHeartbeats 4000000 in
set_option maxRecDepth 100000 in
theorem ct_X9_make (l : Launch) (dC : Nat → ClassId) (dI : Nat → Nat → Nat) (ad0 : Nat) (vi0 : Int32) (ad1 : Nat) (ad2 : Nat) (ad3 : Nat) (ad4 : Nat) (ad5 : Nat) (ad6 : Nat) (ad7 : Nat) (ad8 : Nat) (ad9 : Nat) (ad10 : Nat) (ad11 : Nat) (ad12 : Nat) (ad13 : Nat) (ad14 : Nat) (ad15 : Nat) (ad16 : Nat) (ad17 : Nat) (ad18 : Nat) (sz : Nat) : Met l yX9_make wsX9_make ({ frames := 1, cells := 0, slots := 0, locals := 21 }) (va_Pc [.ref ad0, .int vi0] (fun U => U.heap.size = sz ∧ va_P (dC, dI) vwCl [(ad0, .inr (9, [.ref ad1, .ref ad2, .ref ad3, .ref ad4, .ref ad5, .ref ad6, .ref ad7, .ref ad8, .int 0, .ref ad9, .ref ad10, .ref ad11, .ref ad12, .ref ad13])), (ad2, .inr (3, [.int 0, .int 0, .int 10, .int 0, .int 0, .int 1, .ref ad14, .ref ad15, .ref ad16, .ref ad17, .ref ad18]))] U.heap ∧ va_K (dC, dI) vwCl [] U ∧ va_D (fun _ => True) [(ad0, .inr (9, [.ref ad1, .ref ad2, .ref ad3, .ref ad4, .ref ad5, .ref ad6, .ref ad7, .ref ad8, .int 0, .ref ad9, .ref ad10, .ref ad11, .ref ad12, .ref ad13])), (ad2, .inr (3, [.int 0, .int 0, .int 10, .int 0, .int 0, .int 1, .ref ad14, .ref ad15, .ref ad16, .ref ad17, .ref ad18]))])) (va_Qi (fun (r : Int32) (_ : Unit) => r = (-2)) (fun _ _ => True) (va_A [(ad0, .inr (9, [.ref ad1, .ref ad2, .ref ad3, .ref ad4, .ref ad5, .ref ad6, .ref ad7, .ref ad8, .int 0, .ref ad9, .ref ad10, .ref ad11, .ref ad12, .ref ad13])), (ad2, .inr (3, [.int 0, .int 0, .int 10, .int 0, .int 0, .int 1, .ref ad14, .ref ad15, .ref ad16, .ref ad17, .ref ad18]))] sz)) 0 0 (va_A [(ad0, .inr (9, [.ref ad1, .ref ad2, .ref ad3, .ref ad4, .ref ad5, .ref ad6, .ref ad7, .ref ad8, .int 0, .ref ad9, .ref ad10, .ref ad11, .ref ad12, .ref ad13])), (ad2, .inr (3, [.int 0, .int 0, .int 10, .int 0, .int 0, .int 1, .ref ad14, .ref ad15, .ref ad16, .ref ad17, .ref ad18]))] sz) := by
  refine Met.ofW (cc := cX9_make) (maxL := 3) (ret := (some .int)) (by decide) rfl ?_
  intro p e s m args below meth c s₁ B hml hv
  obtain ⟨rfl, hsz, hP, hK, hD0⟩ := hv
  have hx := B.exec
  have hb := B.bytes
  have hr := B.returns
  have hts := atoms_spec (ws := wsX9_make) B.pre
  have hown : s.vm.findClass RX9 = some m.cls := findClass_of_methodNamed B.named
  have hlocks := B.notSynchronized
  subst hsz
  have hD := hD0.self (sz := s.heap.size)
  generalize hAe : va_A [(ad0, .inr (9, [.ref ad1, .ref ad2, .ref ad3, .ref ad4, .ref ad5, .ref ad6, .ref ad7, .ref ad8, .int 0, .ref ad9, .ref ad10, .ref ad11, .ref ad12, .ref ad13])), (ad2, .inr (3, [.int 0, .int 0, .int 10, .int 0, .int 0, .int 1, .ref ad14, .ref ad15, .ref ad16, .ref ad17, .ref ad18]))] s.heap.size = A at hD ⊢
  have hA : ∀ q : Nat, s.heap.size ≤ q → A q := fun q h => by rw [← hAe]; exact Or.inr h
  have hS : va_S A s.heap s.heap [] := va_S.rf
  have hP : va_P (dC, dI) vwCl [(ad0, .inr (9, [.ref ad1, .ref ad2, .ref ad3, .ref ad4, .ref ad5, .ref ad6, .ref ad7, .ref ad8, .int 0, .ref ad9, .ref ad10, .ref ad11, .ref ad12, .ref ad13])), (ad2, .inr (3, [.int 0, .int 0, .int 10, .int 0, .int 0, .int 1, .ref ad14, .ref ad15, .ref ad16, .ref ad17, .ref ad18]))] s.heap := hP
  have hl := lv_entry ([.ref ad0, .int vi0]) (n := 3) (Nat.le_of_ble_eq_true rfl)
  rw [lg_entry_eq]
  generalize (lg_sl ([.ref ad0, .int vi0]) ++ List.replicate (3 - (lg_sl ([.ref ad0, .int vi0])).length) Slot.unset).toArray = ls at hl ⊢
  have hl : lv_has ls 3 [(0, .ref ad0), (1, .int vi0)] := hl
  refine lv_aload_n hx hb dX9_make_0 rfl (lv_at hl 0 rfl) ?_
  refine lv_iload_n hx hb dX9_make_1 rfl (lv_at hl 1 rfl) ?_
  have hPc := hP.sub (ws' := [(ad0, .inr (9, [.ref ad1, .ref ad2, .ref ad3, .ref ad4, .ref ad5, .ref ad6, .ref ad7, .ref ad8, .int 0, .ref ad9, .ref ad10, .ref ad11, .ref ad12, .ref ad13])), (ad2, .inr (3, [.int 0, .int 0, .int 10, .int 0, .int 0, .int 1, .ref ad14, .ref ad15, .ref ad16, .ref ad17, .ref ad18]))]) [0, 1] rfl
  have hDc := hD.sub (ws' := [(ad0, .inr (9, [.ref ad1, .ref ad2, .ref ad3, .ref ad4, .ref ad5, .ref ad6, .ref ad7, .ref ad8, .int 0, .ref ad9, .ref ad10, .ref ad11, .ref ad12, .ref ad13])), (ad2, .inr (3, [.int 0, .int 0, .int 10, .int 0, .int 0, .int 1, .ref ad14, .ref ad15, .ref ad16, .ref ad17, .ref ad18]))]) [0, 1] (by decide) rfl
  have hKc := hK.sub (tys' := []) [] rfl
  have hFc := va_free (wc := [(ad0, .inr (9, [.ref ad1, .ref ad2, .ref ad3, .ref ad4, .ref ad5, .ref ad6, .ref ad7, .ref ad8, .int 0, .ref ad9, .ref ad10, .ref ad11, .ref ad12, .ref ad13])), (ad2, .inr (3, [.int 0, .int 0, .int 10, .int 0, .int 0, .int 1, .ref ad14, .ref ad15, .ref ad16, .ref ad17, .ref ad18]))]) hD hS hA [0, 1] rfl
  refine va_calli (va_runV (As := [.int vi0]) (rest := []) ⟨hx, hb, hml, hown, hts⟩ (ct_X9_isWork l dC dI ad0 vi0 ad1 ad2 ad3 ad4 ad5 ad6 ad7 ad8 ad9 ad10 ad11 ad12 ad13 ad14 ad15 ad16 ad17 ad18 s.heap.size) (cwV 1 hts gX9_make_X9_isWork rfl rfl rfl (by decide +kernel) ⟨Nat.le_of_ble_eq_true rfl, Nat.le_of_ble_eq_true rfl⟩) ⟨fun a U g mk q => by obtain ⟨q0, q1, qP, qK, qD⟩ := q; exact ⟨q0, q1, qP, va_K.moved (u := U) (U := U.calling g mk a) (Vm.Alike.refl U.vm) qK, qD⟩, va_recv hKc hPc (ci := 9) (q0 := 0) rfl rfl, fun U hU hW => ⟨rfl, by rw [hU], by rw [hU]; exact hPc, va_K.moved hW.alike hKc, hDc.weaken (fun _ _ _ _ => trivial)⟩⟩ rfl rfl hl.1 rfl (lv_room (Nat.le_of_ble_eq_true rfl)) dX9_make_2 ⟨Nat.le_of_ble_eq_true rfl, Nat.le_of_ble_eq_true rfl⟩) hS (fun q _ h => hFc q h) hFc (fun r1 u t H1 locs ht hvm hw hB hz1 hk1 hS => ?_)
  obtain ⟨hP1, hK1, hD1⟩ := hB
  rw [ht] at hP1
  have hK1 := va_K.moved hvm.symm hK1
  obtain ⟨hP, hD⟩ := va_join (wr := []) (w1 := [(ad0, .inr (9, [.ref ad1, .ref ad2, .ref ad3, .ref ad4, .ref ad5, .ref ad6, .ref ad7, .ref ad8, .int 0, .ref ad9, .ref ad10, .ref ad11, .ref ad12, .ref ad13])), (ad2, .inr (3, [.int 0, .int 0, .int 10, .int 0, .int 0, .int 1, .ref ad14, .ref ad15, .ref ad16, .ref ad17, .ref ad18]))]) hP hD [0, 1] [] rfl rfl (by decide) (by decide) hk1 hFc hP1 hD1
  have hK := (hK.sub (tys' := []) [] rfl).app hK1
  clear hPc hDc hKc hFc hP1 hD1 hK1 hk1 hz1
  generalize H1 = H at hP hS ⊢
  have hP : va_P (dC, dI) vwCl [(ad0, .inr (9, [.ref ad1, .ref ad2, .ref ad3, .ref ad4, .ref ad5, .ref ad6, .ref ad7, .ref ad8, .int 0, .ref ad9, .ref ad10, .ref ad11, .ref ad12, .ref ad13])), (ad2, .inr (3, [.int 0, .int 0, .int 10, .int 0, .int 0, .int 1, .ref ad14, .ref ad15, .ref ad16, .ref ad17, .ref ad18]))] H := hP
  have hD : va_D A [(ad0, .inr (9, [.ref ad1, .ref ad2, .ref ad3, .ref ad4, .ref ad5, .ref ad6, .ref ad7, .ref ad8, .int 0, .ref ad9, .ref ad10, .ref ad11, .ref ad12, .ref ad13])), (ad2, .inr (3, [.int 0, .int 0, .int 10, .int 0, .int 0, .int 1, .ref ad14, .ref ad15, .ref ad16, .ref ad17, .ref ad18]))] := hD
  have hK : va_K (dC, dI) vwCl [] s := hK
  refine W.widen (k := 0) (n := 0) (by decide) (by decide) ?_
  have hw : r1 = 0 := hw
  subst hw
  refine lv_if_ne (tgt := 11) hx hb dX9_make_5 (by decide) (fun cz => absurd cz (by decide)) (fun _ => ?_)
  refine lv_bipush (v := (-2)) hx hb dX9_make_8 (by decide) ?_
  refine W.widen (k := 0) (n := 0) (by decide) (by decide) ?_
  exact W.iret (v := (-2)) hx hb hr (fun t ht hW => ⟨⟨(-2), (), rfl, rfl, trivial⟩, hS.F ht⟩) hS.2.2 dX9_make_10

set_option maxHeartbeats 4000000 in
set_option maxRecDepth 100000 in
theorem ct_X9_wages (l : Launch) (dC : Nat → ClassId) (dI : Nat → Nat → Nat) (ad0 : Nat) (vi0 : Int32) (vi1 : Int32) (ad1 : Nat) (ad2 : Nat) (ad3 : Nat) (ad4 : Nat) (ad5 : Nat) (ad6 : Nat) (ad7 : Nat) (ad8 : Nat) (ad9 : Nat) (ad10 : Nat) (ad11 : Nat) (ad12 : Nat) (ad13 : Nat) (sz : Nat) : Met l yX9_wages wsX9_wages ({ frames := 0, cells := 0, slots := 0, locals := 0 }) (va_Pc [.ref ad0, .int vi0, .int vi1] (fun U => U.heap.size = sz ∧ va_P (dC, dI) vwCl [(ad0, .inr (9, [.ref ad1, .ref ad2, .ref ad3, .ref ad4, .ref ad5, .ref ad6, .ref ad7, .ref ad8, .int 0, .ref ad9, .ref ad10, .ref ad11, .ref ad12, .ref ad13]))] U.heap ∧ va_K (dC, dI) vwCl [] U ∧ va_D (fun _ => True) [(ad0, .inr (9, [.ref ad1, .ref ad2, .ref ad3, .ref ad4, .ref ad5, .ref ad6, .ref ad7, .ref ad8, .int 0, .ref ad9, .ref ad10, .ref ad11, .ref ad12, .ref ad13]))])) (va_Ql (fun (r : Int64) (_ : Unit) => r = (-1)) (fun _ _ => True) (va_A [(ad0, .inr (9, [.ref ad1, .ref ad2, .ref ad3, .ref ad4, .ref ad5, .ref ad6, .ref ad7, .ref ad8, .int 0, .ref ad9, .ref ad10, .ref ad11, .ref ad12, .ref ad13]))] sz)) 0 0 (va_A [(ad0, .inr (9, [.ref ad1, .ref ad2, .ref ad3, .ref ad4, .ref ad5, .ref ad6, .ref ad7, .ref ad8, .int 0, .ref ad9, .ref ad10, .ref ad11, .ref ad12, .ref ad13]))] sz) := by
  refine Met.ofW (cc := cX9_wages) (maxL := 3) (ret := (some .long)) (by decide) rfl ?_
  intro p e s m args below meth c s₁ B hml hv
  obtain ⟨rfl, hsz, hP, hK, hD0⟩ := hv
  have hx := B.exec
  have hb := B.bytes
  have hr := B.returns
  have hts := atoms_spec (ws := wsX9_wages) B.pre
  have hown : s.vm.findClass RX9 = some m.cls := findClass_of_methodNamed B.named
  have hlocks := B.notSynchronized
  subst hsz
  have hD := hD0.self (sz := s.heap.size)
  generalize hAe : va_A [(ad0, .inr (9, [.ref ad1, .ref ad2, .ref ad3, .ref ad4, .ref ad5, .ref ad6, .ref ad7, .ref ad8, .int 0, .ref ad9, .ref ad10, .ref ad11, .ref ad12, .ref ad13]))] s.heap.size = A at hD ⊢
  have hA : ∀ q : Nat, s.heap.size ≤ q → A q := fun q h => by rw [← hAe]; exact Or.inr h
  have hS : va_S A s.heap s.heap [] := va_S.rf
  have hP : va_P (dC, dI) vwCl [(ad0, .inr (9, [.ref ad1, .ref ad2, .ref ad3, .ref ad4, .ref ad5, .ref ad6, .ref ad7, .ref ad8, .int 0, .ref ad9, .ref ad10, .ref ad11, .ref ad12, .ref ad13]))] s.heap := hP
  have hl := lv_entry ([.ref ad0, .int vi0, .int vi1]) (n := 3) (Nat.le_of_ble_eq_true rfl)
  rw [lg_entry_eq]
  generalize (lg_sl ([.ref ad0, .int vi0, .int vi1]) ++ List.replicate (3 - (lg_sl ([.ref ad0, .int vi0, .int vi1])).length) Slot.unset).toArray = ls at hl ⊢
  have hl : lv_has ls 3 [(0, .ref ad0), (1, .int vi0), (2, .int vi1)] := hl
  refine lv_aload_n hx hb dX9_wages_0 rfl (lv_at hl 0 rfl) ?_
  refine va_get (D := (dC, dI)) (ci := 9) (v := .int 0) (C := RX9) (T := TX9) (N := 14) hx hb hts iw_X9_wages_X9 hown hK hP 0 rfl rfl 8 (by decide) (hts _ kk_X9_wages_0) (fun _ h9 => h9) rfl dX9_wages_1 ?_
  refine lv_if_eq (tgt := 15) hx hb dX9_wages_4 (by decide) (fun _ => ?_) (fun cz => absurd cz (by decide))
  refine lv_ldc2 (v := (-1)) hx hb hown (hts _ kk_X9_wages_1) dX9_wages_15 ?_
  refine W.widen (k := 0) (n := 0) (by decide) (by decide) ?_
  exact W.lret (v := (-1)) hx hb hr (fun t ht hW => ⟨⟨(-1), (), rfl, rfl, trivial⟩, hS.F ht⟩) hS.2.2 dX9_wages_18

set_option maxHeartbeats 4000000 in
set_option maxRecDepth 100000 in
theorem ct_X9_seen (l : Launch) (dC : Nat → ClassId) (dI : Nat → Nat → Nat) (ad0 : Nat) (vi0 : Int32) (ad1 : Nat) (ad2 : Nat) (ad3 : Nat) (ad4 : Nat) (ad5 : Nat) (ad6 : Nat) (ad7 : Nat) (ad8 : Nat) (ad9 : Nat) (ad10 : Nat) (ad11 : Nat) (ad12 : Nat) (ad13 : Nat) (ad14 : Nat) (ad15 : Nat) (ad16 : Nat) (ad17 : Nat) (ad18 : Nat) (sz : Nat) : Met l yX9_seen wsX9_seen ({ frames := 1, cells := 0, slots := 0, locals := 21 }) (va_Pc [.ref ad0, .int vi0] (fun U => U.heap.size = sz ∧ va_P (dC, dI) vwCl [(ad0, .inr (9, [.ref ad1, .ref ad2, .ref ad3, .ref ad4, .ref ad5, .ref ad6, .ref ad7, .ref ad8, .int 0, .ref ad9, .ref ad10, .ref ad11, .ref ad12, .ref ad13])), (ad2, .inr (3, [.int 0, .int 0, .int 10, .int 0, .int 0, .int 1, .ref ad14, .ref ad15, .ref ad16, .ref ad17, .ref ad18]))] U.heap ∧ va_K (dC, dI) vwCl [] U ∧ va_D (fun _ => True) [(ad0, .inr (9, [.ref ad1, .ref ad2, .ref ad3, .ref ad4, .ref ad5, .ref ad6, .ref ad7, .ref ad8, .int 0, .ref ad9, .ref ad10, .ref ad11, .ref ad12, .ref ad13])), (ad2, .inr (3, [.int 0, .int 0, .int 10, .int 0, .int 0, .int 1, .ref ad14, .ref ad15, .ref ad16, .ref ad17, .ref ad18]))])) (va_Qi (fun (r : Int32) (_ : Unit) => r = (-2)) (fun _ _ => True) (va_A [(ad0, .inr (9, [.ref ad1, .ref ad2, .ref ad3, .ref ad4, .ref ad5, .ref ad6, .ref ad7, .ref ad8, .int 0, .ref ad9, .ref ad10, .ref ad11, .ref ad12, .ref ad13])), (ad2, .inr (3, [.int 0, .int 0, .int 10, .int 0, .int 0, .int 1, .ref ad14, .ref ad15, .ref ad16, .ref ad17, .ref ad18]))] sz)) 0 0 (va_A [(ad0, .inr (9, [.ref ad1, .ref ad2, .ref ad3, .ref ad4, .ref ad5, .ref ad6, .ref ad7, .ref ad8, .int 0, .ref ad9, .ref ad10, .ref ad11, .ref ad12, .ref ad13])), (ad2, .inr (3, [.int 0, .int 0, .int 10, .int 0, .int 0, .int 1, .ref ad14, .ref ad15, .ref ad16, .ref ad17, .ref ad18]))] sz) := by
  refine Met.ofW (cc := cX9_seen) (maxL := 3) (ret := (some .int)) (by decide) rfl ?_
  intro p e s m args below meth c s₁ B hml hv
  obtain ⟨rfl, hsz, hP, hK, hD0⟩ := hv
  have hx := B.exec
  have hb := B.bytes
  have hr := B.returns
  have hts := atoms_spec (ws := wsX9_seen) B.pre
  have hown : s.vm.findClass RX9 = some m.cls := findClass_of_methodNamed B.named
  have hlocks := B.notSynchronized
  subst hsz
  have hD := hD0.self (sz := s.heap.size)
  generalize hAe : va_A [(ad0, .inr (9, [.ref ad1, .ref ad2, .ref ad3, .ref ad4, .ref ad5, .ref ad6, .ref ad7, .ref ad8, .int 0, .ref ad9, .ref ad10, .ref ad11, .ref ad12, .ref ad13])), (ad2, .inr (3, [.int 0, .int 0, .int 10, .int 0, .int 0, .int 1, .ref ad14, .ref ad15, .ref ad16, .ref ad17, .ref ad18]))] s.heap.size = A at hD ⊢
  have hA : ∀ q : Nat, s.heap.size ≤ q → A q := fun q h => by rw [← hAe]; exact Or.inr h
  have hS : va_S A s.heap s.heap [] := va_S.rf
  have hP : va_P (dC, dI) vwCl [(ad0, .inr (9, [.ref ad1, .ref ad2, .ref ad3, .ref ad4, .ref ad5, .ref ad6, .ref ad7, .ref ad8, .int 0, .ref ad9, .ref ad10, .ref ad11, .ref ad12, .ref ad13])), (ad2, .inr (3, [.int 0, .int 0, .int 10, .int 0, .int 0, .int 1, .ref ad14, .ref ad15, .ref ad16, .ref ad17, .ref ad18]))] s.heap := hP
  have hl := lv_entry ([.ref ad0, .int vi0]) (n := 3) (Nat.le_of_ble_eq_true rfl)
  rw [lg_entry_eq]
  generalize (lg_sl ([.ref ad0, .int vi0]) ++ List.replicate (3 - (lg_sl ([.ref ad0, .int vi0])).length) Slot.unset).toArray = ls at hl ⊢
  have hl : lv_has ls 3 [(0, .ref ad0), (1, .int vi0)] := hl
  refine lv_aload_n hx hb dX9_seen_0 rfl (lv_at hl 0 rfl) ?_
  refine lv_iload_n hx hb dX9_seen_1 rfl (lv_at hl 1 rfl) ?_
  have hPc := hP.sub (ws' := [(ad0, .inr (9, [.ref ad1, .ref ad2, .ref ad3, .ref ad4, .ref ad5, .ref ad6, .ref ad7, .ref ad8, .int 0, .ref ad9, .ref ad10, .ref ad11, .ref ad12, .ref ad13])), (ad2, .inr (3, [.int 0, .int 0, .int 10, .int 0, .int 0, .int 1, .ref ad14, .ref ad15, .ref ad16, .ref ad17, .ref ad18]))]) [0, 1] rfl
  have hDc := hD.sub (ws' := [(ad0, .inr (9, [.ref ad1, .ref ad2, .ref ad3, .ref ad4, .ref ad5, .ref ad6, .ref ad7, .ref ad8, .int 0, .ref ad9, .ref ad10, .ref ad11, .ref ad12, .ref ad13])), (ad2, .inr (3, [.int 0, .int 0, .int 10, .int 0, .int 0, .int 1, .ref ad14, .ref ad15, .ref ad16, .ref ad17, .ref ad18]))]) [0, 1] (by decide) rfl
  have hKc := hK.sub (tys' := []) [] rfl
  have hFc := va_free (wc := [(ad0, .inr (9, [.ref ad1, .ref ad2, .ref ad3, .ref ad4, .ref ad5, .ref ad6, .ref ad7, .ref ad8, .int 0, .ref ad9, .ref ad10, .ref ad11, .ref ad12, .ref ad13])), (ad2, .inr (3, [.int 0, .int 0, .int 10, .int 0, .int 0, .int 1, .ref ad14, .ref ad15, .ref ad16, .ref ad17, .ref ad18]))]) hD hS hA [0, 1] rfl
  refine va_calli (va_runV (As := [.int vi0]) (rest := []) ⟨hx, hb, hml, hown, hts⟩ (ct_X9_isWork l dC dI ad0 vi0 ad1 ad2 ad3 ad4 ad5 ad6 ad7 ad8 ad9 ad10 ad11 ad12 ad13 ad14 ad15 ad16 ad17 ad18 s.heap.size) (cwV 1 hts gX9_seen_X9_isWork rfl rfl rfl (by decide +kernel) ⟨Nat.le_of_ble_eq_true rfl, Nat.le_of_ble_eq_true rfl⟩) ⟨fun a U g mk q => by obtain ⟨q0, q1, qP, qK, qD⟩ := q; exact ⟨q0, q1, qP, va_K.moved (u := U) (U := U.calling g mk a) (Vm.Alike.refl U.vm) qK, qD⟩, va_recv hKc hPc (ci := 9) (q0 := 0) rfl rfl, fun U hU hW => ⟨rfl, by rw [hU], by rw [hU]; exact hPc, va_K.moved hW.alike hKc, hDc.weaken (fun _ _ _ _ => trivial)⟩⟩ rfl rfl hl.1 rfl (lv_room (Nat.le_of_ble_eq_true rfl)) dX9_seen_2 ⟨Nat.le_of_ble_eq_true rfl, Nat.le_of_ble_eq_true rfl⟩) hS (fun q _ h => hFc q h) hFc (fun r1 u t H1 locs ht hvm hw hB hz1 hk1 hS => ?_)
  obtain ⟨hP1, hK1, hD1⟩ := hB
  rw [ht] at hP1
  have hK1 := va_K.moved hvm.symm hK1
  obtain ⟨hP, hD⟩ := va_join (wr := []) (w1 := [(ad0, .inr (9, [.ref ad1, .ref ad2, .ref ad3, .ref ad4, .ref ad5, .ref ad6, .ref ad7, .ref ad8, .int 0, .ref ad9, .ref ad10, .ref ad11, .ref ad12, .ref ad13])), (ad2, .inr (3, [.int 0, .int 0, .int 10, .int 0, .int 0, .int 1, .ref ad14, .ref ad15, .ref ad16, .ref ad17, .ref ad18]))]) hP hD [0, 1] [] rfl rfl (by decide) (by decide) hk1 hFc hP1 hD1
  have hK := (hK.sub (tys' := []) [] rfl).app hK1
  clear hPc hDc hKc hFc hP1 hD1 hK1 hk1 hz1
  generalize H1 = H at hP hS ⊢
  have hP : va_P (dC, dI) vwCl [(ad0, .inr (9, [.ref ad1, .ref ad2, .ref ad3, .ref ad4, .ref ad5, .ref ad6, .ref ad7, .ref ad8, .int 0, .ref ad9, .ref ad10, .ref ad11, .ref ad12, .ref ad13])), (ad2, .inr (3, [.int 0, .int 0, .int 10, .int 0, .int 0, .int 1, .ref ad14, .ref ad15, .ref ad16, .ref ad17, .ref ad18]))] H := hP
  have hD : va_D A [(ad0, .inr (9, [.ref ad1, .ref ad2, .ref ad3, .ref ad4, .ref ad5, .ref ad6, .ref ad7, .ref ad8, .int 0, .ref ad9, .ref ad10, .ref ad11, .ref ad12, .ref ad13])), (ad2, .inr (3, [.int 0, .int 0, .int 10, .int 0, .int 0, .int 1, .ref ad14, .ref ad15, .ref ad16, .ref ad17, .ref ad18]))] := hD
  have hK : va_K (dC, dI) vwCl [] s := hK
  refine W.widen (k := 0) (n := 0) (by decide) (by decide) ?_
  have hw : r1 = 0 := hw
  subst hw
  refine lv_if_ne (tgt := 11) hx hb dX9_seen_5 (by decide) (fun cz => absurd cz (by decide)) (fun _ => ?_)
  refine lv_bipush (v := (-2)) hx hb dX9_seen_8 (by decide) ?_
  refine W.widen (k := 0) (n := 0) (by decide) (by decide) ?_
  exact W.iret (v := (-2)) hx hb hr (fun t ht hW => ⟨⟨(-2), (), rfl, rfl, trivial⟩, hS.F ht⟩) hS.2.2 dX9_seen_10

set_option maxHeartbeats 4000000 in
set_option maxRecDepth 100000 in
theorem ct_X9_bestWork (l : Launch) (dC : Nat → ClassId) (dI : Nat → Nat → Nat) (ad0 : Nat) (ad1 : Nat) (ad2 : Nat) (ad3 : Nat) (ad4 : Nat) (ad5 : Nat) (ad6 : Nat) (ad7 : Nat) (ad8 : Nat) (ad9 : Nat) (ad10 : Nat) (ad11 : Nat) (ad12 : Nat) (ad13 : Nat) (ad14 : Nat) (ad15 : Nat) (ad16 : Nat) (ad17 : Nat) (ad18 : Nat) (sz : Nat) : Met l yX9_bestWork wsX9_bestWork ({ frames := 0, cells := 0, slots := 0, locals := 0 }) (va_Pc [.ref ad0] (fun U => U.heap.size = sz ∧ va_P (dC, dI) vwCl [(ad0, .inr (9, [.ref ad1, .ref ad2, .ref ad3, .ref ad4, .ref ad5, .ref ad6, .ref ad7, .ref ad8, .int 0, .ref ad9, .ref ad10, .ref ad11, .ref ad12, .ref ad13])), (ad2, .inr (3, [.int 0, .int 0, .int 10, .int 0, .int 0, .int 1, .ref ad14, .ref ad15, .ref ad16, .ref ad17, .ref ad18]))] U.heap ∧ va_K (dC, dI) vwCl [] U ∧ va_D (fun _ => True) [(ad0, .inr (9, [.ref ad1, .ref ad2, .ref ad3, .ref ad4, .ref ad5, .ref ad6, .ref ad7, .ref ad8, .int 0, .ref ad9, .ref ad10, .ref ad11, .ref ad12, .ref ad13])), (ad2, .inr (3, [.int 0, .int 0, .int 10, .int 0, .int 0, .int 1, .ref ad14, .ref ad15, .ref ad16, .ref ad17, .ref ad18]))])) (va_Qi (fun (r : Int32) (_ : Unit) => r = (-1)) (fun _ t => va_P (dC, dI) vwCl [(ad0, .inr (9, [.ref ad1, .ref ad2, .ref ad3, .ref ad4, .ref ad5, .ref ad6, .ref ad7, .ref ad8, .int 0, .ref ad9, .ref ad10, .ref ad11, .ref ad12, .ref ad13])), (ad2, .inr (3, [.int 0, .int 0, .int 10, .int 0, .int 0, .int 1, .ref ad14, .ref ad15, .ref ad16, .ref ad17, .ref ad18]))] t.heap ∧ va_K (dC, dI) vwCl [] t ∧ va_D (va_A [(ad0, .inr (9, [.ref ad1, .ref ad2, .ref ad3, .ref ad4, .ref ad5, .ref ad6, .ref ad7, .ref ad8, .int 0, .ref ad9, .ref ad10, .ref ad11, .ref ad12, .ref ad13])), (ad2, .inr (3, [.int 0, .int 0, .int 10, .int 0, .int 0, .int 1, .ref ad14, .ref ad15, .ref ad16, .ref ad17, .ref ad18]))] sz) [(ad0, .inr (9, [.ref ad1, .ref ad2, .ref ad3, .ref ad4, .ref ad5, .ref ad6, .ref ad7, .ref ad8, .int 0, .ref ad9, .ref ad10, .ref ad11, .ref ad12, .ref ad13])), (ad2, .inr (3, [.int 0, .int 0, .int 10, .int 0, .int 0, .int 1, .ref ad14, .ref ad15, .ref ad16, .ref ad17, .ref ad18]))]) (va_A [(ad0, .inr (9, [.ref ad1, .ref ad2, .ref ad3, .ref ad4, .ref ad5, .ref ad6, .ref ad7, .ref ad8, .int 0, .ref ad9, .ref ad10, .ref ad11, .ref ad12, .ref ad13])), (ad2, .inr (3, [.int 0, .int 0, .int 10, .int 0, .int 0, .int 1, .ref ad14, .ref ad15, .ref ad16, .ref ad17, .ref ad18]))] sz)) 0 0 (va_A [(ad0, .inr (9, [.ref ad1, .ref ad2, .ref ad3, .ref ad4, .ref ad5, .ref ad6, .ref ad7, .ref ad8, .int 0, .ref ad9, .ref ad10, .ref ad11, .ref ad12, .ref ad13])), (ad2, .inr (3, [.int 0, .int 0, .int 10, .int 0, .int 0, .int 1, .ref ad14, .ref ad15, .ref ad16, .ref ad17, .ref ad18]))] sz) := by
  refine Met.ofW (cc := cX9_bestWork) (maxL := 3) (ret := (some .int)) (by decide) rfl ?_
  intro p e s m args below meth c s₁ B hml hv
  obtain ⟨rfl, hsz, hP, hK, hD0⟩ := hv
  have hx := B.exec
  have hb := B.bytes
  have hr := B.returns
  have hts := atoms_spec (ws := wsX9_bestWork) B.pre
  have hown : s.vm.findClass RX9 = some m.cls := findClass_of_methodNamed B.named
  have hlocks := B.notSynchronized
  subst hsz
  have hD := hD0.self (sz := s.heap.size)
  generalize hAe : va_A [(ad0, .inr (9, [.ref ad1, .ref ad2, .ref ad3, .ref ad4, .ref ad5, .ref ad6, .ref ad7, .ref ad8, .int 0, .ref ad9, .ref ad10, .ref ad11, .ref ad12, .ref ad13])), (ad2, .inr (3, [.int 0, .int 0, .int 10, .int 0, .int 0, .int 1, .ref ad14, .ref ad15, .ref ad16, .ref ad17, .ref ad18]))] s.heap.size = A at hD ⊢
  have hA : ∀ q : Nat, s.heap.size ≤ q → A q := fun q h => by rw [← hAe]; exact Or.inr h
  have hS : va_S A s.heap s.heap [] := va_S.rf
  have hP : va_P (dC, dI) vwCl [(ad0, .inr (9, [.ref ad1, .ref ad2, .ref ad3, .ref ad4, .ref ad5, .ref ad6, .ref ad7, .ref ad8, .int 0, .ref ad9, .ref ad10, .ref ad11, .ref ad12, .ref ad13])), (ad2, .inr (3, [.int 0, .int 0, .int 10, .int 0, .int 0, .int 1, .ref ad14, .ref ad15, .ref ad16, .ref ad17, .ref ad18]))] s.heap := hP
  have hl := lv_entry ([.ref ad0]) (n := 3) (Nat.le_of_ble_eq_true rfl)
  rw [lg_entry_eq]
  generalize (lg_sl ([.ref ad0]) ++ List.replicate (3 - (lg_sl ([.ref ad0])).length) Slot.unset).toArray = ls at hl ⊢
  have hl : lv_has ls 3 [(0, .ref ad0)] := hl
  refine lv_iconst (v := (-1)) hx hb dX9_bestWork_0 (by decide) ?_
  refine lv_istore_n (lv' := [(1, .int (-1)), (0, .ref ad0)]) hx hb dX9_bestWork_1 rfl hl (by decide) rfl (fun ls hl => ?_)
  refine lv_iconst (v := 0) hx hb dX9_bestWork_2 (by decide) ?_
  refine lv_istore_n (lv' := [(2, .int 0), (1, .int (-1)), (0, .ref ad0)]) hx hb dX9_bestWork_3 rfl hl (by decide) rfl (fun ls hl => ?_)
  refine lv_iload_n hx hb dX9_bestWork_4 rfl (lv_at hl 0 rfl) ?_
  refine lv_aload_n hx hb dX9_bestWork_5 rfl (lv_at hl 2 rfl) ?_
  refine va_get (D := (dC, dI)) (ci := 9) (v := .ref ad2) (C := RX9) (T := TX9) (N := 14) hx hb hts iw_X9_bestWork_X9 hown hK hP 0 rfl rfl 1 (by decide) (hts _ kk_X9_bestWork_0) (fun _ h9 => h9) rfl dX9_bestWork_6 ?_
  refine va_get (D := (dC, dI)) (ci := 3) (v := .int 0) (C := RX3) (T := TX3) (N := 11) hx hb hts iw_X9_bestWork_X3 hown hK hP 1 rfl rfl 1 (by decide) (hts _ kk_X9_bestWork_1) (fun _ h9 => h9) rfl dX9_bestWork_9 ?_
  refine lv_icmp_ge (tgt := 128) hx hb dX9_bestWork_12 (by decide) (fun _ => ?_) (fun cz => absurd cz (by decide))
  refine lv_iload_n hx hb dX9_bestWork_128 rfl (lv_at hl 1 rfl) ?_
  refine W.widen (k := 0) (n := 0) (by decide) (by decide) ?_
  have hP9 := hP.sub (ws' := [(ad0, .inr (9, [.ref ad1, .ref ad2, .ref ad3, .ref ad4, .ref ad5, .ref ad6, .ref ad7, .ref ad8, .int 0, .ref ad9, .ref ad10, .ref ad11, .ref ad12, .ref ad13])), (ad2, .inr (3, [.int 0, .int 0, .int 10, .int 0, .int 0, .int 1, .ref ad14, .ref ad15, .ref ad16, .ref ad17, .ref ad18]))]) [0, 1] rfl
  have hD9 := hD.sub (ws' := [(ad0, .inr (9, [.ref ad1, .ref ad2, .ref ad3, .ref ad4, .ref ad5, .ref ad6, .ref ad7, .ref ad8, .int 0, .ref ad9, .ref ad10, .ref ad11, .ref ad12, .ref ad13])), (ad2, .inr (3, [.int 0, .int 0, .int 10, .int 0, .int 0, .int 1, .ref ad14, .ref ad15, .ref ad16, .ref ad17, .ref ad18]))]) [0, 1] (by decide) rfl
  have hK9 := hK.sub (tys' := []) [] rfl
  exact W.iret (v := (-1)) hx hb hr (fun t ht hW => ⟨⟨(-1), (), rfl, rfl, by rw [ht]; exact hP9, va_K.moved hW.alike hK9, hD9⟩, hS.F ht⟩) hS.2.2 dX9_bestWork_129

set_option maxHeartbeats 4000000 in
set_option maxRecDepth 100000 in
theorem ct_X9_best (l : Launch) (dC : Nat → ClassId) (dI : Nat → Nat → Nat) (ad0 : Nat) (ad1 : Nat) (ad2 : Nat) (ad3 : Nat) (ad4 : Nat) (ad5 : Nat) (ad6 : Nat) (ad7 : Nat) (ad8 : Nat) (ad9 : Nat) (ad10 : Nat) (ad11 : Nat) (ad12 : Nat) (ad13 : Nat) (ad14 : Nat) (ad15 : Nat) (ad16 : Nat) (ad17 : Nat) (ad18 : Nat) (sz : Nat) : Met l yX9_best wsX9_best ({ frames := 1, cells := 0, slots := 0, locals := 22 }) (va_Pc [.ref ad0] (fun U => U.heap.size = sz ∧ va_P (dC, dI) vwCl [(ad0, .inr (9, [.ref ad1, .ref ad2, .ref ad3, .ref ad4, .ref ad5, .ref ad6, .ref ad7, .ref ad8, .int 0, .ref ad9, .ref ad10, .ref ad11, .ref ad12, .ref ad13])), (ad2, .inr (3, [.int 0, .int 0, .int 10, .int 0, .int 0, .int 1, .ref ad14, .ref ad15, .ref ad16, .ref ad17, .ref ad18]))] U.heap ∧ va_K (dC, dI) vwCl [] U ∧ va_D (fun _ => True) [(ad0, .inr (9, [.ref ad1, .ref ad2, .ref ad3, .ref ad4, .ref ad5, .ref ad6, .ref ad7, .ref ad8, .int 0, .ref ad9, .ref ad10, .ref ad11, .ref ad12, .ref ad13])), (ad2, .inr (3, [.int 0, .int 0, .int 10, .int 0, .int 0, .int 1, .ref ad14, .ref ad15, .ref ad16, .ref ad17, .ref ad18]))])) (va_Qi (fun (r : Int32) (_ : Unit) => r = (-1)) (fun _ _ => True) (va_A [(ad0, .inr (9, [.ref ad1, .ref ad2, .ref ad3, .ref ad4, .ref ad5, .ref ad6, .ref ad7, .ref ad8, .int 0, .ref ad9, .ref ad10, .ref ad11, .ref ad12, .ref ad13])), (ad2, .inr (3, [.int 0, .int 0, .int 10, .int 0, .int 0, .int 1, .ref ad14, .ref ad15, .ref ad16, .ref ad17, .ref ad18]))] sz)) 0 0 (va_A [(ad0, .inr (9, [.ref ad1, .ref ad2, .ref ad3, .ref ad4, .ref ad5, .ref ad6, .ref ad7, .ref ad8, .int 0, .ref ad9, .ref ad10, .ref ad11, .ref ad12, .ref ad13])), (ad2, .inr (3, [.int 0, .int 0, .int 10, .int 0, .int 0, .int 1, .ref ad14, .ref ad15, .ref ad16, .ref ad17, .ref ad18]))] sz) := by
  refine Met.ofW (cc := cX9_best) (maxL := 2) (ret := (some .int)) (by decide) rfl ?_
  intro p e s m args below meth c s₁ B hml hv
  obtain ⟨rfl, hsz, hP, hK, hD0⟩ := hv
  have hx := B.exec
  have hb := B.bytes
  have hr := B.returns
  have hts := atoms_spec (ws := wsX9_best) B.pre
  have hown : s.vm.findClass RX9 = some m.cls := findClass_of_methodNamed B.named
  have hlocks := B.notSynchronized
  subst hsz
  have hD := hD0.self (sz := s.heap.size)
  generalize hAe : va_A [(ad0, .inr (9, [.ref ad1, .ref ad2, .ref ad3, .ref ad4, .ref ad5, .ref ad6, .ref ad7, .ref ad8, .int 0, .ref ad9, .ref ad10, .ref ad11, .ref ad12, .ref ad13])), (ad2, .inr (3, [.int 0, .int 0, .int 10, .int 0, .int 0, .int 1, .ref ad14, .ref ad15, .ref ad16, .ref ad17, .ref ad18]))] s.heap.size = A at hD ⊢
  have hA : ∀ q : Nat, s.heap.size ≤ q → A q := fun q h => by rw [← hAe]; exact Or.inr h
  have hS : va_S A s.heap s.heap [] := va_S.rf
  have hP : va_P (dC, dI) vwCl [(ad0, .inr (9, [.ref ad1, .ref ad2, .ref ad3, .ref ad4, .ref ad5, .ref ad6, .ref ad7, .ref ad8, .int 0, .ref ad9, .ref ad10, .ref ad11, .ref ad12, .ref ad13])), (ad2, .inr (3, [.int 0, .int 0, .int 10, .int 0, .int 0, .int 1, .ref ad14, .ref ad15, .ref ad16, .ref ad17, .ref ad18]))] s.heap := hP
  have hl := lv_entry ([.ref ad0]) (n := 2) (Nat.le_of_ble_eq_true rfl)
  rw [lg_entry_eq]
  generalize (lg_sl ([.ref ad0]) ++ List.replicate (2 - (lg_sl ([.ref ad0])).length) Slot.unset).toArray = ls at hl ⊢
  have hl : lv_has ls 2 [(0, .ref ad0)] := hl
  refine lv_aload_n hx hb dX9_best_0 rfl (lv_at hl 0 rfl) ?_
  have hPc := hP.sub (ws' := [(ad0, .inr (9, [.ref ad1, .ref ad2, .ref ad3, .ref ad4, .ref ad5, .ref ad6, .ref ad7, .ref ad8, .int 0, .ref ad9, .ref ad10, .ref ad11, .ref ad12, .ref ad13])), (ad2, .inr (3, [.int 0, .int 0, .int 10, .int 0, .int 0, .int 1, .ref ad14, .ref ad15, .ref ad16, .ref ad17, .ref ad18]))]) [0, 1] rfl
  have hDc := hD.sub (ws' := [(ad0, .inr (9, [.ref ad1, .ref ad2, .ref ad3, .ref ad4, .ref ad5, .ref ad6, .ref ad7, .ref ad8, .int 0, .ref ad9, .ref ad10, .ref ad11, .ref ad12, .ref ad13])), (ad2, .inr (3, [.int 0, .int 0, .int 10, .int 0, .int 0, .int 1, .ref ad14, .ref ad15, .ref ad16, .ref ad17, .ref ad18]))]) [0, 1] (by decide) rfl
  have hKc := hK.sub (tys' := []) [] rfl
  have hFc := va_free (wc := [(ad0, .inr (9, [.ref ad1, .ref ad2, .ref ad3, .ref ad4, .ref ad5, .ref ad6, .ref ad7, .ref ad8, .int 0, .ref ad9, .ref ad10, .ref ad11, .ref ad12, .ref ad13])), (ad2, .inr (3, [.int 0, .int 0, .int 10, .int 0, .int 0, .int 1, .ref ad14, .ref ad15, .ref ad16, .ref ad17, .ref ad18]))]) hD hS hA [0, 1] rfl
  refine va_calli (va_runV (As := []) (rest := []) ⟨hx, hb, hml, hown, hts⟩ (ct_X9_bestWork l dC dI ad0 ad1 ad2 ad3 ad4 ad5 ad6 ad7 ad8 ad9 ad10 ad11 ad12 ad13 ad14 ad15 ad16 ad17 ad18 s.heap.size) (cwV 0 hts gX9_best_X9_bestWork rfl rfl rfl (by decide +kernel) ⟨Nat.le_of_ble_eq_true rfl, Nat.le_of_ble_eq_true rfl⟩) ⟨fun a U g mk q => by obtain ⟨q0, q1, qP, qK, qD⟩ := q; exact ⟨q0, q1, qP, va_K.moved (u := U) (U := U.calling g mk a) (Vm.Alike.refl U.vm) qK, qD⟩, va_recv hKc hPc (ci := 9) (q0 := 0) rfl rfl, fun U hU hW => ⟨rfl, by rw [hU], by rw [hU]; exact hPc, va_K.moved hW.alike hKc, hDc.weaken (fun _ _ _ _ => trivial)⟩⟩ rfl rfl hl.1 rfl (lv_room (Nat.le_of_ble_eq_true rfl)) dX9_best_1 ⟨Nat.le_of_ble_eq_true rfl, Nat.le_of_ble_eq_true rfl⟩) hS (fun q _ h => hFc q h) hFc (fun r1 u t H1 locs ht hvm hw hB hz1 hk1 hS => ?_)
  obtain ⟨hP1, hK1, hD1⟩ := hB
  rw [ht] at hP1
  have hK1 := va_K.moved hvm.symm hK1
  obtain ⟨hP, hD⟩ := va_join (wr := []) (w1 := [(ad0, .inr (9, [.ref ad1, .ref ad2, .ref ad3, .ref ad4, .ref ad5, .ref ad6, .ref ad7, .ref ad8, .int 0, .ref ad9, .ref ad10, .ref ad11, .ref ad12, .ref ad13])), (ad2, .inr (3, [.int 0, .int 0, .int 10, .int 0, .int 0, .int 1, .ref ad14, .ref ad15, .ref ad16, .ref ad17, .ref ad18]))]) hP hD [0, 1] [] rfl rfl (by decide) (by decide) hk1 hFc hP1 hD1
  have hK := (hK.sub (tys' := []) [] rfl).app hK1
  clear hPc hDc hKc hFc hP1 hD1 hK1 hk1 hz1
  generalize H1 = H at hP hS ⊢
  have hP : va_P (dC, dI) vwCl [(ad0, .inr (9, [.ref ad1, .ref ad2, .ref ad3, .ref ad4, .ref ad5, .ref ad6, .ref ad7, .ref ad8, .int 0, .ref ad9, .ref ad10, .ref ad11, .ref ad12, .ref ad13])), (ad2, .inr (3, [.int 0, .int 0, .int 10, .int 0, .int 0, .int 1, .ref ad14, .ref ad15, .ref ad16, .ref ad17, .ref ad18]))] H := hP
  have hD : va_D A [(ad0, .inr (9, [.ref ad1, .ref ad2, .ref ad3, .ref ad4, .ref ad5, .ref ad6, .ref ad7, .ref ad8, .int 0, .ref ad9, .ref ad10, .ref ad11, .ref ad12, .ref ad13])), (ad2, .inr (3, [.int 0, .int 0, .int 10, .int 0, .int 0, .int 1, .ref ad14, .ref ad15, .ref ad16, .ref ad17, .ref ad18]))] := hD
  have hK : va_K (dC, dI) vwCl [] s := hK
  refine W.widen (k := 0) (n := 0) (by decide) (by decide) ?_
  have hw : r1 = (-1) := hw
  subst hw
  refine lv_istore_n (lv' := [(1, .int (-1)), (0, .ref ad0)]) hx hb dX9_best_4 rfl hl (by decide) rfl (fun ls hl => ?_)
  refine lv_iload_n hx hb dX9_best_5 rfl (lv_at hl 0 rfl) ?_
  refine lv_iconst (v := (-1)) hx hb dX9_best_6 (by decide) ?_
  refine lv_icmp_eq (tgt := 21) hx hb dX9_best_7 (by decide) (fun _ => ?_) (fun cz => absurd cz (by decide))
  refine lv_iload_n hx hb dX9_best_21 rfl (lv_at hl 0 rfl) ?_
  refine W.widen (k := 0) (n := 0) (by decide) (by decide) ?_
  exact W.iret (v := (-1)) hx hb hr (fun t ht hW => ⟨⟨(-1), (), rfl, rfl, trivial⟩, hS.F ht⟩) hS.2.2 dX9_best_22

set_option maxHeartbeats 4000000 in
set_option maxRecDepth 100000 in
theorem ct_X9_merged (l : Launch) (dC : Nat → ClassId) (dI : Nat → Nat → Nat) (ad0 : Nat) (vi0 : Int32) (vi1 : Int32) (vi2 : Int32) (ad1 : Nat) (ad2 : Nat) (ad3 : Nat) (ad4 : Nat) (ad5 : Nat) (ad6 : Nat) (ad7 : Nat) (ad8 : Nat) (ad9 : Nat) (ad10 : Nat) (ad11 : Nat) (ad12 : Nat) (ad13 : Nat) (ad14 : Nat) (ad15 : Nat) (ad16 : Nat) (ad17 : Nat) (ad18 : Nat) (sz : Nat) : Met l yX9_merged wsX9_merged ({ frames := 1, cells := 0, slots := 0, locals := 21 }) (va_Pc [.ref ad0, .int vi0, .int vi1, .int vi2] (fun U => U.heap.size = sz ∧ va_P (dC, dI) vwCl [(ad0, .inr (9, [.ref ad1, .ref ad2, .ref ad3, .ref ad4, .ref ad5, .ref ad6, .ref ad7, .ref ad8, .int 0, .ref ad9, .ref ad10, .ref ad11, .ref ad12, .ref ad13])), (ad2, .inr (3, [.int 0, .int 0, .int 10, .int 0, .int 0, .int 1, .ref ad14, .ref ad15, .ref ad16, .ref ad17, .ref ad18]))] U.heap ∧ va_K (dC, dI) vwCl [] U ∧ va_D (fun _ => True) [(ad0, .inr (9, [.ref ad1, .ref ad2, .ref ad3, .ref ad4, .ref ad5, .ref ad6, .ref ad7, .ref ad8, .int 0, .ref ad9, .ref ad10, .ref ad11, .ref ad12, .ref ad13])), (ad2, .inr (3, [.int 0, .int 0, .int 10, .int 0, .int 0, .int 1, .ref ad14, .ref ad15, .ref ad16, .ref ad17, .ref ad18]))])) (va_Qi (fun (r : Int32) (_ : Unit) => r = (-2)) (fun _ _ => True) (va_A [(ad0, .inr (9, [.ref ad1, .ref ad2, .ref ad3, .ref ad4, .ref ad5, .ref ad6, .ref ad7, .ref ad8, .int 0, .ref ad9, .ref ad10, .ref ad11, .ref ad12, .ref ad13])), (ad2, .inr (3, [.int 0, .int 0, .int 10, .int 0, .int 0, .int 1, .ref ad14, .ref ad15, .ref ad16, .ref ad17, .ref ad18]))] sz)) 0 0 (va_A [(ad0, .inr (9, [.ref ad1, .ref ad2, .ref ad3, .ref ad4, .ref ad5, .ref ad6, .ref ad7, .ref ad8, .int 0, .ref ad9, .ref ad10, .ref ad11, .ref ad12, .ref ad13])), (ad2, .inr (3, [.int 0, .int 0, .int 10, .int 0, .int 0, .int 1, .ref ad14, .ref ad15, .ref ad16, .ref ad17, .ref ad18]))] sz) := by
  refine Met.ofW (cc := cX9_merged) (maxL := 4) (ret := (some .int)) (by decide) rfl ?_
  intro p e s m args below meth c s₁ B hml hv
  obtain ⟨rfl, hsz, hP, hK, hD0⟩ := hv
  have hx := B.exec
  have hb := B.bytes
  have hr := B.returns
  have hts := atoms_spec (ws := wsX9_merged) B.pre
  have hown : s.vm.findClass RX9 = some m.cls := findClass_of_methodNamed B.named
  have hlocks := B.notSynchronized
  subst hsz
  have hD := hD0.self (sz := s.heap.size)
  generalize hAe : va_A [(ad0, .inr (9, [.ref ad1, .ref ad2, .ref ad3, .ref ad4, .ref ad5, .ref ad6, .ref ad7, .ref ad8, .int 0, .ref ad9, .ref ad10, .ref ad11, .ref ad12, .ref ad13])), (ad2, .inr (3, [.int 0, .int 0, .int 10, .int 0, .int 0, .int 1, .ref ad14, .ref ad15, .ref ad16, .ref ad17, .ref ad18]))] s.heap.size = A at hD ⊢
  have hA : ∀ q : Nat, s.heap.size ≤ q → A q := fun q h => by rw [← hAe]; exact Or.inr h
  have hS : va_S A s.heap s.heap [] := va_S.rf
  have hP : va_P (dC, dI) vwCl [(ad0, .inr (9, [.ref ad1, .ref ad2, .ref ad3, .ref ad4, .ref ad5, .ref ad6, .ref ad7, .ref ad8, .int 0, .ref ad9, .ref ad10, .ref ad11, .ref ad12, .ref ad13])), (ad2, .inr (3, [.int 0, .int 0, .int 10, .int 0, .int 0, .int 1, .ref ad14, .ref ad15, .ref ad16, .ref ad17, .ref ad18]))] s.heap := hP
  have hl := lv_entry ([.ref ad0, .int vi0, .int vi1, .int vi2]) (n := 4) (Nat.le_of_ble_eq_true rfl)
  rw [lg_entry_eq]
  generalize (lg_sl ([.ref ad0, .int vi0, .int vi1, .int vi2]) ++ List.replicate (4 - (lg_sl ([.ref ad0, .int vi0, .int vi1, .int vi2])).length) Slot.unset).toArray = ls at hl ⊢
  have hl : lv_has ls 4 [(0, .ref ad0), (1, .int vi0), (2, .int vi1), (3, .int vi2)] := hl
  refine lv_aload_n hx hb dX9_merged_0 rfl (lv_at hl 0 rfl) ?_
  refine lv_iload_n hx hb dX9_merged_1 rfl (lv_at hl 1 rfl) ?_
  have hPc := hP.sub (ws' := [(ad0, .inr (9, [.ref ad1, .ref ad2, .ref ad3, .ref ad4, .ref ad5, .ref ad6, .ref ad7, .ref ad8, .int 0, .ref ad9, .ref ad10, .ref ad11, .ref ad12, .ref ad13])), (ad2, .inr (3, [.int 0, .int 0, .int 10, .int 0, .int 0, .int 1, .ref ad14, .ref ad15, .ref ad16, .ref ad17, .ref ad18]))]) [0, 1] rfl
  have hDc := hD.sub (ws' := [(ad0, .inr (9, [.ref ad1, .ref ad2, .ref ad3, .ref ad4, .ref ad5, .ref ad6, .ref ad7, .ref ad8, .int 0, .ref ad9, .ref ad10, .ref ad11, .ref ad12, .ref ad13])), (ad2, .inr (3, [.int 0, .int 0, .int 10, .int 0, .int 0, .int 1, .ref ad14, .ref ad15, .ref ad16, .ref ad17, .ref ad18]))]) [0, 1] (by decide) rfl
  have hKc := hK.sub (tys' := []) [] rfl
  have hFc := va_free (wc := [(ad0, .inr (9, [.ref ad1, .ref ad2, .ref ad3, .ref ad4, .ref ad5, .ref ad6, .ref ad7, .ref ad8, .int 0, .ref ad9, .ref ad10, .ref ad11, .ref ad12, .ref ad13])), (ad2, .inr (3, [.int 0, .int 0, .int 10, .int 0, .int 0, .int 1, .ref ad14, .ref ad15, .ref ad16, .ref ad17, .ref ad18]))]) hD hS hA [0, 1] rfl
  refine va_calli (va_runV (As := [.int vi0]) (rest := []) ⟨hx, hb, hml, hown, hts⟩ (ct_X9_isWork l dC dI ad0 vi0 ad1 ad2 ad3 ad4 ad5 ad6 ad7 ad8 ad9 ad10 ad11 ad12 ad13 ad14 ad15 ad16 ad17 ad18 s.heap.size) (cwV 1 hts gX9_merged_X9_isWork rfl rfl rfl (by decide +kernel) ⟨Nat.le_of_ble_eq_true rfl, Nat.le_of_ble_eq_true rfl⟩) ⟨fun a U g mk q => by obtain ⟨q0, q1, qP, qK, qD⟩ := q; exact ⟨q0, q1, qP, va_K.moved (u := U) (U := U.calling g mk a) (Vm.Alike.refl U.vm) qK, qD⟩, va_recv hKc hPc (ci := 9) (q0 := 0) rfl rfl, fun U hU hW => ⟨rfl, by rw [hU], by rw [hU]; exact hPc, va_K.moved hW.alike hKc, hDc.weaken (fun _ _ _ _ => trivial)⟩⟩ rfl rfl hl.1 rfl (lv_room (Nat.le_of_ble_eq_true rfl)) dX9_merged_2 ⟨Nat.le_of_ble_eq_true rfl, Nat.le_of_ble_eq_true rfl⟩) hS (fun q _ h => hFc q h) hFc (fun r1 u t H1 locs ht hvm hw hB hz1 hk1 hS => ?_)
  obtain ⟨hP1, hK1, hD1⟩ := hB
  rw [ht] at hP1
  have hK1 := va_K.moved hvm.symm hK1
  obtain ⟨hP, hD⟩ := va_join (wr := []) (w1 := [(ad0, .inr (9, [.ref ad1, .ref ad2, .ref ad3, .ref ad4, .ref ad5, .ref ad6, .ref ad7, .ref ad8, .int 0, .ref ad9, .ref ad10, .ref ad11, .ref ad12, .ref ad13])), (ad2, .inr (3, [.int 0, .int 0, .int 10, .int 0, .int 0, .int 1, .ref ad14, .ref ad15, .ref ad16, .ref ad17, .ref ad18]))]) hP hD [0, 1] [] rfl rfl (by decide) (by decide) hk1 hFc hP1 hD1
  have hK := (hK.sub (tys' := []) [] rfl).app hK1
  clear hPc hDc hKc hFc hP1 hD1 hK1 hk1 hz1
  generalize H1 = H at hP hS ⊢
  have hP : va_P (dC, dI) vwCl [(ad0, .inr (9, [.ref ad1, .ref ad2, .ref ad3, .ref ad4, .ref ad5, .ref ad6, .ref ad7, .ref ad8, .int 0, .ref ad9, .ref ad10, .ref ad11, .ref ad12, .ref ad13])), (ad2, .inr (3, [.int 0, .int 0, .int 10, .int 0, .int 0, .int 1, .ref ad14, .ref ad15, .ref ad16, .ref ad17, .ref ad18]))] H := hP
  have hD : va_D A [(ad0, .inr (9, [.ref ad1, .ref ad2, .ref ad3, .ref ad4, .ref ad5, .ref ad6, .ref ad7, .ref ad8, .int 0, .ref ad9, .ref ad10, .ref ad11, .ref ad12, .ref ad13])), (ad2, .inr (3, [.int 0, .int 0, .int 10, .int 0, .int 0, .int 1, .ref ad14, .ref ad15, .ref ad16, .ref ad17, .ref ad18]))] := hD
  have hK : va_K (dC, dI) vwCl [] s := hK
  refine W.widen (k := 0) (n := 0) (by decide) (by decide) ?_
  have hw : r1 = 0 := hw
  subst hw
  refine lv_if_eq (tgt := 17) hx hb dX9_merged_5 (by decide) (fun _ => ?_) (fun cz => absurd cz (by decide))
  refine lv_bipush (v := (-2)) hx hb dX9_merged_17 (by decide) ?_
  refine W.widen (k := 0) (n := 0) (by decide) (by decide) ?_
  exact W.iret (v := (-2)) hx hb hr (fun t ht hW => ⟨⟨(-2), (), rfl, rfl, trivial⟩, hS.F ht⟩) hS.2.2 dX9_merged_19

set_option maxHeartbeats 4000000 in
set_option maxRecDepth 100000 in
theorem ct_X9_coins (l : Launch) (dC : Nat → ClassId) (dI : Nat → Nat → Nat) (ad0 : Nat) (vi0 : Int32) (vi1 : Int32) (ad1 : Nat) (ad2 : Nat) (ad3 : Nat) (ad4 : Nat) (ad5 : Nat) (ad6 : Nat) (ad7 : Nat) (ad8 : Nat) (ad9 : Nat) (ad10 : Nat) (ad11 : Nat) (ad12 : Nat) (ad13 : Nat) (ad14 : Nat) (ad15 : Nat) (ad16 : Nat) (ad17 : Nat) (ad18 : Nat) (sz : Nat) : Met l yX9_coins wsX9_coins ({ frames := 1, cells := 0, slots := 0, locals := 21 }) (va_Pc [.ref ad0, .int vi0, .int vi1] (fun U => U.heap.size = sz ∧ va_P (dC, dI) vwCl [(ad0, .inr (9, [.ref ad1, .ref ad2, .ref ad3, .ref ad4, .ref ad5, .ref ad6, .ref ad7, .ref ad8, .int 0, .ref ad9, .ref ad10, .ref ad11, .ref ad12, .ref ad13])), (ad2, .inr (3, [.int 0, .int 0, .int 10, .int 0, .int 0, .int 1, .ref ad14, .ref ad15, .ref ad16, .ref ad17, .ref ad18]))] U.heap ∧ va_K (dC, dI) vwCl [] U ∧ va_D (fun _ => True) [(ad0, .inr (9, [.ref ad1, .ref ad2, .ref ad3, .ref ad4, .ref ad5, .ref ad6, .ref ad7, .ref ad8, .int 0, .ref ad9, .ref ad10, .ref ad11, .ref ad12, .ref ad13])), (ad2, .inr (3, [.int 0, .int 0, .int 10, .int 0, .int 0, .int 1, .ref ad14, .ref ad15, .ref ad16, .ref ad17, .ref ad18]))])) (va_Qi (fun (r : Int32) (_ : Unit) => r = (-2)) (fun _ _ => True) (va_A [(ad0, .inr (9, [.ref ad1, .ref ad2, .ref ad3, .ref ad4, .ref ad5, .ref ad6, .ref ad7, .ref ad8, .int 0, .ref ad9, .ref ad10, .ref ad11, .ref ad12, .ref ad13])), (ad2, .inr (3, [.int 0, .int 0, .int 10, .int 0, .int 0, .int 1, .ref ad14, .ref ad15, .ref ad16, .ref ad17, .ref ad18]))] sz)) 0 0 (va_A [(ad0, .inr (9, [.ref ad1, .ref ad2, .ref ad3, .ref ad4, .ref ad5, .ref ad6, .ref ad7, .ref ad8, .int 0, .ref ad9, .ref ad10, .ref ad11, .ref ad12, .ref ad13])), (ad2, .inr (3, [.int 0, .int 0, .int 10, .int 0, .int 0, .int 1, .ref ad14, .ref ad15, .ref ad16, .ref ad17, .ref ad18]))] sz) := by
  refine Met.ofW (cc := cX9_coins) (maxL := 4) (ret := (some .int)) (by decide) rfl ?_
  intro p e s m args below meth c s₁ B hml hv
  obtain ⟨rfl, hsz, hP, hK, hD0⟩ := hv
  have hx := B.exec
  have hb := B.bytes
  have hr := B.returns
  have hts := atoms_spec (ws := wsX9_coins) B.pre
  have hown : s.vm.findClass RX9 = some m.cls := findClass_of_methodNamed B.named
  have hlocks := B.notSynchronized
  subst hsz
  have hD := hD0.self (sz := s.heap.size)
  generalize hAe : va_A [(ad0, .inr (9, [.ref ad1, .ref ad2, .ref ad3, .ref ad4, .ref ad5, .ref ad6, .ref ad7, .ref ad8, .int 0, .ref ad9, .ref ad10, .ref ad11, .ref ad12, .ref ad13])), (ad2, .inr (3, [.int 0, .int 0, .int 10, .int 0, .int 0, .int 1, .ref ad14, .ref ad15, .ref ad16, .ref ad17, .ref ad18]))] s.heap.size = A at hD ⊢
  have hA : ∀ q : Nat, s.heap.size ≤ q → A q := fun q h => by rw [← hAe]; exact Or.inr h
  have hS : va_S A s.heap s.heap [] := va_S.rf
  have hP : va_P (dC, dI) vwCl [(ad0, .inr (9, [.ref ad1, .ref ad2, .ref ad3, .ref ad4, .ref ad5, .ref ad6, .ref ad7, .ref ad8, .int 0, .ref ad9, .ref ad10, .ref ad11, .ref ad12, .ref ad13])), (ad2, .inr (3, [.int 0, .int 0, .int 10, .int 0, .int 0, .int 1, .ref ad14, .ref ad15, .ref ad16, .ref ad17, .ref ad18]))] s.heap := hP
  have hl := lv_entry ([.ref ad0, .int vi0, .int vi1]) (n := 4) (Nat.le_of_ble_eq_true rfl)
  rw [lg_entry_eq]
  generalize (lg_sl ([.ref ad0, .int vi0, .int vi1]) ++ List.replicate (4 - (lg_sl ([.ref ad0, .int vi0, .int vi1])).length) Slot.unset).toArray = ls at hl ⊢
  have hl : lv_has ls 4 [(0, .ref ad0), (1, .int vi0), (2, .int vi1)] := hl
  refine lv_aload_n hx hb dX9_coins_0 rfl (lv_at hl 0 rfl) ?_
  refine lv_iload_n hx hb dX9_coins_1 rfl (lv_at hl 1 rfl) ?_
  have hPc := hP.sub (ws' := [(ad0, .inr (9, [.ref ad1, .ref ad2, .ref ad3, .ref ad4, .ref ad5, .ref ad6, .ref ad7, .ref ad8, .int 0, .ref ad9, .ref ad10, .ref ad11, .ref ad12, .ref ad13])), (ad2, .inr (3, [.int 0, .int 0, .int 10, .int 0, .int 0, .int 1, .ref ad14, .ref ad15, .ref ad16, .ref ad17, .ref ad18]))]) [0, 1] rfl
  have hDc := hD.sub (ws' := [(ad0, .inr (9, [.ref ad1, .ref ad2, .ref ad3, .ref ad4, .ref ad5, .ref ad6, .ref ad7, .ref ad8, .int 0, .ref ad9, .ref ad10, .ref ad11, .ref ad12, .ref ad13])), (ad2, .inr (3, [.int 0, .int 0, .int 10, .int 0, .int 0, .int 1, .ref ad14, .ref ad15, .ref ad16, .ref ad17, .ref ad18]))]) [0, 1] (by decide) rfl
  have hKc := hK.sub (tys' := []) [] rfl
  have hFc := va_free (wc := [(ad0, .inr (9, [.ref ad1, .ref ad2, .ref ad3, .ref ad4, .ref ad5, .ref ad6, .ref ad7, .ref ad8, .int 0, .ref ad9, .ref ad10, .ref ad11, .ref ad12, .ref ad13])), (ad2, .inr (3, [.int 0, .int 0, .int 10, .int 0, .int 0, .int 1, .ref ad14, .ref ad15, .ref ad16, .ref ad17, .ref ad18]))]) hD hS hA [0, 1] rfl
  refine va_calli (va_runV (As := [.int vi0]) (rest := []) ⟨hx, hb, hml, hown, hts⟩ (ct_X9_isWork l dC dI ad0 vi0 ad1 ad2 ad3 ad4 ad5 ad6 ad7 ad8 ad9 ad10 ad11 ad12 ad13 ad14 ad15 ad16 ad17 ad18 s.heap.size) (cwV 1 hts gX9_coins_X9_isWork rfl rfl rfl (by decide +kernel) ⟨Nat.le_of_ble_eq_true rfl, Nat.le_of_ble_eq_true rfl⟩) ⟨fun a U g mk q => by obtain ⟨q0, q1, qP, qK, qD⟩ := q; exact ⟨q0, q1, qP, va_K.moved (u := U) (U := U.calling g mk a) (Vm.Alike.refl U.vm) qK, qD⟩, va_recv hKc hPc (ci := 9) (q0 := 0) rfl rfl, fun U hU hW => ⟨rfl, by rw [hU], by rw [hU]; exact hPc, va_K.moved hW.alike hKc, hDc.weaken (fun _ _ _ _ => trivial)⟩⟩ rfl rfl hl.1 rfl (lv_room (Nat.le_of_ble_eq_true rfl)) dX9_coins_2 ⟨Nat.le_of_ble_eq_true rfl, Nat.le_of_ble_eq_true rfl⟩) hS (fun q _ h => hFc q h) hFc (fun r1 u t H1 locs ht hvm hw hB hz1 hk1 hS => ?_)
  obtain ⟨hP1, hK1, hD1⟩ := hB
  rw [ht] at hP1
  have hK1 := va_K.moved hvm.symm hK1
  obtain ⟨hP, hD⟩ := va_join (wr := []) (w1 := [(ad0, .inr (9, [.ref ad1, .ref ad2, .ref ad3, .ref ad4, .ref ad5, .ref ad6, .ref ad7, .ref ad8, .int 0, .ref ad9, .ref ad10, .ref ad11, .ref ad12, .ref ad13])), (ad2, .inr (3, [.int 0, .int 0, .int 10, .int 0, .int 0, .int 1, .ref ad14, .ref ad15, .ref ad16, .ref ad17, .ref ad18]))]) hP hD [0, 1] [] rfl rfl (by decide) (by decide) hk1 hFc hP1 hD1
  have hK := (hK.sub (tys' := []) [] rfl).app hK1
  clear hPc hDc hKc hFc hP1 hD1 hK1 hk1 hz1
  generalize H1 = H at hP hS ⊢
  have hP : va_P (dC, dI) vwCl [(ad0, .inr (9, [.ref ad1, .ref ad2, .ref ad3, .ref ad4, .ref ad5, .ref ad6, .ref ad7, .ref ad8, .int 0, .ref ad9, .ref ad10, .ref ad11, .ref ad12, .ref ad13])), (ad2, .inr (3, [.int 0, .int 0, .int 10, .int 0, .int 0, .int 1, .ref ad14, .ref ad15, .ref ad16, .ref ad17, .ref ad18]))] H := hP
  have hD : va_D A [(ad0, .inr (9, [.ref ad1, .ref ad2, .ref ad3, .ref ad4, .ref ad5, .ref ad6, .ref ad7, .ref ad8, .int 0, .ref ad9, .ref ad10, .ref ad11, .ref ad12, .ref ad13])), (ad2, .inr (3, [.int 0, .int 0, .int 10, .int 0, .int 0, .int 1, .ref ad14, .ref ad15, .ref ad16, .ref ad17, .ref ad18]))] := hD
  have hK : va_K (dC, dI) vwCl [] s := hK
  refine W.widen (k := 0) (n := 0) (by decide) (by decide) ?_
  have hw : r1 = 0 := hw
  subst hw
  refine lv_if_eq (tgt := 18) hx hb dX9_coins_5 (by decide) (fun _ => ?_) (fun cz => absurd cz (by decide))
  refine lv_bipush (v := (-2)) hx hb dX9_coins_18 (by decide) ?_
  refine W.widen (k := 0) (n := 0) (by decide) (by decide) ?_
  exact W.iret (v := (-2)) hx hb hr (fun t ht hW => ⟨⟨(-2), (), rfl, rfl, trivial⟩, hS.F ht⟩) hS.2.2 dX9_coins_20

set_option maxHeartbeats 4000000 in
set_option maxRecDepth 100000 in
theorem ct_X9_bar (l : Launch) (dC : Nat → ClassId) (dI : Nat → Nat → Nat) (ad0 : Nat) (vi0 : Int32) (ad1 : Nat) (ad2 : Nat) (ad3 : Nat) (ad4 : Nat) (ad5 : Nat) (ad6 : Nat) (ad7 : Nat) (ad8 : Nat) (ad9 : Nat) (ad10 : Nat) (ad11 : Nat) (ad12 : Nat) (ad13 : Nat) (ad14 : Nat) (ad15 : Nat) (ad16 : Nat) (ad17 : Nat) (ad18 : Nat) (sz : Nat) : Met l yX9_bar wsX9_bar ({ frames := 1, cells := 0, slots := 0, locals := 21 }) (va_Pc [.ref ad0, .int vi0] (fun U => U.heap.size = sz ∧ va_P (dC, dI) vwCl [(ad0, .inr (9, [.ref ad1, .ref ad2, .ref ad3, .ref ad4, .ref ad5, .ref ad6, .ref ad7, .ref ad8, .int 0, .ref ad9, .ref ad10, .ref ad11, .ref ad12, .ref ad13])), (ad2, .inr (3, [.int 0, .int 0, .int 10, .int 0, .int 0, .int 1, .ref ad14, .ref ad15, .ref ad16, .ref ad17, .ref ad18]))] U.heap ∧ va_K (dC, dI) vwCl [] U ∧ va_D (fun _ => True) [(ad0, .inr (9, [.ref ad1, .ref ad2, .ref ad3, .ref ad4, .ref ad5, .ref ad6, .ref ad7, .ref ad8, .int 0, .ref ad9, .ref ad10, .ref ad11, .ref ad12, .ref ad13])), (ad2, .inr (3, [.int 0, .int 0, .int 10, .int 0, .int 0, .int 1, .ref ad14, .ref ad15, .ref ad16, .ref ad17, .ref ad18]))])) (va_Qi (fun (r : Int32) (_ : Unit) => r = (-2)) (fun _ _ => True) (va_A [(ad0, .inr (9, [.ref ad1, .ref ad2, .ref ad3, .ref ad4, .ref ad5, .ref ad6, .ref ad7, .ref ad8, .int 0, .ref ad9, .ref ad10, .ref ad11, .ref ad12, .ref ad13])), (ad2, .inr (3, [.int 0, .int 0, .int 10, .int 0, .int 0, .int 1, .ref ad14, .ref ad15, .ref ad16, .ref ad17, .ref ad18]))] sz)) 0 0 (va_A [(ad0, .inr (9, [.ref ad1, .ref ad2, .ref ad3, .ref ad4, .ref ad5, .ref ad6, .ref ad7, .ref ad8, .int 0, .ref ad9, .ref ad10, .ref ad11, .ref ad12, .ref ad13])), (ad2, .inr (3, [.int 0, .int 0, .int 10, .int 0, .int 0, .int 1, .ref ad14, .ref ad15, .ref ad16, .ref ad17, .ref ad18]))] sz) := by
  refine Met.ofW (cc := cX9_bar) (maxL := 4) (ret := (some .int)) (by decide) rfl ?_
  intro p e s m args below meth c s₁ B hml hv
  obtain ⟨rfl, hsz, hP, hK, hD0⟩ := hv
  have hx := B.exec
  have hb := B.bytes
  have hr := B.returns
  have hts := atoms_spec (ws := wsX9_bar) B.pre
  have hown : s.vm.findClass RX9 = some m.cls := findClass_of_methodNamed B.named
  have hlocks := B.notSynchronized
  subst hsz
  have hD := hD0.self (sz := s.heap.size)
  generalize hAe : va_A [(ad0, .inr (9, [.ref ad1, .ref ad2, .ref ad3, .ref ad4, .ref ad5, .ref ad6, .ref ad7, .ref ad8, .int 0, .ref ad9, .ref ad10, .ref ad11, .ref ad12, .ref ad13])), (ad2, .inr (3, [.int 0, .int 0, .int 10, .int 0, .int 0, .int 1, .ref ad14, .ref ad15, .ref ad16, .ref ad17, .ref ad18]))] s.heap.size = A at hD ⊢
  have hA : ∀ q : Nat, s.heap.size ≤ q → A q := fun q h => by rw [← hAe]; exact Or.inr h
  have hS : va_S A s.heap s.heap [] := va_S.rf
  have hP : va_P (dC, dI) vwCl [(ad0, .inr (9, [.ref ad1, .ref ad2, .ref ad3, .ref ad4, .ref ad5, .ref ad6, .ref ad7, .ref ad8, .int 0, .ref ad9, .ref ad10, .ref ad11, .ref ad12, .ref ad13])), (ad2, .inr (3, [.int 0, .int 0, .int 10, .int 0, .int 0, .int 1, .ref ad14, .ref ad15, .ref ad16, .ref ad17, .ref ad18]))] s.heap := hP
  have hl := lv_entry ([.ref ad0, .int vi0]) (n := 4) (Nat.le_of_ble_eq_true rfl)
  rw [lg_entry_eq]
  generalize (lg_sl ([.ref ad0, .int vi0]) ++ List.replicate (4 - (lg_sl ([.ref ad0, .int vi0])).length) Slot.unset).toArray = ls at hl ⊢
  have hl : lv_has ls 4 [(0, .ref ad0), (1, .int vi0)] := hl
  refine lv_aload_n hx hb dX9_bar_0 rfl (lv_at hl 0 rfl) ?_
  refine lv_iload_n hx hb dX9_bar_1 rfl (lv_at hl 1 rfl) ?_
  have hPc := hP.sub (ws' := [(ad0, .inr (9, [.ref ad1, .ref ad2, .ref ad3, .ref ad4, .ref ad5, .ref ad6, .ref ad7, .ref ad8, .int 0, .ref ad9, .ref ad10, .ref ad11, .ref ad12, .ref ad13])), (ad2, .inr (3, [.int 0, .int 0, .int 10, .int 0, .int 0, .int 1, .ref ad14, .ref ad15, .ref ad16, .ref ad17, .ref ad18]))]) [0, 1] rfl
  have hDc := hD.sub (ws' := [(ad0, .inr (9, [.ref ad1, .ref ad2, .ref ad3, .ref ad4, .ref ad5, .ref ad6, .ref ad7, .ref ad8, .int 0, .ref ad9, .ref ad10, .ref ad11, .ref ad12, .ref ad13])), (ad2, .inr (3, [.int 0, .int 0, .int 10, .int 0, .int 0, .int 1, .ref ad14, .ref ad15, .ref ad16, .ref ad17, .ref ad18]))]) [0, 1] (by decide) rfl
  have hKc := hK.sub (tys' := []) [] rfl
  have hFc := va_free (wc := [(ad0, .inr (9, [.ref ad1, .ref ad2, .ref ad3, .ref ad4, .ref ad5, .ref ad6, .ref ad7, .ref ad8, .int 0, .ref ad9, .ref ad10, .ref ad11, .ref ad12, .ref ad13])), (ad2, .inr (3, [.int 0, .int 0, .int 10, .int 0, .int 0, .int 1, .ref ad14, .ref ad15, .ref ad16, .ref ad17, .ref ad18]))]) hD hS hA [0, 1] rfl
  refine va_calli (va_runV (As := [.int vi0]) (rest := []) ⟨hx, hb, hml, hown, hts⟩ (ct_X9_isWork l dC dI ad0 vi0 ad1 ad2 ad3 ad4 ad5 ad6 ad7 ad8 ad9 ad10 ad11 ad12 ad13 ad14 ad15 ad16 ad17 ad18 s.heap.size) (cwV 1 hts gX9_bar_X9_isWork rfl rfl rfl (by decide +kernel) ⟨Nat.le_of_ble_eq_true rfl, Nat.le_of_ble_eq_true rfl⟩) ⟨fun a U g mk q => by obtain ⟨q0, q1, qP, qK, qD⟩ := q; exact ⟨q0, q1, qP, va_K.moved (u := U) (U := U.calling g mk a) (Vm.Alike.refl U.vm) qK, qD⟩, va_recv hKc hPc (ci := 9) (q0 := 0) rfl rfl, fun U hU hW => ⟨rfl, by rw [hU], by rw [hU]; exact hPc, va_K.moved hW.alike hKc, hDc.weaken (fun _ _ _ _ => trivial)⟩⟩ rfl rfl hl.1 rfl (lv_room (Nat.le_of_ble_eq_true rfl)) dX9_bar_2 ⟨Nat.le_of_ble_eq_true rfl, Nat.le_of_ble_eq_true rfl⟩) hS (fun q _ h => hFc q h) hFc (fun r1 u t H1 locs ht hvm hw hB hz1 hk1 hS => ?_)
  obtain ⟨hP1, hK1, hD1⟩ := hB
  rw [ht] at hP1
  have hK1 := va_K.moved hvm.symm hK1
  obtain ⟨hP, hD⟩ := va_join (wr := []) (w1 := [(ad0, .inr (9, [.ref ad1, .ref ad2, .ref ad3, .ref ad4, .ref ad5, .ref ad6, .ref ad7, .ref ad8, .int 0, .ref ad9, .ref ad10, .ref ad11, .ref ad12, .ref ad13])), (ad2, .inr (3, [.int 0, .int 0, .int 10, .int 0, .int 0, .int 1, .ref ad14, .ref ad15, .ref ad16, .ref ad17, .ref ad18]))]) hP hD [0, 1] [] rfl rfl (by decide) (by decide) hk1 hFc hP1 hD1
  have hK := (hK.sub (tys' := []) [] rfl).app hK1
  clear hPc hDc hKc hFc hP1 hD1 hK1 hk1 hz1
  generalize H1 = H at hP hS ⊢
  have hP : va_P (dC, dI) vwCl [(ad0, .inr (9, [.ref ad1, .ref ad2, .ref ad3, .ref ad4, .ref ad5, .ref ad6, .ref ad7, .ref ad8, .int 0, .ref ad9, .ref ad10, .ref ad11, .ref ad12, .ref ad13])), (ad2, .inr (3, [.int 0, .int 0, .int 10, .int 0, .int 0, .int 1, .ref ad14, .ref ad15, .ref ad16, .ref ad17, .ref ad18]))] H := hP
  have hD : va_D A [(ad0, .inr (9, [.ref ad1, .ref ad2, .ref ad3, .ref ad4, .ref ad5, .ref ad6, .ref ad7, .ref ad8, .int 0, .ref ad9, .ref ad10, .ref ad11, .ref ad12, .ref ad13])), (ad2, .inr (3, [.int 0, .int 0, .int 10, .int 0, .int 0, .int 1, .ref ad14, .ref ad15, .ref ad16, .ref ad17, .ref ad18]))] := hD
  have hK : va_K (dC, dI) vwCl [] s := hK
  refine W.widen (k := 0) (n := 0) (by decide) (by decide) ?_
  have hw : r1 = 0 := hw
  subst hw
  refine lv_if_ne (tgt := 11) hx hb dX9_bar_5 (by decide) (fun cz => absurd cz (by decide)) (fun _ => ?_)
  refine lv_bipush (v := (-2)) hx hb dX9_bar_8 (by decide) ?_
  refine W.widen (k := 0) (n := 0) (by decide) (by decide) ?_
  exact W.iret (v := (-2)) hx hb hr (fun t ht hW => ⟨⟨(-2), (), rfl, rfl, trivial⟩, hS.F ht⟩) hS.2.2 dX9_bar_10

set_option maxHeartbeats 4000000 in
set_option maxRecDepth 100000 in
theorem ct_X9_crew (l : Launch) (dC : Nat → ClassId) (dI : Nat → Nat → Nat) (ad0 : Nat) (vi0 : Int32) (vi1 : Int32) (ad1 : Nat) (ad2 : Nat) (ad3 : Nat) (ad4 : Nat) (ad5 : Nat) (ad6 : Nat) (ad7 : Nat) (ad8 : Nat) (ad9 : Nat) (ad10 : Nat) (ad11 : Nat) (ad12 : Nat) (ad13 : Nat) (ad14 : Nat) (ad15 : Nat) (ad16 : Nat) (ad17 : Nat) (ad18 : Nat) (sz : Nat) : Met l yX9_crew wsX9_crew ({ frames := 1, cells := 0, slots := 0, locals := 21 }) (va_Pc [.ref ad0, .int vi0, .int vi1] (fun U => U.heap.size = sz ∧ va_P (dC, dI) vwCl [(ad0, .inr (9, [.ref ad1, .ref ad2, .ref ad3, .ref ad4, .ref ad5, .ref ad6, .ref ad7, .ref ad8, .int 0, .ref ad9, .ref ad10, .ref ad11, .ref ad12, .ref ad13])), (ad2, .inr (3, [.int 0, .int 0, .int 10, .int 0, .int 0, .int 1, .ref ad14, .ref ad15, .ref ad16, .ref ad17, .ref ad18]))] U.heap ∧ va_K (dC, dI) vwCl [] U ∧ va_D (fun _ => True) [(ad0, .inr (9, [.ref ad1, .ref ad2, .ref ad3, .ref ad4, .ref ad5, .ref ad6, .ref ad7, .ref ad8, .int 0, .ref ad9, .ref ad10, .ref ad11, .ref ad12, .ref ad13])), (ad2, .inr (3, [.int 0, .int 0, .int 10, .int 0, .int 0, .int 1, .ref ad14, .ref ad15, .ref ad16, .ref ad17, .ref ad18]))])) (va_Qi (fun (r : Int32) (_ : Unit) => r = (-2)) (fun _ _ => True) (va_A [(ad0, .inr (9, [.ref ad1, .ref ad2, .ref ad3, .ref ad4, .ref ad5, .ref ad6, .ref ad7, .ref ad8, .int 0, .ref ad9, .ref ad10, .ref ad11, .ref ad12, .ref ad13])), (ad2, .inr (3, [.int 0, .int 0, .int 10, .int 0, .int 0, .int 1, .ref ad14, .ref ad15, .ref ad16, .ref ad17, .ref ad18]))] sz)) 0 0 (va_A [(ad0, .inr (9, [.ref ad1, .ref ad2, .ref ad3, .ref ad4, .ref ad5, .ref ad6, .ref ad7, .ref ad8, .int 0, .ref ad9, .ref ad10, .ref ad11, .ref ad12, .ref ad13])), (ad2, .inr (3, [.int 0, .int 0, .int 10, .int 0, .int 0, .int 1, .ref ad14, .ref ad15, .ref ad16, .ref ad17, .ref ad18]))] sz) := by
  refine Met.ofW (cc := cX9_crew) (maxL := 5) (ret := (some .int)) (by decide) rfl ?_
  intro p e s m args below meth c s₁ B hml hv
  obtain ⟨rfl, hsz, hP, hK, hD0⟩ := hv
  have hx := B.exec
  have hb := B.bytes
  have hr := B.returns
  have hts := atoms_spec (ws := wsX9_crew) B.pre
  have hown : s.vm.findClass RX9 = some m.cls := findClass_of_methodNamed B.named
  have hlocks := B.notSynchronized
  subst hsz
  have hD := hD0.self (sz := s.heap.size)
  generalize hAe : va_A [(ad0, .inr (9, [.ref ad1, .ref ad2, .ref ad3, .ref ad4, .ref ad5, .ref ad6, .ref ad7, .ref ad8, .int 0, .ref ad9, .ref ad10, .ref ad11, .ref ad12, .ref ad13])), (ad2, .inr (3, [.int 0, .int 0, .int 10, .int 0, .int 0, .int 1, .ref ad14, .ref ad15, .ref ad16, .ref ad17, .ref ad18]))] s.heap.size = A at hD ⊢
  have hA : ∀ q : Nat, s.heap.size ≤ q → A q := fun q h => by rw [← hAe]; exact Or.inr h
  have hS : va_S A s.heap s.heap [] := va_S.rf
  have hP : va_P (dC, dI) vwCl [(ad0, .inr (9, [.ref ad1, .ref ad2, .ref ad3, .ref ad4, .ref ad5, .ref ad6, .ref ad7, .ref ad8, .int 0, .ref ad9, .ref ad10, .ref ad11, .ref ad12, .ref ad13])), (ad2, .inr (3, [.int 0, .int 0, .int 10, .int 0, .int 0, .int 1, .ref ad14, .ref ad15, .ref ad16, .ref ad17, .ref ad18]))] s.heap := hP
  have hl := lv_entry ([.ref ad0, .int vi0, .int vi1]) (n := 5) (Nat.le_of_ble_eq_true rfl)
  rw [lg_entry_eq]
  generalize (lg_sl ([.ref ad0, .int vi0, .int vi1]) ++ List.replicate (5 - (lg_sl ([.ref ad0, .int vi0, .int vi1])).length) Slot.unset).toArray = ls at hl ⊢
  have hl : lv_has ls 5 [(0, .ref ad0), (1, .int vi0), (2, .int vi1)] := hl
  refine lv_aload_n hx hb dX9_crew_0 rfl (lv_at hl 0 rfl) ?_
  refine lv_iload_n hx hb dX9_crew_1 rfl (lv_at hl 1 rfl) ?_
  have hPc := hP.sub (ws' := [(ad0, .inr (9, [.ref ad1, .ref ad2, .ref ad3, .ref ad4, .ref ad5, .ref ad6, .ref ad7, .ref ad8, .int 0, .ref ad9, .ref ad10, .ref ad11, .ref ad12, .ref ad13])), (ad2, .inr (3, [.int 0, .int 0, .int 10, .int 0, .int 0, .int 1, .ref ad14, .ref ad15, .ref ad16, .ref ad17, .ref ad18]))]) [0, 1] rfl
  have hDc := hD.sub (ws' := [(ad0, .inr (9, [.ref ad1, .ref ad2, .ref ad3, .ref ad4, .ref ad5, .ref ad6, .ref ad7, .ref ad8, .int 0, .ref ad9, .ref ad10, .ref ad11, .ref ad12, .ref ad13])), (ad2, .inr (3, [.int 0, .int 0, .int 10, .int 0, .int 0, .int 1, .ref ad14, .ref ad15, .ref ad16, .ref ad17, .ref ad18]))]) [0, 1] (by decide) rfl
  have hKc := hK.sub (tys' := []) [] rfl
  have hFc := va_free (wc := [(ad0, .inr (9, [.ref ad1, .ref ad2, .ref ad3, .ref ad4, .ref ad5, .ref ad6, .ref ad7, .ref ad8, .int 0, .ref ad9, .ref ad10, .ref ad11, .ref ad12, .ref ad13])), (ad2, .inr (3, [.int 0, .int 0, .int 10, .int 0, .int 0, .int 1, .ref ad14, .ref ad15, .ref ad16, .ref ad17, .ref ad18]))]) hD hS hA [0, 1] rfl
  refine va_calli (va_runV (As := [.int vi0]) (rest := []) ⟨hx, hb, hml, hown, hts⟩ (ct_X9_isWork l dC dI ad0 vi0 ad1 ad2 ad3 ad4 ad5 ad6 ad7 ad8 ad9 ad10 ad11 ad12 ad13 ad14 ad15 ad16 ad17 ad18 s.heap.size) (cwV 1 hts gX9_crew_X9_isWork rfl rfl rfl (by decide +kernel) ⟨Nat.le_of_ble_eq_true rfl, Nat.le_of_ble_eq_true rfl⟩) ⟨fun a U g mk q => by obtain ⟨q0, q1, qP, qK, qD⟩ := q; exact ⟨q0, q1, qP, va_K.moved (u := U) (U := U.calling g mk a) (Vm.Alike.refl U.vm) qK, qD⟩, va_recv hKc hPc (ci := 9) (q0 := 0) rfl rfl, fun U hU hW => ⟨rfl, by rw [hU], by rw [hU]; exact hPc, va_K.moved hW.alike hKc, hDc.weaken (fun _ _ _ _ => trivial)⟩⟩ rfl rfl hl.1 rfl (lv_room (Nat.le_of_ble_eq_true rfl)) dX9_crew_2 ⟨Nat.le_of_ble_eq_true rfl, Nat.le_of_ble_eq_true rfl⟩) hS (fun q _ h => hFc q h) hFc (fun r1 u t H1 locs ht hvm hw hB hz1 hk1 hS => ?_)
  obtain ⟨hP1, hK1, hD1⟩ := hB
  rw [ht] at hP1
  have hK1 := va_K.moved hvm.symm hK1
  obtain ⟨hP, hD⟩ := va_join (wr := []) (w1 := [(ad0, .inr (9, [.ref ad1, .ref ad2, .ref ad3, .ref ad4, .ref ad5, .ref ad6, .ref ad7, .ref ad8, .int 0, .ref ad9, .ref ad10, .ref ad11, .ref ad12, .ref ad13])), (ad2, .inr (3, [.int 0, .int 0, .int 10, .int 0, .int 0, .int 1, .ref ad14, .ref ad15, .ref ad16, .ref ad17, .ref ad18]))]) hP hD [0, 1] [] rfl rfl (by decide) (by decide) hk1 hFc hP1 hD1
  have hK := (hK.sub (tys' := []) [] rfl).app hK1
  clear hPc hDc hKc hFc hP1 hD1 hK1 hk1 hz1
  generalize H1 = H at hP hS ⊢
  have hP : va_P (dC, dI) vwCl [(ad0, .inr (9, [.ref ad1, .ref ad2, .ref ad3, .ref ad4, .ref ad5, .ref ad6, .ref ad7, .ref ad8, .int 0, .ref ad9, .ref ad10, .ref ad11, .ref ad12, .ref ad13])), (ad2, .inr (3, [.int 0, .int 0, .int 10, .int 0, .int 0, .int 1, .ref ad14, .ref ad15, .ref ad16, .ref ad17, .ref ad18]))] H := hP
  have hD : va_D A [(ad0, .inr (9, [.ref ad1, .ref ad2, .ref ad3, .ref ad4, .ref ad5, .ref ad6, .ref ad7, .ref ad8, .int 0, .ref ad9, .ref ad10, .ref ad11, .ref ad12, .ref ad13])), (ad2, .inr (3, [.int 0, .int 0, .int 10, .int 0, .int 0, .int 1, .ref ad14, .ref ad15, .ref ad16, .ref ad17, .ref ad18]))] := hD
  have hK : va_K (dC, dI) vwCl [] s := hK
  refine W.widen (k := 0) (n := 0) (by decide) (by decide) ?_
  have hw : r1 = 0 := hw
  subst hw
  refine lv_if_eq (tgt := 16) hx hb dX9_crew_5 (by decide) (fun _ => ?_) (fun cz => absurd cz (by decide))
  refine lv_bipush (v := (-2)) hx hb dX9_crew_16 (by decide) ?_
  refine W.widen (k := 0) (n := 0) (by decide) (by decide) ?_
  exact W.iret (v := (-2)) hx hb hr (fun t ht hW => ⟨⟨(-2), (), rfl, rfl, trivial⟩, hS.F ht⟩) hS.2.2 dX9_crew_18

set_option maxHeartbeats 4000000 in
set_option maxRecDepth 100000 in
theorem ct_X9_watch (l : Launch) (dC : Nat → ClassId) (dI : Nat → Nat → Nat) (ad0 : Nat) (vi0 : Int32) (vi1 : Int32) (ad1 : Nat) (ad2 : Nat) (ad3 : Nat) (ad4 : Nat) (ad5 : Nat) (ad6 : Nat) (ad7 : Nat) (ad8 : Nat) (ad9 : Nat) (ad10 : Nat) (ad11 : Nat) (ad12 : Nat) (ad13 : Nat) (ad14 : Nat) (ad15 : Nat) (ad16 : Nat) (ad17 : Nat) (ad18 : Nat) (sz : Nat) : Met l yX9_watch wsX9_watch ({ frames := 1, cells := 0, slots := 0, locals := 21 }) (va_Pc [.ref ad0, .int vi0, .int vi1] (fun U => U.heap.size = sz ∧ va_P (dC, dI) vwCl [(ad0, .inr (9, [.ref ad1, .ref ad2, .ref ad3, .ref ad4, .ref ad5, .ref ad6, .ref ad7, .ref ad8, .int 0, .ref ad9, .ref ad10, .ref ad11, .ref ad12, .ref ad13])), (ad2, .inr (3, [.int 0, .int 0, .int 10, .int 0, .int 0, .int 1, .ref ad14, .ref ad15, .ref ad16, .ref ad17, .ref ad18]))] U.heap ∧ va_K (dC, dI) vwCl [] U ∧ va_D (fun _ => True) [(ad0, .inr (9, [.ref ad1, .ref ad2, .ref ad3, .ref ad4, .ref ad5, .ref ad6, .ref ad7, .ref ad8, .int 0, .ref ad9, .ref ad10, .ref ad11, .ref ad12, .ref ad13])), (ad2, .inr (3, [.int 0, .int 0, .int 10, .int 0, .int 0, .int 1, .ref ad14, .ref ad15, .ref ad16, .ref ad17, .ref ad18]))])) (va_Qi (fun (r : Int32) (_ : Unit) => r = (-2)) (fun _ _ => True) (va_A [(ad0, .inr (9, [.ref ad1, .ref ad2, .ref ad3, .ref ad4, .ref ad5, .ref ad6, .ref ad7, .ref ad8, .int 0, .ref ad9, .ref ad10, .ref ad11, .ref ad12, .ref ad13])), (ad2, .inr (3, [.int 0, .int 0, .int 10, .int 0, .int 0, .int 1, .ref ad14, .ref ad15, .ref ad16, .ref ad17, .ref ad18]))] sz)) 0 0 (va_A [(ad0, .inr (9, [.ref ad1, .ref ad2, .ref ad3, .ref ad4, .ref ad5, .ref ad6, .ref ad7, .ref ad8, .int 0, .ref ad9, .ref ad10, .ref ad11, .ref ad12, .ref ad13])), (ad2, .inr (3, [.int 0, .int 0, .int 10, .int 0, .int 0, .int 1, .ref ad14, .ref ad15, .ref ad16, .ref ad17, .ref ad18]))] sz) := by
  refine Met.ofW (cc := cX9_watch) (maxL := 5) (ret := (some .int)) (by decide) rfl ?_
  intro p e s m args below meth c s₁ B hml hv
  obtain ⟨rfl, hsz, hP, hK, hD0⟩ := hv
  have hx := B.exec
  have hb := B.bytes
  have hr := B.returns
  have hts := atoms_spec (ws := wsX9_watch) B.pre
  have hown : s.vm.findClass RX9 = some m.cls := findClass_of_methodNamed B.named
  have hlocks := B.notSynchronized
  subst hsz
  have hD := hD0.self (sz := s.heap.size)
  generalize hAe : va_A [(ad0, .inr (9, [.ref ad1, .ref ad2, .ref ad3, .ref ad4, .ref ad5, .ref ad6, .ref ad7, .ref ad8, .int 0, .ref ad9, .ref ad10, .ref ad11, .ref ad12, .ref ad13])), (ad2, .inr (3, [.int 0, .int 0, .int 10, .int 0, .int 0, .int 1, .ref ad14, .ref ad15, .ref ad16, .ref ad17, .ref ad18]))] s.heap.size = A at hD ⊢
  have hA : ∀ q : Nat, s.heap.size ≤ q → A q := fun q h => by rw [← hAe]; exact Or.inr h
  have hS : va_S A s.heap s.heap [] := va_S.rf
  have hP : va_P (dC, dI) vwCl [(ad0, .inr (9, [.ref ad1, .ref ad2, .ref ad3, .ref ad4, .ref ad5, .ref ad6, .ref ad7, .ref ad8, .int 0, .ref ad9, .ref ad10, .ref ad11, .ref ad12, .ref ad13])), (ad2, .inr (3, [.int 0, .int 0, .int 10, .int 0, .int 0, .int 1, .ref ad14, .ref ad15, .ref ad16, .ref ad17, .ref ad18]))] s.heap := hP
  have hl := lv_entry ([.ref ad0, .int vi0, .int vi1]) (n := 5) (Nat.le_of_ble_eq_true rfl)
  rw [lg_entry_eq]
  generalize (lg_sl ([.ref ad0, .int vi0, .int vi1]) ++ List.replicate (5 - (lg_sl ([.ref ad0, .int vi0, .int vi1])).length) Slot.unset).toArray = ls at hl ⊢
  have hl : lv_has ls 5 [(0, .ref ad0), (1, .int vi0), (2, .int vi1)] := hl
  refine lv_aload_n hx hb dX9_watch_0 rfl (lv_at hl 0 rfl) ?_
  refine lv_iload_n hx hb dX9_watch_1 rfl (lv_at hl 1 rfl) ?_
  have hPc := hP.sub (ws' := [(ad0, .inr (9, [.ref ad1, .ref ad2, .ref ad3, .ref ad4, .ref ad5, .ref ad6, .ref ad7, .ref ad8, .int 0, .ref ad9, .ref ad10, .ref ad11, .ref ad12, .ref ad13])), (ad2, .inr (3, [.int 0, .int 0, .int 10, .int 0, .int 0, .int 1, .ref ad14, .ref ad15, .ref ad16, .ref ad17, .ref ad18]))]) [0, 1] rfl
  have hDc := hD.sub (ws' := [(ad0, .inr (9, [.ref ad1, .ref ad2, .ref ad3, .ref ad4, .ref ad5, .ref ad6, .ref ad7, .ref ad8, .int 0, .ref ad9, .ref ad10, .ref ad11, .ref ad12, .ref ad13])), (ad2, .inr (3, [.int 0, .int 0, .int 10, .int 0, .int 0, .int 1, .ref ad14, .ref ad15, .ref ad16, .ref ad17, .ref ad18]))]) [0, 1] (by decide) rfl
  have hKc := hK.sub (tys' := []) [] rfl
  have hFc := va_free (wc := [(ad0, .inr (9, [.ref ad1, .ref ad2, .ref ad3, .ref ad4, .ref ad5, .ref ad6, .ref ad7, .ref ad8, .int 0, .ref ad9, .ref ad10, .ref ad11, .ref ad12, .ref ad13])), (ad2, .inr (3, [.int 0, .int 0, .int 10, .int 0, .int 0, .int 1, .ref ad14, .ref ad15, .ref ad16, .ref ad17, .ref ad18]))]) hD hS hA [0, 1] rfl
  refine va_calli (va_runV (As := [.int vi0]) (rest := []) ⟨hx, hb, hml, hown, hts⟩ (ct_X9_isWork l dC dI ad0 vi0 ad1 ad2 ad3 ad4 ad5 ad6 ad7 ad8 ad9 ad10 ad11 ad12 ad13 ad14 ad15 ad16 ad17 ad18 s.heap.size) (cwV 1 hts gX9_watch_X9_isWork rfl rfl rfl (by decide +kernel) ⟨Nat.le_of_ble_eq_true rfl, Nat.le_of_ble_eq_true rfl⟩) ⟨fun a U g mk q => by obtain ⟨q0, q1, qP, qK, qD⟩ := q; exact ⟨q0, q1, qP, va_K.moved (u := U) (U := U.calling g mk a) (Vm.Alike.refl U.vm) qK, qD⟩, va_recv hKc hPc (ci := 9) (q0 := 0) rfl rfl, fun U hU hW => ⟨rfl, by rw [hU], by rw [hU]; exact hPc, va_K.moved hW.alike hKc, hDc.weaken (fun _ _ _ _ => trivial)⟩⟩ rfl rfl hl.1 rfl (lv_room (Nat.le_of_ble_eq_true rfl)) dX9_watch_2 ⟨Nat.le_of_ble_eq_true rfl, Nat.le_of_ble_eq_true rfl⟩) hS (fun q _ h => hFc q h) hFc (fun r1 u t H1 locs ht hvm hw hB hz1 hk1 hS => ?_)
  obtain ⟨hP1, hK1, hD1⟩ := hB
  rw [ht] at hP1
  have hK1 := va_K.moved hvm.symm hK1
  obtain ⟨hP, hD⟩ := va_join (wr := []) (w1 := [(ad0, .inr (9, [.ref ad1, .ref ad2, .ref ad3, .ref ad4, .ref ad5, .ref ad6, .ref ad7, .ref ad8, .int 0, .ref ad9, .ref ad10, .ref ad11, .ref ad12, .ref ad13])), (ad2, .inr (3, [.int 0, .int 0, .int 10, .int 0, .int 0, .int 1, .ref ad14, .ref ad15, .ref ad16, .ref ad17, .ref ad18]))]) hP hD [0, 1] [] rfl rfl (by decide) (by decide) hk1 hFc hP1 hD1
  have hK := (hK.sub (tys' := []) [] rfl).app hK1
  clear hPc hDc hKc hFc hP1 hD1 hK1 hk1 hz1
  generalize H1 = H at hP hS ⊢
  have hP : va_P (dC, dI) vwCl [(ad0, .inr (9, [.ref ad1, .ref ad2, .ref ad3, .ref ad4, .ref ad5, .ref ad6, .ref ad7, .ref ad8, .int 0, .ref ad9, .ref ad10, .ref ad11, .ref ad12, .ref ad13])), (ad2, .inr (3, [.int 0, .int 0, .int 10, .int 0, .int 0, .int 1, .ref ad14, .ref ad15, .ref ad16, .ref ad17, .ref ad18]))] H := hP
  have hD : va_D A [(ad0, .inr (9, [.ref ad1, .ref ad2, .ref ad3, .ref ad4, .ref ad5, .ref ad6, .ref ad7, .ref ad8, .int 0, .ref ad9, .ref ad10, .ref ad11, .ref ad12, .ref ad13])), (ad2, .inr (3, [.int 0, .int 0, .int 10, .int 0, .int 0, .int 1, .ref ad14, .ref ad15, .ref ad16, .ref ad17, .ref ad18]))] := hD
  have hK : va_K (dC, dI) vwCl [] s := hK
  refine W.widen (k := 0) (n := 0) (by decide) (by decide) ?_
  have hw : r1 = 0 := hw
  subst hw
  refine lv_if_eq (tgt := 19) hx hb dX9_watch_5 (by decide) (fun _ => ?_) (fun cz => absurd cz (by decide))
  refine lv_bipush (v := (-2)) hx hb dX9_watch_19 (by decide) ?_
  refine W.widen (k := 0) (n := 0) (by decide) (by decide) ?_
  exact W.iret (v := (-2)) hx hb hr (fun t ht hW => ⟨⟨(-2), (), rfl, rfl, trivial⟩, hS.F ht⟩) hS.2.2 dX9_watch_21

set_option maxHeartbeats 4000000 in
set_option maxRecDepth 100000 in
theorem ct_X6_changeElse (l : Launch) (dC : Nat → ClassId) (dI : Nat → Nat → Nat) (ad0 : Nat) (vi0 : Int32) (ad1 : Nat) (ad2 : Nat) (sz : Nat) : Met l yX6_changeElse wsX6_changeElse ({ frames := 0, cells := 0, slots := 0, locals := 0 }) (va_Pc [.ref ad0, .int vi0] (fun U => U.heap.size = sz ∧ va_P (dC, dI) vwCl [(ad0, .inr (6, [.int 1, .ref ad1, .int 0, .ref ad2]))] U.heap ∧ va_K (dC, dI) vwCl [] U ∧ va_D (fun _ => True) [(ad0, .inr (6, [.int 1, .ref ad1, .int 0, .ref ad2]))])) (va_Qi (fun (r : Int32) (_ : Unit) => r = 0) (fun _ t => va_P (dC, dI) vwCl [(ad0, .inr (6, [.int 1, .ref ad1, .int vi0, .ref ad2]))] t.heap ∧ va_K (dC, dI) vwCl [] t ∧ va_D (va_A [(ad0, .inr (6, [.int 1, .ref ad1, .int 0, .ref ad2]))] sz) [(ad0, .inr (6, [.int 1, .ref ad1, .int vi0, .ref ad2]))]) (va_A [(ad0, .inr (6, [.int 1, .ref ad1, .int 0, .ref ad2]))] sz)) 0 0 (va_A [(ad0, .inr (6, [.int 1, .ref ad1, .int 0, .ref ad2]))] sz) := by
  refine Met.ofW (cc := cX6_changeElse) (maxL := 3) (ret := (some .int)) (by decide) rfl ?_
  intro p e s m args below meth c s₁ B hml hv
  obtain ⟨rfl, hsz, hP, hK, hD0⟩ := hv
  have hx := B.exec
  have hb := B.bytes
  have hr := B.returns
  have hts := atoms_spec (ws := wsX6_changeElse) B.pre
  have hown : s.vm.findClass RX6 = some m.cls := findClass_of_methodNamed B.named
  have hlocks := B.notSynchronized
  subst hsz
  have hD := hD0.self (sz := s.heap.size)
  generalize hAe : va_A [(ad0, .inr (6, [.int 1, .ref ad1, .int 0, .ref ad2]))] s.heap.size = A at hD ⊢
  have hA : ∀ q : Nat, s.heap.size ≤ q → A q := fun q h => by rw [← hAe]; exact Or.inr h
  have hS : va_S A s.heap s.heap [] := va_S.rf
  have hP : va_P (dC, dI) vwCl [(ad0, .inr (6, [.int 1, .ref ad1, .int 0, .ref ad2]))] s.heap := hP
  have hl := lv_entry ([.ref ad0, .int vi0]) (n := 3) (Nat.le_of_ble_eq_true rfl)
  rw [lg_entry_eq]
  generalize (lg_sl ([.ref ad0, .int vi0]) ++ List.replicate (3 - (lg_sl ([.ref ad0, .int vi0])).length) Slot.unset).toArray = ls at hl ⊢
  have hl : lv_has ls 3 [(0, .ref ad0), (1, .int vi0)] := hl
  refine lv_aload_n hx hb dX6_changeElse_0 rfl (lv_at hl 0 rfl) ?_
  refine va_get (D := (dC, dI)) (ci := 6) (v := .int 0) (C := RX6) (T := TX6) (N := 4) hx hb hts iw_X6_changeElse_X6 hown hK hP 0 rfl rfl 2 (by decide) (hts _ kk_X6_changeElse_0) (fun _ h9 => h9) rfl dX6_changeElse_1 ?_
  refine lv_istore_n (lv' := [(2, .int 0), (0, .ref ad0), (1, .int vi0)]) hx hb dX6_changeElse_4 rfl hl (by decide) rfl (fun ls hl => ?_)
  refine lv_aload_n hx hb dX6_changeElse_5 rfl (lv_at hl 1 rfl) ?_
  refine lv_iload_n hx hb dX6_changeElse_6 rfl (lv_at hl 2 rfl) ?_
  refine va_put (D := (dC, dI)) (ci := 6) (v := .int vi0) (ty := .int) (C := RX6) (T := TX6) (N := 4) hx hb hts iw_X6_changeElse_X6 tyX6 tyX6_ok nmX6 hown hK hP hD hS 0 rfl rfl 2 (by decide) (hts _ kk_X6_changeElse_0) (fun _ h9 => h9) rfl (by decide +kernel) rfl rfl (Nat.le_of_ble_eq_true rfl) dX6_changeElse_7 (fun H locs hP hD hS => ?_)
  have hP : va_P (dC, dI) vwCl [(ad0, .inr (6, [.int 1, .ref ad1, .int vi0, .ref ad2]))] H := hP
  have hD : va_D A [(ad0, .inr (6, [.int 1, .ref ad1, .int vi0, .ref ad2]))] := hD
  refine lv_iload_n hx hb dX6_changeElse_10 rfl (lv_at hl 0 rfl) ?_
  refine W.widen (k := 0) (n := 0) (by decide) (by decide) ?_
  have hP9 := hP.sub (ws' := [(ad0, .inr (6, [.int 1, .ref ad1, .int vi0, .ref ad2]))]) [0] rfl
  have hD9 := hD.sub (ws' := [(ad0, .inr (6, [.int 1, .ref ad1, .int vi0, .ref ad2]))]) [0] (by decide) rfl
  have hK9 := hK.sub (tys' := []) [] rfl
  exact W.iret (v := 0) hx hb hr (fun t ht hW => ⟨⟨0, (), rfl, rfl, by rw [ht]; exact hP9, va_K.moved hW.alike hK9, hD9⟩, hS.F ht⟩) hS.2.2 dX6_changeElse_11

set_option maxHeartbeats 4000000 in
set_option maxRecDepth 100000 in
theorem ct_X9_press (l : Launch) (dC : Nat → ClassId) (dI : Nat → Nat → Nat) (ad0 : Nat) (vi0 : Int32) (vi1 : Int32) (ad1 : Nat) (ad2 : Nat) (ad3 : Nat) (ad4 : Nat) (ad5 : Nat) (ad6 : Nat) (ad7 : Nat) (ad8 : Nat) (ad9 : Nat) (ad10 : Nat) (ad11 : Nat) (ad12 : Nat) (ad13 : Nat) (ad14 : Nat) (ad15 : Nat) (ad16 : Nat) (ad17 : Nat) (ad18 : Nat) (ad19 : Nat) (ad20 : Nat) (sz : Nat) : Met l yX9_press wsX9_press ({ frames := 1, cells := 0, slots := 0, locals := 22 }) (va_Pc [.ref ad0, .int vi0, .int vi1] (fun U => U.heap.size = sz ∧ va_P (dC, dI) vwCl [(ad0, .inr (9, [.ref ad1, .ref ad2, .ref ad3, .ref ad4, .ref ad5, .ref ad6, .ref ad7, .ref ad8, .int 0, .ref ad9, .ref ad10, .ref ad11, .ref ad12, .ref ad13])), (ad2, .inr (3, [.int 0, .int 0, .int 10, .int 0, .int 0, .int 1, .ref ad14, .ref ad15, .ref ad16, .ref ad17, .ref ad18])), (ad12, .inr (6, [.int 1, .ref ad19, .int 0, .ref ad20]))] U.heap ∧ va_K (dC, dI) vwCl [] U ∧ va_D (fun _ => True) [(ad0, .inr (9, [.ref ad1, .ref ad2, .ref ad3, .ref ad4, .ref ad5, .ref ad6, .ref ad7, .ref ad8, .int 0, .ref ad9, .ref ad10, .ref ad11, .ref ad12, .ref ad13])), (ad2, .inr (3, [.int 0, .int 0, .int 10, .int 0, .int 0, .int 1, .ref ad14, .ref ad15, .ref ad16, .ref ad17, .ref ad18])), (ad12, .inr (6, [.int 1, .ref ad19, .int 0, .ref ad20]))])) (va_Qi (fun (r : Int32) (_ : Unit) => r = sp_press vi0 vi1) (fun _ _ => True) (va_A [(ad0, .inr (9, [.ref ad1, .ref ad2, .ref ad3, .ref ad4, .ref ad5, .ref ad6, .ref ad7, .ref ad8, .int 0, .ref ad9, .ref ad10, .ref ad11, .ref ad12, .ref ad13])), (ad2, .inr (3, [.int 0, .int 0, .int 10, .int 0, .int 0, .int 1, .ref ad14, .ref ad15, .ref ad16, .ref ad17, .ref ad18])), (ad12, .inr (6, [.int 1, .ref ad19, .int 0, .ref ad20]))] sz)) 0 0 (va_A [(ad0, .inr (9, [.ref ad1, .ref ad2, .ref ad3, .ref ad4, .ref ad5, .ref ad6, .ref ad7, .ref ad8, .int 0, .ref ad9, .ref ad10, .ref ad11, .ref ad12, .ref ad13])), (ad2, .inr (3, [.int 0, .int 0, .int 10, .int 0, .int 0, .int 1, .ref ad14, .ref ad15, .ref ad16, .ref ad17, .ref ad18])), (ad12, .inr (6, [.int 1, .ref ad19, .int 0, .ref ad20]))] sz) := by
  refine Met.ofW (cc := cX9_press) (maxL := 3) (ret := (some .int)) (by decide) rfl ?_
  intro p e s m args below meth c s₁ B hml hv
  obtain ⟨rfl, hsz, hP, hK, hD0⟩ := hv
  have hx := B.exec
  have hb := B.bytes
  have hr := B.returns
  have hts := atoms_spec (ws := wsX9_press) B.pre
  have hown : s.vm.findClass RX9 = some m.cls := findClass_of_methodNamed B.named
  have hlocks := B.notSynchronized
  subst hsz
  have hD := hD0.self (sz := s.heap.size)
  generalize hAe : va_A [(ad0, .inr (9, [.ref ad1, .ref ad2, .ref ad3, .ref ad4, .ref ad5, .ref ad6, .ref ad7, .ref ad8, .int 0, .ref ad9, .ref ad10, .ref ad11, .ref ad12, .ref ad13])), (ad2, .inr (3, [.int 0, .int 0, .int 10, .int 0, .int 0, .int 1, .ref ad14, .ref ad15, .ref ad16, .ref ad17, .ref ad18])), (ad12, .inr (6, [.int 1, .ref ad19, .int 0, .ref ad20]))] s.heap.size = A at hD ⊢
  have hA : ∀ q : Nat, s.heap.size ≤ q → A q := fun q h => by rw [← hAe]; exact Or.inr h
  have hS : va_S A s.heap s.heap [] := va_S.rf
  have hP : va_P (dC, dI) vwCl [(ad0, .inr (9, [.ref ad1, .ref ad2, .ref ad3, .ref ad4, .ref ad5, .ref ad6, .ref ad7, .ref ad8, .int 0, .ref ad9, .ref ad10, .ref ad11, .ref ad12, .ref ad13])), (ad2, .inr (3, [.int 0, .int 0, .int 10, .int 0, .int 0, .int 1, .ref ad14, .ref ad15, .ref ad16, .ref ad17, .ref ad18])), (ad12, .inr (6, [.int 1, .ref ad19, .int 0, .ref ad20]))] s.heap := hP
  have hl := lv_entry ([.ref ad0, .int vi0, .int vi1]) (n := 3) (Nat.le_of_ble_eq_true rfl)
  rw [lg_entry_eq]
  generalize (lg_sl ([.ref ad0, .int vi0, .int vi1]) ++ List.replicate (3 - (lg_sl ([.ref ad0, .int vi0, .int vi1])).length) Slot.unset).toArray = ls at hl ⊢
  have hl : lv_has ls 3 [(0, .ref ad0), (1, .int vi0), (2, .int vi1)] := hl
  refine lv_iload_n hx hb dX9_press_0 rfl (lv_at hl 1 rfl) ?_
  refine lv_iconst (v := (-1)) hx hb dX9_press_1 (by decide) ?_
  refine lv_icmp_eq (tgt := 13) hx hb dX9_press_2 (by decide) (fun c1 => ?_) (fun c1 => ?_)
  · have hpin : vi0 = (-1) := by grind
    subst hpin
    refine lv_iload_n hx hb dX9_press_13 rfl (lv_at hl 2 rfl) ?_
    refine lv_if_lt (tgt := 24) hx hb dX9_press_14 (by decide) (fun c2 => ?_) (fun c2 => ?_)
    · refine lv_bipush (v := (-2)) hx hb dX9_press_24 (by decide) ?_
      refine W.widen (k := 0) (n := 0) (by decide) (by decide) ?_
      exact W.iret (v := (-2)) hx hb hr (fun t ht hW => ⟨⟨(-2), (), rfl, (by first | rfl | (simp only [sp_press] at *; grind)), trivial⟩, hS.F ht⟩) hS.2.2 dX9_press_26
    · refine lv_iload_n hx hb dX9_press_17 rfl (lv_at hl 2 rfl) ?_
      refine lv_sipush (v := 9999) hx hb dX9_press_18 (by decide) ?_
      refine lv_icmp_le (tgt := 27) hx hb dX9_press_21 (by decide) (fun c3 => ?_) (fun c3 => ?_)
      · refine lv_iload_n hx hb dX9_press_27 rfl (lv_at hl 1 rfl) ?_
        refine lv_iconst (v := (-1)) hx hb dX9_press_28 (by decide) ?_
        refine lv_icmp_ne (tgt := 43) hx hb dX9_press_29 (by decide) (fun cz => absurd cz (by decide)) (fun _ => ?_)
        refine lv_aload_n hx hb dX9_press_32 rfl (lv_at hl 0 rfl) ?_
        refine va_get (D := (dC, dI)) (ci := 9) (v := .ref ad12) (C := RX9) (T := TX9) (N := 14) hx hb hts iw_X9_press_X9 hown hK hP 0 rfl rfl 12 (by decide) (hts _ kk_X9_press_0) (fun _ h9 => h9) rfl dX9_press_33 ?_
        refine lv_iload_n hx hb dX9_press_36 rfl (lv_at hl 2 rfl) ?_
        have hPc := hP.sub (ws' := [(ad12, .inr (6, [.int 1, .ref ad19, .int 0, .ref ad20]))]) [2] rfl
        have hDc := hD.sub (ws' := [(ad12, .inr (6, [.int 1, .ref ad19, .int 0, .ref ad20]))]) [2] (by decide) rfl
        have hKc := hK.sub (tys' := []) [] rfl
        have hFc := va_free (wc := [(ad12, .inr (6, [.int 1, .ref ad19, .int 0, .ref ad20]))]) hD hS hA [2] rfl
        refine va_calli (va_runV (As := [.int vi1]) (rest := []) ⟨hx, hb, hml, hown, hts⟩ (ct_X6_changeElse l dC dI ad12 vi1 ad19 ad20 s.heap.size) (cwV 1 hts gX9_press_X6_changeElse rfl rfl rfl (by decide +kernel) ⟨Nat.le_of_ble_eq_true rfl, Nat.le_of_ble_eq_true rfl⟩) ⟨fun a U g mk q => by obtain ⟨q0, q1, qP, qK, qD⟩ := q; exact ⟨q0, q1, qP, va_K.moved (u := U) (U := U.calling g mk a) (Vm.Alike.refl U.vm) qK, qD⟩, va_recv hKc hPc (ci := 6) (q0 := 0) rfl rfl, fun U hU hW => ⟨rfl, by rw [hU], by rw [hU]; exact hPc, va_K.moved hW.alike hKc, hDc.weaken (fun _ _ _ _ => trivial)⟩⟩ rfl rfl hl.1 rfl (lv_room (Nat.le_of_ble_eq_true rfl)) dX9_press_37 ⟨Nat.le_of_ble_eq_true rfl, Nat.le_of_ble_eq_true rfl⟩) hS (fun q _ h => hFc q h) hFc (fun r4 u t H1 locs ht hvm hw hB hz1 hk1 hS => ?_)
        obtain ⟨hP1, hK1, hD1⟩ := hB
        rw [ht] at hP1
        have hK1 := va_K.moved hvm.symm hK1
        obtain ⟨hP, hD⟩ := va_join (wr := [(ad0, .inr (9, [.ref ad1, .ref ad2, .ref ad3, .ref ad4, .ref ad5, .ref ad6, .ref ad7, .ref ad8, .int 0, .ref ad9, .ref ad10, .ref ad11, .ref ad12, .ref ad13])), (ad2, .inr (3, [.int 0, .int 0, .int 10, .int 0, .int 0, .int 1, .ref ad14, .ref ad15, .ref ad16, .ref ad17, .ref ad18]))]) (w1 := [(ad12, .inr (6, [.int 1, .ref ad19, .int vi1, .ref ad20]))]) hP hD [2] [0, 1] rfl rfl (by decide) (by decide) hk1 hFc hP1 hD1
        have hK := (hK.sub (tys' := []) [] rfl).app hK1
        clear hPc hDc hKc hFc hP1 hD1 hK1 hk1 hz1
        generalize H1 = H at hP hS ⊢
        have hP : va_P (dC, dI) vwCl [(ad0, .inr (9, [.ref ad1, .ref ad2, .ref ad3, .ref ad4, .ref ad5, .ref ad6, .ref ad7, .ref ad8, .int 0, .ref ad9, .ref ad10, .ref ad11, .ref ad12, .ref ad13])), (ad2, .inr (3, [.int 0, .int 0, .int 10, .int 0, .int 0, .int 1, .ref ad14, .ref ad15, .ref ad16, .ref ad17, .ref ad18])), (ad12, .inr (6, [.int 1, .ref ad19, .int vi1, .ref ad20]))] H := hP
        have hD : va_D A [(ad0, .inr (9, [.ref ad1, .ref ad2, .ref ad3, .ref ad4, .ref ad5, .ref ad6, .ref ad7, .ref ad8, .int 0, .ref ad9, .ref ad10, .ref ad11, .ref ad12, .ref ad13])), (ad2, .inr (3, [.int 0, .int 0, .int 10, .int 0, .int 0, .int 1, .ref ad14, .ref ad15, .ref ad16, .ref ad17, .ref ad18])), (ad12, .inr (6, [.int 1, .ref ad19, .int vi1, .ref ad20]))] := hD
        have hK : va_K (dC, dI) vwCl [] s := hK
        refine W.widen (k := 0) (n := 0) (by decide) (by decide) ?_
        have hw : r4 = 0 := hw
        subst hw
        refine lv_goto (tgt := 52) hx hb dX9_press_40 (by decide) ?_
        refine W.widen (k := 0) (n := 0) (by decide) (by decide) ?_
        exact W.iret (v := 0) hx hb hr (fun t ht hW => ⟨⟨0, (), rfl, (by first | rfl | (simp only [sp_press] at *; grind)), trivial⟩, hS.F ht⟩) hS.2.2 dX9_press_52
      · refine lv_bipush (v := (-2)) hx hb dX9_press_24 (by decide) ?_
        refine W.widen (k := 0) (n := 0) (by decide) (by decide) ?_
        exact W.iret (v := (-2)) hx hb hr (fun t ht hW => ⟨⟨(-2), (), rfl, (by first | rfl | (simp only [sp_press] at *; grind)), trivial⟩, hS.F ht⟩) hS.2.2 dX9_press_26
  · refine lv_aload_n hx hb dX9_press_5 rfl (lv_at hl 0 rfl) ?_
    refine lv_iload_n hx hb dX9_press_6 rfl (lv_at hl 1 rfl) ?_
    have hPc := hP.sub (ws' := [(ad0, .inr (9, [.ref ad1, .ref ad2, .ref ad3, .ref ad4, .ref ad5, .ref ad6, .ref ad7, .ref ad8, .int 0, .ref ad9, .ref ad10, .ref ad11, .ref ad12, .ref ad13])), (ad2, .inr (3, [.int 0, .int 0, .int 10, .int 0, .int 0, .int 1, .ref ad14, .ref ad15, .ref ad16, .ref ad17, .ref ad18]))]) [0, 1] rfl
    have hDc := hD.sub (ws' := [(ad0, .inr (9, [.ref ad1, .ref ad2, .ref ad3, .ref ad4, .ref ad5, .ref ad6, .ref ad7, .ref ad8, .int 0, .ref ad9, .ref ad10, .ref ad11, .ref ad12, .ref ad13])), (ad2, .inr (3, [.int 0, .int 0, .int 10, .int 0, .int 0, .int 1, .ref ad14, .ref ad15, .ref ad16, .ref ad17, .ref ad18]))]) [0, 1] (by decide) rfl
    have hKc := hK.sub (tys' := []) [] rfl
    have hFc := va_free (wc := [(ad0, .inr (9, [.ref ad1, .ref ad2, .ref ad3, .ref ad4, .ref ad5, .ref ad6, .ref ad7, .ref ad8, .int 0, .ref ad9, .ref ad10, .ref ad11, .ref ad12, .ref ad13])), (ad2, .inr (3, [.int 0, .int 0, .int 10, .int 0, .int 0, .int 1, .ref ad14, .ref ad15, .ref ad16, .ref ad17, .ref ad18]))]) hD hS hA [0, 1] rfl
    refine va_calli (va_runV (As := [.int vi0]) (rest := []) ⟨hx, hb, hml, hown, hts⟩ (ct_X9_isWork l dC dI ad0 vi0 ad1 ad2 ad3 ad4 ad5 ad6 ad7 ad8 ad9 ad10 ad11 ad12 ad13 ad14 ad15 ad16 ad17 ad18 s.heap.size) (cwV 1 hts gX9_press_X9_isWork rfl rfl rfl (by decide +kernel) ⟨Nat.le_of_ble_eq_true rfl, Nat.le_of_ble_eq_true rfl⟩) ⟨fun a U g mk q => by obtain ⟨q0, q1, qP, qK, qD⟩ := q; exact ⟨q0, q1, qP, va_K.moved (u := U) (U := U.calling g mk a) (Vm.Alike.refl U.vm) qK, qD⟩, va_recv hKc hPc (ci := 9) (q0 := 0) rfl rfl, fun U hU hW => ⟨rfl, by rw [hU], by rw [hU]; exact hPc, va_K.moved hW.alike hKc, hDc.weaken (fun _ _ _ _ => trivial)⟩⟩ rfl rfl hl.1 rfl (lv_room (Nat.le_of_ble_eq_true rfl)) dX9_press_7 ⟨Nat.le_of_ble_eq_true rfl, Nat.le_of_ble_eq_true rfl⟩) hS (fun q _ h => hFc q h) hFc (fun r5 u t H1 locs ht hvm hw hB hz1 hk1 hS => ?_)
    obtain ⟨hP1, hK1, hD1⟩ := hB
    rw [ht] at hP1
    have hK1 := va_K.moved hvm.symm hK1
    obtain ⟨hP, hD⟩ := va_join (wr := [(ad12, .inr (6, [.int 1, .ref ad19, .int 0, .ref ad20]))]) (w1 := [(ad0, .inr (9, [.ref ad1, .ref ad2, .ref ad3, .ref ad4, .ref ad5, .ref ad6, .ref ad7, .ref ad8, .int 0, .ref ad9, .ref ad10, .ref ad11, .ref ad12, .ref ad13])), (ad2, .inr (3, [.int 0, .int 0, .int 10, .int 0, .int 0, .int 1, .ref ad14, .ref ad15, .ref ad16, .ref ad17, .ref ad18]))]) hP hD [0, 1] [2] rfl rfl (by decide) (by decide) hk1 hFc hP1 hD1
    have hK := (hK.sub (tys' := []) [] rfl).app hK1
    clear hPc hDc hKc hFc hP1 hD1 hK1 hk1 hz1
    generalize H1 = H at hP hS ⊢
    have hP : va_P (dC, dI) vwCl [(ad12, .inr (6, [.int 1, .ref ad19, .int 0, .ref ad20])), (ad0, .inr (9, [.ref ad1, .ref ad2, .ref ad3, .ref ad4, .ref ad5, .ref ad6, .ref ad7, .ref ad8, .int 0, .ref ad9, .ref ad10, .ref ad11, .ref ad12, .ref ad13])), (ad2, .inr (3, [.int 0, .int 0, .int 10, .int 0, .int 0, .int 1, .ref ad14, .ref ad15, .ref ad16, .ref ad17, .ref ad18]))] H := hP
    have hD : va_D A [(ad12, .inr (6, [.int 1, .ref ad19, .int 0, .ref ad20])), (ad0, .inr (9, [.ref ad1, .ref ad2, .ref ad3, .ref ad4, .ref ad5, .ref ad6, .ref ad7, .ref ad8, .int 0, .ref ad9, .ref ad10, .ref ad11, .ref ad12, .ref ad13])), (ad2, .inr (3, [.int 0, .int 0, .int 10, .int 0, .int 0, .int 1, .ref ad14, .ref ad15, .ref ad16, .ref ad17, .ref ad18]))] := hD
    have hK : va_K (dC, dI) vwCl [] s := hK
    refine W.widen (k := 0) (n := 0) (by decide) (by decide) ?_
    have hw : r5 = 0 := hw
    subst hw
    refine lv_if_eq (tgt := 24) hx hb dX9_press_10 (by decide) (fun _ => ?_) (fun cz => absurd cz (by decide))
    refine lv_bipush (v := (-2)) hx hb dX9_press_24 (by decide) ?_
    refine W.widen (k := 0) (n := 0) (by decide) (by decide) ?_
    exact W.iret (v := (-2)) hx hb hr (fun t ht hW => ⟨⟨(-2), (), rfl, (by first | rfl | (simp only [sp_press] at *; grind)), trivial⟩, hS.F ht⟩) hS.2.2 dX9_press_26

set_option maxHeartbeats 4000000 in
set_option maxRecDepth 100000 in
theorem ct_X9_by (l : Launch) (dC : Nat → ClassId) (dI : Nat → Nat → Nat) (ad0 : Nat) (vi0 : Int32) (ad1 : Nat) (ad2 : Nat) (ad3 : Nat) (ad4 : Nat) (ad5 : Nat) (ad6 : Nat) (ad7 : Nat) (ad8 : Nat) (ad9 : Nat) (ad10 : Nat) (ad11 : Nat) (ad12 : Nat) (ad13 : Nat) (ad14 : Nat) (ad15 : Nat) (sz : Nat) : Met l yX9_by wsX9_by ({ frames := 0, cells := 0, slots := 0, locals := 0 }) (va_Pc [.ref ad0, .int vi0] (fun U => U.heap.size = sz ∧ va_P (dC, dI) vwCl [(ad0, .inr (9, [.ref ad1, .ref ad2, .ref ad3, .ref ad4, .ref ad5, .ref ad6, .ref ad7, .ref ad8, .int 0, .ref ad9, .ref ad10, .ref ad11, .ref ad12, .ref ad13])), (ad12, .inr (6, [.int 1, .ref ad14, .int 0, .ref ad15]))] U.heap ∧ va_K (dC, dI) vwCl [] U ∧ va_D (fun _ => True) [(ad0, .inr (9, [.ref ad1, .ref ad2, .ref ad3, .ref ad4, .ref ad5, .ref ad6, .ref ad7, .ref ad8, .int 0, .ref ad9, .ref ad10, .ref ad11, .ref ad12, .ref ad13])), (ad12, .inr (6, [.int 1, .ref ad14, .int 0, .ref ad15]))])) (va_Qi (fun (r : Int32) (_ : Unit) => r = sp_by vi0) (fun _ _ => True) (va_A [(ad0, .inr (9, [.ref ad1, .ref ad2, .ref ad3, .ref ad4, .ref ad5, .ref ad6, .ref ad7, .ref ad8, .int 0, .ref ad9, .ref ad10, .ref ad11, .ref ad12, .ref ad13])), (ad12, .inr (6, [.int 1, .ref ad14, .int 0, .ref ad15]))] sz)) 0 0 (va_A [(ad0, .inr (9, [.ref ad1, .ref ad2, .ref ad3, .ref ad4, .ref ad5, .ref ad6, .ref ad7, .ref ad8, .int 0, .ref ad9, .ref ad10, .ref ad11, .ref ad12, .ref ad13])), (ad12, .inr (6, [.int 1, .ref ad14, .int 0, .ref ad15]))] sz) := by
  refine Met.ofW (cc := cX9_by) (maxL := 3) (ret := (some .int)) (by decide) rfl ?_
  intro p e s m args below meth c s₁ B hml hv
  obtain ⟨rfl, hsz, hP, hK, hD0⟩ := hv
  have hx := B.exec
  have hb := B.bytes
  have hr := B.returns
  have hts := atoms_spec (ws := wsX9_by) B.pre
  have hown : s.vm.findClass RX9 = some m.cls := findClass_of_methodNamed B.named
  have hlocks := B.notSynchronized
  subst hsz
  have hD := hD0.self (sz := s.heap.size)
  generalize hAe : va_A [(ad0, .inr (9, [.ref ad1, .ref ad2, .ref ad3, .ref ad4, .ref ad5, .ref ad6, .ref ad7, .ref ad8, .int 0, .ref ad9, .ref ad10, .ref ad11, .ref ad12, .ref ad13])), (ad12, .inr (6, [.int 1, .ref ad14, .int 0, .ref ad15]))] s.heap.size = A at hD ⊢
  have hA : ∀ q : Nat, s.heap.size ≤ q → A q := fun q h => by rw [← hAe]; exact Or.inr h
  have hS : va_S A s.heap s.heap [] := va_S.rf
  have hP : va_P (dC, dI) vwCl [(ad0, .inr (9, [.ref ad1, .ref ad2, .ref ad3, .ref ad4, .ref ad5, .ref ad6, .ref ad7, .ref ad8, .int 0, .ref ad9, .ref ad10, .ref ad11, .ref ad12, .ref ad13])), (ad12, .inr (6, [.int 1, .ref ad14, .int 0, .ref ad15]))] s.heap := hP
  have hl := lv_entry ([.ref ad0, .int vi0]) (n := 3) (Nat.le_of_ble_eq_true rfl)
  rw [lg_entry_eq]
  generalize (lg_sl ([.ref ad0, .int vi0]) ++ List.replicate (3 - (lg_sl ([.ref ad0, .int vi0])).length) Slot.unset).toArray = ls at hl ⊢
  have hl : lv_has ls 3 [(0, .ref ad0), (1, .int vi0)] := hl
  refine lv_iload_n hx hb dX9_by_0 rfl (lv_at hl 1 rfl) ?_
  refine lv_iconst (v := 1) hx hb dX9_by_1 (by decide) ?_
  refine lv_icmp_lt (tgt := 12) hx hb dX9_by_2 (by decide) (fun c1 => ?_) (fun c1 => ?_)
  · refine lv_bipush (v := (-2)) hx hb dX9_by_12 (by decide) ?_
    refine W.widen (k := 0) (n := 0) (by decide) (by decide) ?_
    exact W.iret (v := (-2)) hx hb hr (fun t ht hW => ⟨⟨(-2), (), rfl, (by first | rfl | (simp only [sp_by] at *; grind)), trivial⟩, hS.F ht⟩) hS.2.2 dX9_by_14
  · refine lv_iload_n hx hb dX9_by_5 rfl (lv_at hl 1 rfl) ?_
    refine lv_sipush (v := 9999) hx hb dX9_by_6 (by decide) ?_
    refine lv_icmp_le (tgt := 15) hx hb dX9_by_9 (by decide) (fun c2 => ?_) (fun c2 => ?_)
    · refine lv_aload_n hx hb dX9_by_15 rfl (lv_at hl 0 rfl) ?_
      refine va_get (D := (dC, dI)) (ci := 9) (v := .ref ad12) (C := RX9) (T := TX9) (N := 14) hx hb hts iw_X9_by_X9 hown hK hP 0 rfl rfl 12 (by decide) (hts _ kk_X9_by_0) (fun _ h9 => h9) rfl dX9_by_16 ?_
      refine va_get (D := (dC, dI)) (ci := 6) (v := .int 1) (C := RX6) (T := TX6) (N := 4) hx hb hts iw_X9_by_X6 hown hK hP 1 rfl rfl 0 (by decide) (hts _ kk_X9_by_1) (fun _ h9 => h9) rfl dX9_by_19 ?_
      refine lv_istore_n (lv' := [(2, .int 1), (0, .ref ad0), (1, .int vi0)]) hx hb dX9_by_22 rfl hl (by decide) rfl (fun ls hl => ?_)
      refine lv_aload_n hx hb dX9_by_23 rfl (lv_at hl 1 rfl) ?_
      refine va_get (D := (dC, dI)) (ci := 9) (v := .ref ad12) (C := RX9) (T := TX9) (N := 14) hx hb hts iw_X9_by_X9 hown hK hP 0 rfl rfl 12 (by decide) (hts _ kk_X9_by_0) (fun _ h9 => h9) rfl dX9_by_24 ?_
      refine lv_iload_n hx hb dX9_by_27 rfl (lv_at hl 2 rfl) ?_
      refine va_put (D := (dC, dI)) (ci := 6) (v := .int vi0) (ty := .int) (C := RX6) (T := TX6) (N := 4) hx hb hts iw_X9_by_X6 tyX6 tyX6_ok nmX6 hown hK hP hD hS 1 rfl rfl 0 (by decide) (hts _ kk_X9_by_1) (fun _ h9 => h9) rfl (by decide +kernel) rfl rfl (Nat.le_of_ble_eq_true rfl) dX9_by_28 (fun H locs hP hD hS => ?_)
      have hP : va_P (dC, dI) vwCl [(ad0, .inr (9, [.ref ad1, .ref ad2, .ref ad3, .ref ad4, .ref ad5, .ref ad6, .ref ad7, .ref ad8, .int 0, .ref ad9, .ref ad10, .ref ad11, .ref ad12, .ref ad13])), (ad12, .inr (6, [.int vi0, .ref ad14, .int 0, .ref ad15]))] H := hP
      have hD : va_D A [(ad0, .inr (9, [.ref ad1, .ref ad2, .ref ad3, .ref ad4, .ref ad5, .ref ad6, .ref ad7, .ref ad8, .int 0, .ref ad9, .ref ad10, .ref ad11, .ref ad12, .ref ad13])), (ad12, .inr (6, [.int vi0, .ref ad14, .int 0, .ref ad15]))] := hD
      refine lv_iload_n hx hb dX9_by_31 rfl (lv_at hl 0 rfl) ?_
      refine W.widen (k := 0) (n := 0) (by decide) (by decide) ?_
      exact W.iret (v := 1) hx hb hr (fun t ht hW => ⟨⟨1, (), rfl, (by first | rfl | (simp only [sp_by] at *; grind)), trivial⟩, hS.F ht⟩) hS.2.2 dX9_by_32
    · refine lv_bipush (v := (-2)) hx hb dX9_by_12 (by decide) ?_
      refine W.widen (k := 0) (n := 0) (by decide) (by decide) ?_
      exact W.iret (v := (-2)) hx hb hr (fun t ht hW => ⟨⟨(-2), (), rfl, (by first | rfl | (simp only [sp_by] at *; grind)), trivial⟩, hS.F ht⟩) hS.2.2 dX9_by_14

set_option maxHeartbeats 4000000 in
set_option maxRecDepth 100000 in
theorem ct_X9_proves (l : Launch) (dC : Nat → ClassId) (dI : Nat → Nat → Nat) (ad0 : Nat) (vi0 : Int32) (ad1 : Nat) (ad2 : Nat) (ad3 : Nat) (ad4 : Nat) (ad5 : Nat) (ad6 : Nat) (ad7 : Nat) (ad8 : Nat) (ad9 : Nat) (ad10 : Nat) (ad11 : Nat) (ad12 : Nat) (ad13 : Nat) (ad14 : Nat) (ad15 : Nat) (ad16 : Nat) (ad17 : Nat) (ad18 : Nat) (sz : Nat) : Met l yX9_proves wsX9_proves ({ frames := 1, cells := 0, slots := 0, locals := 21 }) (va_Pc [.ref ad0, .int vi0] (fun U => U.heap.size = sz ∧ va_P (dC, dI) vwCl [(ad0, .inr (9, [.ref ad1, .ref ad2, .ref ad3, .ref ad4, .ref ad5, .ref ad6, .ref ad7, .ref ad8, .int 0, .ref ad9, .ref ad10, .ref ad11, .ref ad12, .ref ad13])), (ad2, .inr (3, [.int 0, .int 0, .int 10, .int 0, .int 0, .int 1, .ref ad14, .ref ad15, .ref ad16, .ref ad17, .ref ad18]))] U.heap ∧ va_K (dC, dI) vwCl [] U ∧ va_D (fun _ => True) [(ad0, .inr (9, [.ref ad1, .ref ad2, .ref ad3, .ref ad4, .ref ad5, .ref ad6, .ref ad7, .ref ad8, .int 0, .ref ad9, .ref ad10, .ref ad11, .ref ad12, .ref ad13])), (ad2, .inr (3, [.int 0, .int 0, .int 10, .int 0, .int 0, .int 1, .ref ad14, .ref ad15, .ref ad16, .ref ad17, .ref ad18]))])) (va_Qi (fun (r : Int32) (_ : Unit) => r = (-2)) (fun _ _ => True) (va_A [(ad0, .inr (9, [.ref ad1, .ref ad2, .ref ad3, .ref ad4, .ref ad5, .ref ad6, .ref ad7, .ref ad8, .int 0, .ref ad9, .ref ad10, .ref ad11, .ref ad12, .ref ad13])), (ad2, .inr (3, [.int 0, .int 0, .int 10, .int 0, .int 0, .int 1, .ref ad14, .ref ad15, .ref ad16, .ref ad17, .ref ad18]))] sz)) 0 0 (va_A [(ad0, .inr (9, [.ref ad1, .ref ad2, .ref ad3, .ref ad4, .ref ad5, .ref ad6, .ref ad7, .ref ad8, .int 0, .ref ad9, .ref ad10, .ref ad11, .ref ad12, .ref ad13])), (ad2, .inr (3, [.int 0, .int 0, .int 10, .int 0, .int 0, .int 1, .ref ad14, .ref ad15, .ref ad16, .ref ad17, .ref ad18]))] sz) := by
  refine Met.ofW (cc := cX9_proves) (maxL := 2) (ret := (some .int)) (by decide) rfl ?_
  intro p e s m args below meth c s₁ B hml hv
  obtain ⟨rfl, hsz, hP, hK, hD0⟩ := hv
  have hx := B.exec
  have hb := B.bytes
  have hr := B.returns
  have hts := atoms_spec (ws := wsX9_proves) B.pre
  have hown : s.vm.findClass RX9 = some m.cls := findClass_of_methodNamed B.named
  have hlocks := B.notSynchronized
  subst hsz
  have hD := hD0.self (sz := s.heap.size)
  generalize hAe : va_A [(ad0, .inr (9, [.ref ad1, .ref ad2, .ref ad3, .ref ad4, .ref ad5, .ref ad6, .ref ad7, .ref ad8, .int 0, .ref ad9, .ref ad10, .ref ad11, .ref ad12, .ref ad13])), (ad2, .inr (3, [.int 0, .int 0, .int 10, .int 0, .int 0, .int 1, .ref ad14, .ref ad15, .ref ad16, .ref ad17, .ref ad18]))] s.heap.size = A at hD ⊢
  have hA : ∀ q : Nat, s.heap.size ≤ q → A q := fun q h => by rw [← hAe]; exact Or.inr h
  have hS : va_S A s.heap s.heap [] := va_S.rf
  have hP : va_P (dC, dI) vwCl [(ad0, .inr (9, [.ref ad1, .ref ad2, .ref ad3, .ref ad4, .ref ad5, .ref ad6, .ref ad7, .ref ad8, .int 0, .ref ad9, .ref ad10, .ref ad11, .ref ad12, .ref ad13])), (ad2, .inr (3, [.int 0, .int 0, .int 10, .int 0, .int 0, .int 1, .ref ad14, .ref ad15, .ref ad16, .ref ad17, .ref ad18]))] s.heap := hP
  have hl := lv_entry ([.ref ad0, .int vi0]) (n := 2) (Nat.le_of_ble_eq_true rfl)
  rw [lg_entry_eq]
  generalize (lg_sl ([.ref ad0, .int vi0]) ++ List.replicate (2 - (lg_sl ([.ref ad0, .int vi0])).length) Slot.unset).toArray = ls at hl ⊢
  have hl : lv_has ls 2 [(0, .ref ad0), (1, .int vi0)] := hl
  refine lv_aload_n hx hb dX9_proves_0 rfl (lv_at hl 0 rfl) ?_
  refine lv_iload_n hx hb dX9_proves_1 rfl (lv_at hl 1 rfl) ?_
  have hPc := hP.sub (ws' := [(ad0, .inr (9, [.ref ad1, .ref ad2, .ref ad3, .ref ad4, .ref ad5, .ref ad6, .ref ad7, .ref ad8, .int 0, .ref ad9, .ref ad10, .ref ad11, .ref ad12, .ref ad13])), (ad2, .inr (3, [.int 0, .int 0, .int 10, .int 0, .int 0, .int 1, .ref ad14, .ref ad15, .ref ad16, .ref ad17, .ref ad18]))]) [0, 1] rfl
  have hDc := hD.sub (ws' := [(ad0, .inr (9, [.ref ad1, .ref ad2, .ref ad3, .ref ad4, .ref ad5, .ref ad6, .ref ad7, .ref ad8, .int 0, .ref ad9, .ref ad10, .ref ad11, .ref ad12, .ref ad13])), (ad2, .inr (3, [.int 0, .int 0, .int 10, .int 0, .int 0, .int 1, .ref ad14, .ref ad15, .ref ad16, .ref ad17, .ref ad18]))]) [0, 1] (by decide) rfl
  have hKc := hK.sub (tys' := []) [] rfl
  have hFc := va_free (wc := [(ad0, .inr (9, [.ref ad1, .ref ad2, .ref ad3, .ref ad4, .ref ad5, .ref ad6, .ref ad7, .ref ad8, .int 0, .ref ad9, .ref ad10, .ref ad11, .ref ad12, .ref ad13])), (ad2, .inr (3, [.int 0, .int 0, .int 10, .int 0, .int 0, .int 1, .ref ad14, .ref ad15, .ref ad16, .ref ad17, .ref ad18]))]) hD hS hA [0, 1] rfl
  refine va_calli (va_runV (As := [.int vi0]) (rest := []) ⟨hx, hb, hml, hown, hts⟩ (ct_X9_isWork l dC dI ad0 vi0 ad1 ad2 ad3 ad4 ad5 ad6 ad7 ad8 ad9 ad10 ad11 ad12 ad13 ad14 ad15 ad16 ad17 ad18 s.heap.size) (cwV 1 hts gX9_proves_X9_isWork rfl rfl rfl (by decide +kernel) ⟨Nat.le_of_ble_eq_true rfl, Nat.le_of_ble_eq_true rfl⟩) ⟨fun a U g mk q => by obtain ⟨q0, q1, qP, qK, qD⟩ := q; exact ⟨q0, q1, qP, va_K.moved (u := U) (U := U.calling g mk a) (Vm.Alike.refl U.vm) qK, qD⟩, va_recv hKc hPc (ci := 9) (q0 := 0) rfl rfl, fun U hU hW => ⟨rfl, by rw [hU], by rw [hU]; exact hPc, va_K.moved hW.alike hKc, hDc.weaken (fun _ _ _ _ => trivial)⟩⟩ rfl rfl hl.1 rfl (lv_room (Nat.le_of_ble_eq_true rfl)) dX9_proves_2 ⟨Nat.le_of_ble_eq_true rfl, Nat.le_of_ble_eq_true rfl⟩) hS (fun q _ h => hFc q h) hFc (fun r1 u t H1 locs ht hvm hw hB hz1 hk1 hS => ?_)
  obtain ⟨hP1, hK1, hD1⟩ := hB
  rw [ht] at hP1
  have hK1 := va_K.moved hvm.symm hK1
  obtain ⟨hP, hD⟩ := va_join (wr := []) (w1 := [(ad0, .inr (9, [.ref ad1, .ref ad2, .ref ad3, .ref ad4, .ref ad5, .ref ad6, .ref ad7, .ref ad8, .int 0, .ref ad9, .ref ad10, .ref ad11, .ref ad12, .ref ad13])), (ad2, .inr (3, [.int 0, .int 0, .int 10, .int 0, .int 0, .int 1, .ref ad14, .ref ad15, .ref ad16, .ref ad17, .ref ad18]))]) hP hD [0, 1] [] rfl rfl (by decide) (by decide) hk1 hFc hP1 hD1
  have hK := (hK.sub (tys' := []) [] rfl).app hK1
  clear hPc hDc hKc hFc hP1 hD1 hK1 hk1 hz1
  generalize H1 = H at hP hS ⊢
  have hP : va_P (dC, dI) vwCl [(ad0, .inr (9, [.ref ad1, .ref ad2, .ref ad3, .ref ad4, .ref ad5, .ref ad6, .ref ad7, .ref ad8, .int 0, .ref ad9, .ref ad10, .ref ad11, .ref ad12, .ref ad13])), (ad2, .inr (3, [.int 0, .int 0, .int 10, .int 0, .int 0, .int 1, .ref ad14, .ref ad15, .ref ad16, .ref ad17, .ref ad18]))] H := hP
  have hD : va_D A [(ad0, .inr (9, [.ref ad1, .ref ad2, .ref ad3, .ref ad4, .ref ad5, .ref ad6, .ref ad7, .ref ad8, .int 0, .ref ad9, .ref ad10, .ref ad11, .ref ad12, .ref ad13])), (ad2, .inr (3, [.int 0, .int 0, .int 10, .int 0, .int 0, .int 1, .ref ad14, .ref ad15, .ref ad16, .ref ad17, .ref ad18]))] := hD
  have hK : va_K (dC, dI) vwCl [] s := hK
  refine W.widen (k := 0) (n := 0) (by decide) (by decide) ?_
  have hw : r1 = 0 := hw
  subst hw
  refine lv_if_ne (tgt := 11) hx hb dX9_proves_5 (by decide) (fun cz => absurd cz (by decide)) (fun _ => ?_)
  refine lv_bipush (v := (-2)) hx hb dX9_proves_8 (by decide) ?_
  refine W.widen (k := 0) (n := 0) (by decide) (by decide) ?_
  exact W.iret (v := (-2)) hx hb hr (fun t ht hW => ⟨⟨(-2), (), rfl, rfl, trivial⟩, hS.F ht⟩) hS.2.2 dX9_proves_10

set_option maxHeartbeats 4000000 in
set_option maxRecDepth 100000 in
theorem ct_X9_mix (l : Launch) (dC : Nat → ClassId) (dI : Nat → Nat → Nat) (ad0 : Nat) (vi0 : Int32) (vi1 : Int32) (ad1 : Nat) (ad2 : Nat) (ad3 : Nat) (ad4 : Nat) (ad5 : Nat) (ad6 : Nat) (ad7 : Nat) (ad8 : Nat) (ad9 : Nat) (ad10 : Nat) (ad11 : Nat) (ad12 : Nat) (ad13 : Nat) (ad14 : Nat) (ad15 : Nat) (ad16 : Nat) (ad17 : Nat) (ad18 : Nat) (sz : Nat) : Met l yX9_mix wsX9_mix ({ frames := 1, cells := 0, slots := 0, locals := 21 }) (va_Pc [.ref ad0, .int vi0, .int vi1] (fun U => U.heap.size = sz ∧ va_P (dC, dI) vwCl [(ad0, .inr (9, [.ref ad1, .ref ad2, .ref ad3, .ref ad4, .ref ad5, .ref ad6, .ref ad7, .ref ad8, .int 0, .ref ad9, .ref ad10, .ref ad11, .ref ad12, .ref ad13])), (ad2, .inr (3, [.int 0, .int 0, .int 10, .int 0, .int 0, .int 1, .ref ad14, .ref ad15, .ref ad16, .ref ad17, .ref ad18]))] U.heap ∧ va_K (dC, dI) vwCl [] U ∧ va_D (fun _ => True) [(ad0, .inr (9, [.ref ad1, .ref ad2, .ref ad3, .ref ad4, .ref ad5, .ref ad6, .ref ad7, .ref ad8, .int 0, .ref ad9, .ref ad10, .ref ad11, .ref ad12, .ref ad13])), (ad2, .inr (3, [.int 0, .int 0, .int 10, .int 0, .int 0, .int 1, .ref ad14, .ref ad15, .ref ad16, .ref ad17, .ref ad18]))])) (va_Qi (fun (r : Int32) (_ : Unit) => r = (-2)) (fun _ _ => True) (va_A [(ad0, .inr (9, [.ref ad1, .ref ad2, .ref ad3, .ref ad4, .ref ad5, .ref ad6, .ref ad7, .ref ad8, .int 0, .ref ad9, .ref ad10, .ref ad11, .ref ad12, .ref ad13])), (ad2, .inr (3, [.int 0, .int 0, .int 10, .int 0, .int 0, .int 1, .ref ad14, .ref ad15, .ref ad16, .ref ad17, .ref ad18]))] sz)) 0 0 (va_A [(ad0, .inr (9, [.ref ad1, .ref ad2, .ref ad3, .ref ad4, .ref ad5, .ref ad6, .ref ad7, .ref ad8, .int 0, .ref ad9, .ref ad10, .ref ad11, .ref ad12, .ref ad13])), (ad2, .inr (3, [.int 0, .int 0, .int 10, .int 0, .int 0, .int 1, .ref ad14, .ref ad15, .ref ad16, .ref ad17, .ref ad18]))] sz) := by
  refine Met.ofW (cc := cX9_mix) (maxL := 3) (ret := (some .int)) (by decide) rfl ?_
  intro p e s m args below meth c s₁ B hml hv
  obtain ⟨rfl, hsz, hP, hK, hD0⟩ := hv
  have hx := B.exec
  have hb := B.bytes
  have hr := B.returns
  have hts := atoms_spec (ws := wsX9_mix) B.pre
  have hown : s.vm.findClass RX9 = some m.cls := findClass_of_methodNamed B.named
  have hlocks := B.notSynchronized
  subst hsz
  have hD := hD0.self (sz := s.heap.size)
  generalize hAe : va_A [(ad0, .inr (9, [.ref ad1, .ref ad2, .ref ad3, .ref ad4, .ref ad5, .ref ad6, .ref ad7, .ref ad8, .int 0, .ref ad9, .ref ad10, .ref ad11, .ref ad12, .ref ad13])), (ad2, .inr (3, [.int 0, .int 0, .int 10, .int 0, .int 0, .int 1, .ref ad14, .ref ad15, .ref ad16, .ref ad17, .ref ad18]))] s.heap.size = A at hD ⊢
  have hA : ∀ q : Nat, s.heap.size ≤ q → A q := fun q h => by rw [← hAe]; exact Or.inr h
  have hS : va_S A s.heap s.heap [] := va_S.rf
  have hP : va_P (dC, dI) vwCl [(ad0, .inr (9, [.ref ad1, .ref ad2, .ref ad3, .ref ad4, .ref ad5, .ref ad6, .ref ad7, .ref ad8, .int 0, .ref ad9, .ref ad10, .ref ad11, .ref ad12, .ref ad13])), (ad2, .inr (3, [.int 0, .int 0, .int 10, .int 0, .int 0, .int 1, .ref ad14, .ref ad15, .ref ad16, .ref ad17, .ref ad18]))] s.heap := hP
  have hl := lv_entry ([.ref ad0, .int vi0, .int vi1]) (n := 3) (Nat.le_of_ble_eq_true rfl)
  rw [lg_entry_eq]
  generalize (lg_sl ([.ref ad0, .int vi0, .int vi1]) ++ List.replicate (3 - (lg_sl ([.ref ad0, .int vi0, .int vi1])).length) Slot.unset).toArray = ls at hl ⊢
  have hl : lv_has ls 3 [(0, .ref ad0), (1, .int vi0), (2, .int vi1)] := hl
  refine lv_aload_n hx hb dX9_mix_0 rfl (lv_at hl 0 rfl) ?_
  refine lv_iload_n hx hb dX9_mix_1 rfl (lv_at hl 1 rfl) ?_
  have hPc := hP.sub (ws' := [(ad0, .inr (9, [.ref ad1, .ref ad2, .ref ad3, .ref ad4, .ref ad5, .ref ad6, .ref ad7, .ref ad8, .int 0, .ref ad9, .ref ad10, .ref ad11, .ref ad12, .ref ad13])), (ad2, .inr (3, [.int 0, .int 0, .int 10, .int 0, .int 0, .int 1, .ref ad14, .ref ad15, .ref ad16, .ref ad17, .ref ad18]))]) [0, 1] rfl
  have hDc := hD.sub (ws' := [(ad0, .inr (9, [.ref ad1, .ref ad2, .ref ad3, .ref ad4, .ref ad5, .ref ad6, .ref ad7, .ref ad8, .int 0, .ref ad9, .ref ad10, .ref ad11, .ref ad12, .ref ad13])), (ad2, .inr (3, [.int 0, .int 0, .int 10, .int 0, .int 0, .int 1, .ref ad14, .ref ad15, .ref ad16, .ref ad17, .ref ad18]))]) [0, 1] (by decide) rfl
  have hKc := hK.sub (tys' := []) [] rfl
  have hFc := va_free (wc := [(ad0, .inr (9, [.ref ad1, .ref ad2, .ref ad3, .ref ad4, .ref ad5, .ref ad6, .ref ad7, .ref ad8, .int 0, .ref ad9, .ref ad10, .ref ad11, .ref ad12, .ref ad13])), (ad2, .inr (3, [.int 0, .int 0, .int 10, .int 0, .int 0, .int 1, .ref ad14, .ref ad15, .ref ad16, .ref ad17, .ref ad18]))]) hD hS hA [0, 1] rfl
  refine va_calli (va_runV (As := [.int vi0]) (rest := []) ⟨hx, hb, hml, hown, hts⟩ (ct_X9_isWork l dC dI ad0 vi0 ad1 ad2 ad3 ad4 ad5 ad6 ad7 ad8 ad9 ad10 ad11 ad12 ad13 ad14 ad15 ad16 ad17 ad18 s.heap.size) (cwV 1 hts gX9_mix_X9_isWork rfl rfl rfl (by decide +kernel) ⟨Nat.le_of_ble_eq_true rfl, Nat.le_of_ble_eq_true rfl⟩) ⟨fun a U g mk q => by obtain ⟨q0, q1, qP, qK, qD⟩ := q; exact ⟨q0, q1, qP, va_K.moved (u := U) (U := U.calling g mk a) (Vm.Alike.refl U.vm) qK, qD⟩, va_recv hKc hPc (ci := 9) (q0 := 0) rfl rfl, fun U hU hW => ⟨rfl, by rw [hU], by rw [hU]; exact hPc, va_K.moved hW.alike hKc, hDc.weaken (fun _ _ _ _ => trivial)⟩⟩ rfl rfl hl.1 rfl (lv_room (Nat.le_of_ble_eq_true rfl)) dX9_mix_2 ⟨Nat.le_of_ble_eq_true rfl, Nat.le_of_ble_eq_true rfl⟩) hS (fun q _ h => hFc q h) hFc (fun r1 u t H1 locs ht hvm hw hB hz1 hk1 hS => ?_)
  obtain ⟨hP1, hK1, hD1⟩ := hB
  rw [ht] at hP1
  have hK1 := va_K.moved hvm.symm hK1
  obtain ⟨hP, hD⟩ := va_join (wr := []) (w1 := [(ad0, .inr (9, [.ref ad1, .ref ad2, .ref ad3, .ref ad4, .ref ad5, .ref ad6, .ref ad7, .ref ad8, .int 0, .ref ad9, .ref ad10, .ref ad11, .ref ad12, .ref ad13])), (ad2, .inr (3, [.int 0, .int 0, .int 10, .int 0, .int 0, .int 1, .ref ad14, .ref ad15, .ref ad16, .ref ad17, .ref ad18]))]) hP hD [0, 1] [] rfl rfl (by decide) (by decide) hk1 hFc hP1 hD1
  have hK := (hK.sub (tys' := []) [] rfl).app hK1
  clear hPc hDc hKc hFc hP1 hD1 hK1 hk1 hz1
  generalize H1 = H at hP hS ⊢
  have hP : va_P (dC, dI) vwCl [(ad0, .inr (9, [.ref ad1, .ref ad2, .ref ad3, .ref ad4, .ref ad5, .ref ad6, .ref ad7, .ref ad8, .int 0, .ref ad9, .ref ad10, .ref ad11, .ref ad12, .ref ad13])), (ad2, .inr (3, [.int 0, .int 0, .int 10, .int 0, .int 0, .int 1, .ref ad14, .ref ad15, .ref ad16, .ref ad17, .ref ad18]))] H := hP
  have hD : va_D A [(ad0, .inr (9, [.ref ad1, .ref ad2, .ref ad3, .ref ad4, .ref ad5, .ref ad6, .ref ad7, .ref ad8, .int 0, .ref ad9, .ref ad10, .ref ad11, .ref ad12, .ref ad13])), (ad2, .inr (3, [.int 0, .int 0, .int 10, .int 0, .int 0, .int 1, .ref ad14, .ref ad15, .ref ad16, .ref ad17, .ref ad18]))] := hD
  have hK : va_K (dC, dI) vwCl [] s := hK
  refine W.widen (k := 0) (n := 0) (by decide) (by decide) ?_
  have hw : r1 = 0 := hw
  subst hw
  refine lv_if_eq (tgt := 19) hx hb dX9_mix_5 (by decide) (fun _ => ?_) (fun cz => absurd cz (by decide))
  refine lv_bipush (v := (-2)) hx hb dX9_mix_19 (by decide) ?_
  refine lv_goto (tgt := 33) hx hb dX9_mix_21 (by decide) ?_
  refine W.widen (k := 0) (n := 0) (by decide) (by decide) ?_
  exact W.iret (v := (-2)) hx hb hr (fun t ht hW => ⟨⟨(-2), (), rfl, rfl, trivial⟩, hS.F ht⟩) hS.2.2 dX9_mix_33

set_option maxHeartbeats 4000000 in
set_option maxRecDepth 100000 in
theorem ct_X9_same (l : Launch) (dC : Nat → ClassId) (dI : Nat → Nat → Nat) (ad0 : Nat) (vi0 : Int32) (ad1 : Nat) (ad2 : Nat) (ad3 : Nat) (ad4 : Nat) (ad5 : Nat) (ad6 : Nat) (ad7 : Nat) (ad8 : Nat) (ad9 : Nat) (ad10 : Nat) (ad11 : Nat) (ad12 : Nat) (ad13 : Nat) (ad14 : Nat) (ad15 : Nat) (ad16 : Nat) (ad17 : Nat) (ad18 : Nat) (sz : Nat) : Met l yX9_same wsX9_same ({ frames := 1, cells := 0, slots := 0, locals := 21 }) (va_Pc [.ref ad0, .int vi0] (fun U => U.heap.size = sz ∧ va_P (dC, dI) vwCl [(ad0, .inr (9, [.ref ad1, .ref ad2, .ref ad3, .ref ad4, .ref ad5, .ref ad6, .ref ad7, .ref ad8, .int 0, .ref ad9, .ref ad10, .ref ad11, .ref ad12, .ref ad13])), (ad2, .inr (3, [.int 0, .int 0, .int 10, .int 0, .int 0, .int 1, .ref ad14, .ref ad15, .ref ad16, .ref ad17, .ref ad18]))] U.heap ∧ va_K (dC, dI) vwCl [] U ∧ va_D (fun _ => True) [(ad0, .inr (9, [.ref ad1, .ref ad2, .ref ad3, .ref ad4, .ref ad5, .ref ad6, .ref ad7, .ref ad8, .int 0, .ref ad9, .ref ad10, .ref ad11, .ref ad12, .ref ad13])), (ad2, .inr (3, [.int 0, .int 0, .int 10, .int 0, .int 0, .int 1, .ref ad14, .ref ad15, .ref ad16, .ref ad17, .ref ad18]))])) (va_Qi (fun (r : Int32) (_ : Unit) => r = (-2)) (fun _ _ => True) (va_A [(ad0, .inr (9, [.ref ad1, .ref ad2, .ref ad3, .ref ad4, .ref ad5, .ref ad6, .ref ad7, .ref ad8, .int 0, .ref ad9, .ref ad10, .ref ad11, .ref ad12, .ref ad13])), (ad2, .inr (3, [.int 0, .int 0, .int 10, .int 0, .int 0, .int 1, .ref ad14, .ref ad15, .ref ad16, .ref ad17, .ref ad18]))] sz)) 0 0 (va_A [(ad0, .inr (9, [.ref ad1, .ref ad2, .ref ad3, .ref ad4, .ref ad5, .ref ad6, .ref ad7, .ref ad8, .int 0, .ref ad9, .ref ad10, .ref ad11, .ref ad12, .ref ad13])), (ad2, .inr (3, [.int 0, .int 0, .int 10, .int 0, .int 0, .int 1, .ref ad14, .ref ad15, .ref ad16, .ref ad17, .ref ad18]))] sz) := by
  refine Met.ofW (cc := cX9_same) (maxL := 2) (ret := (some .int)) (by decide) rfl ?_
  intro p e s m args below meth c s₁ B hml hv
  obtain ⟨rfl, hsz, hP, hK, hD0⟩ := hv
  have hx := B.exec
  have hb := B.bytes
  have hr := B.returns
  have hts := atoms_spec (ws := wsX9_same) B.pre
  have hown : s.vm.findClass RX9 = some m.cls := findClass_of_methodNamed B.named
  have hlocks := B.notSynchronized
  subst hsz
  have hD := hD0.self (sz := s.heap.size)
  generalize hAe : va_A [(ad0, .inr (9, [.ref ad1, .ref ad2, .ref ad3, .ref ad4, .ref ad5, .ref ad6, .ref ad7, .ref ad8, .int 0, .ref ad9, .ref ad10, .ref ad11, .ref ad12, .ref ad13])), (ad2, .inr (3, [.int 0, .int 0, .int 10, .int 0, .int 0, .int 1, .ref ad14, .ref ad15, .ref ad16, .ref ad17, .ref ad18]))] s.heap.size = A at hD ⊢
  have hA : ∀ q : Nat, s.heap.size ≤ q → A q := fun q h => by rw [← hAe]; exact Or.inr h
  have hS : va_S A s.heap s.heap [] := va_S.rf
  have hP : va_P (dC, dI) vwCl [(ad0, .inr (9, [.ref ad1, .ref ad2, .ref ad3, .ref ad4, .ref ad5, .ref ad6, .ref ad7, .ref ad8, .int 0, .ref ad9, .ref ad10, .ref ad11, .ref ad12, .ref ad13])), (ad2, .inr (3, [.int 0, .int 0, .int 10, .int 0, .int 0, .int 1, .ref ad14, .ref ad15, .ref ad16, .ref ad17, .ref ad18]))] s.heap := hP
  have hl := lv_entry ([.ref ad0, .int vi0]) (n := 2) (Nat.le_of_ble_eq_true rfl)
  rw [lg_entry_eq]
  generalize (lg_sl ([.ref ad0, .int vi0]) ++ List.replicate (2 - (lg_sl ([.ref ad0, .int vi0])).length) Slot.unset).toArray = ls at hl ⊢
  have hl : lv_has ls 2 [(0, .ref ad0), (1, .int vi0)] := hl
  refine lv_aload_n hx hb dX9_same_0 rfl (lv_at hl 0 rfl) ?_
  refine lv_iload_n hx hb dX9_same_1 rfl (lv_at hl 1 rfl) ?_
  have hPc := hP.sub (ws' := [(ad0, .inr (9, [.ref ad1, .ref ad2, .ref ad3, .ref ad4, .ref ad5, .ref ad6, .ref ad7, .ref ad8, .int 0, .ref ad9, .ref ad10, .ref ad11, .ref ad12, .ref ad13])), (ad2, .inr (3, [.int 0, .int 0, .int 10, .int 0, .int 0, .int 1, .ref ad14, .ref ad15, .ref ad16, .ref ad17, .ref ad18]))]) [0, 1] rfl
  have hDc := hD.sub (ws' := [(ad0, .inr (9, [.ref ad1, .ref ad2, .ref ad3, .ref ad4, .ref ad5, .ref ad6, .ref ad7, .ref ad8, .int 0, .ref ad9, .ref ad10, .ref ad11, .ref ad12, .ref ad13])), (ad2, .inr (3, [.int 0, .int 0, .int 10, .int 0, .int 0, .int 1, .ref ad14, .ref ad15, .ref ad16, .ref ad17, .ref ad18]))]) [0, 1] (by decide) rfl
  have hKc := hK.sub (tys' := []) [] rfl
  have hFc := va_free (wc := [(ad0, .inr (9, [.ref ad1, .ref ad2, .ref ad3, .ref ad4, .ref ad5, .ref ad6, .ref ad7, .ref ad8, .int 0, .ref ad9, .ref ad10, .ref ad11, .ref ad12, .ref ad13])), (ad2, .inr (3, [.int 0, .int 0, .int 10, .int 0, .int 0, .int 1, .ref ad14, .ref ad15, .ref ad16, .ref ad17, .ref ad18]))]) hD hS hA [0, 1] rfl
  refine va_calli (va_runV (As := [.int vi0]) (rest := []) ⟨hx, hb, hml, hown, hts⟩ (ct_X9_isWork l dC dI ad0 vi0 ad1 ad2 ad3 ad4 ad5 ad6 ad7 ad8 ad9 ad10 ad11 ad12 ad13 ad14 ad15 ad16 ad17 ad18 s.heap.size) (cwV 1 hts gX9_same_X9_isWork rfl rfl rfl (by decide +kernel) ⟨Nat.le_of_ble_eq_true rfl, Nat.le_of_ble_eq_true rfl⟩) ⟨fun a U g mk q => by obtain ⟨q0, q1, qP, qK, qD⟩ := q; exact ⟨q0, q1, qP, va_K.moved (u := U) (U := U.calling g mk a) (Vm.Alike.refl U.vm) qK, qD⟩, va_recv hKc hPc (ci := 9) (q0 := 0) rfl rfl, fun U hU hW => ⟨rfl, by rw [hU], by rw [hU]; exact hPc, va_K.moved hW.alike hKc, hDc.weaken (fun _ _ _ _ => trivial)⟩⟩ rfl rfl hl.1 rfl (lv_room (Nat.le_of_ble_eq_true rfl)) dX9_same_2 ⟨Nat.le_of_ble_eq_true rfl, Nat.le_of_ble_eq_true rfl⟩) hS (fun q _ h => hFc q h) hFc (fun r1 u t H1 locs ht hvm hw hB hz1 hk1 hS => ?_)
  obtain ⟨hP1, hK1, hD1⟩ := hB
  rw [ht] at hP1
  have hK1 := va_K.moved hvm.symm hK1
  obtain ⟨hP, hD⟩ := va_join (wr := []) (w1 := [(ad0, .inr (9, [.ref ad1, .ref ad2, .ref ad3, .ref ad4, .ref ad5, .ref ad6, .ref ad7, .ref ad8, .int 0, .ref ad9, .ref ad10, .ref ad11, .ref ad12, .ref ad13])), (ad2, .inr (3, [.int 0, .int 0, .int 10, .int 0, .int 0, .int 1, .ref ad14, .ref ad15, .ref ad16, .ref ad17, .ref ad18]))]) hP hD [0, 1] [] rfl rfl (by decide) (by decide) hk1 hFc hP1 hD1
  have hK := (hK.sub (tys' := []) [] rfl).app hK1
  clear hPc hDc hKc hFc hP1 hD1 hK1 hk1 hz1
  generalize H1 = H at hP hS ⊢
  have hP : va_P (dC, dI) vwCl [(ad0, .inr (9, [.ref ad1, .ref ad2, .ref ad3, .ref ad4, .ref ad5, .ref ad6, .ref ad7, .ref ad8, .int 0, .ref ad9, .ref ad10, .ref ad11, .ref ad12, .ref ad13])), (ad2, .inr (3, [.int 0, .int 0, .int 10, .int 0, .int 0, .int 1, .ref ad14, .ref ad15, .ref ad16, .ref ad17, .ref ad18]))] H := hP
  have hD : va_D A [(ad0, .inr (9, [.ref ad1, .ref ad2, .ref ad3, .ref ad4, .ref ad5, .ref ad6, .ref ad7, .ref ad8, .int 0, .ref ad9, .ref ad10, .ref ad11, .ref ad12, .ref ad13])), (ad2, .inr (3, [.int 0, .int 0, .int 10, .int 0, .int 0, .int 1, .ref ad14, .ref ad15, .ref ad16, .ref ad17, .ref ad18]))] := hD
  have hK : va_K (dC, dI) vwCl [] s := hK
  refine W.widen (k := 0) (n := 0) (by decide) (by decide) ?_
  have hw : r1 = 0 := hw
  subst hw
  refine lv_if_ne (tgt := 11) hx hb dX9_same_5 (by decide) (fun cz => absurd cz (by decide)) (fun _ => ?_)
  refine lv_bipush (v := (-2)) hx hb dX9_same_8 (by decide) ?_
  refine W.widen (k := 0) (n := 0) (by decide) (by decide) ?_
  exact W.iret (v := (-2)) hx hb hr (fun t ht hW => ⟨⟨(-2), (), rfl, rfl, trivial⟩, hS.F ht⟩) hS.2.2 dX9_same_10

set_option maxHeartbeats 4000000 in
set_option maxRecDepth 100000 in
theorem ct_X9_edge (l : Launch) (dC : Nat → ClassId) (dI : Nat → Nat → Nat) (ad0 : Nat) (vi0 : Int32) (vi1 : Int32) (vi2 : Int32) (ad1 : Nat) (ad2 : Nat) (ad3 : Nat) (ad4 : Nat) (ad5 : Nat) (ad6 : Nat) (ad7 : Nat) (ad8 : Nat) (ad9 : Nat) (ad10 : Nat) (ad11 : Nat) (ad12 : Nat) (ad13 : Nat) (ad14 : Nat) (ad15 : Nat) (ad16 : Nat) (ad17 : Nat) (ad18 : Nat) (sz : Nat) : Met l yX9_edge wsX9_edge ({ frames := 1, cells := 0, slots := 0, locals := 21 }) (va_Pc [.ref ad0, .int vi0, .int vi1, .int vi2] (fun U => U.heap.size = sz ∧ va_P (dC, dI) vwCl [(ad0, .inr (9, [.ref ad1, .ref ad2, .ref ad3, .ref ad4, .ref ad5, .ref ad6, .ref ad7, .ref ad8, .int 0, .ref ad9, .ref ad10, .ref ad11, .ref ad12, .ref ad13])), (ad2, .inr (3, [.int 0, .int 0, .int 10, .int 0, .int 0, .int 1, .ref ad14, .ref ad15, .ref ad16, .ref ad17, .ref ad18]))] U.heap ∧ va_K (dC, dI) vwCl [] U ∧ va_D (fun _ => True) [(ad0, .inr (9, [.ref ad1, .ref ad2, .ref ad3, .ref ad4, .ref ad5, .ref ad6, .ref ad7, .ref ad8, .int 0, .ref ad9, .ref ad10, .ref ad11, .ref ad12, .ref ad13])), (ad2, .inr (3, [.int 0, .int 0, .int 10, .int 0, .int 0, .int 1, .ref ad14, .ref ad15, .ref ad16, .ref ad17, .ref ad18]))])) (va_Qi (fun (r : Int32) (_ : Unit) => r = (-2)) (fun _ _ => True) (va_A [(ad0, .inr (9, [.ref ad1, .ref ad2, .ref ad3, .ref ad4, .ref ad5, .ref ad6, .ref ad7, .ref ad8, .int 0, .ref ad9, .ref ad10, .ref ad11, .ref ad12, .ref ad13])), (ad2, .inr (3, [.int 0, .int 0, .int 10, .int 0, .int 0, .int 1, .ref ad14, .ref ad15, .ref ad16, .ref ad17, .ref ad18]))] sz)) 0 0 (va_A [(ad0, .inr (9, [.ref ad1, .ref ad2, .ref ad3, .ref ad4, .ref ad5, .ref ad6, .ref ad7, .ref ad8, .int 0, .ref ad9, .ref ad10, .ref ad11, .ref ad12, .ref ad13])), (ad2, .inr (3, [.int 0, .int 0, .int 10, .int 0, .int 0, .int 1, .ref ad14, .ref ad15, .ref ad16, .ref ad17, .ref ad18]))] sz) := by
  refine Met.ofW (cc := cX9_edge) (maxL := 11) (ret := (some .int)) (by decide) rfl ?_
  intro p e s m args below meth c s₁ B hml hv
  obtain ⟨rfl, hsz, hP, hK, hD0⟩ := hv
  have hx := B.exec
  have hb := B.bytes
  have hr := B.returns
  have hts := atoms_spec (ws := wsX9_edge) B.pre
  have hown : s.vm.findClass RX9 = some m.cls := findClass_of_methodNamed B.named
  have hlocks := B.notSynchronized
  subst hsz
  have hD := hD0.self (sz := s.heap.size)
  generalize hAe : va_A [(ad0, .inr (9, [.ref ad1, .ref ad2, .ref ad3, .ref ad4, .ref ad5, .ref ad6, .ref ad7, .ref ad8, .int 0, .ref ad9, .ref ad10, .ref ad11, .ref ad12, .ref ad13])), (ad2, .inr (3, [.int 0, .int 0, .int 10, .int 0, .int 0, .int 1, .ref ad14, .ref ad15, .ref ad16, .ref ad17, .ref ad18]))] s.heap.size = A at hD ⊢
  have hA : ∀ q : Nat, s.heap.size ≤ q → A q := fun q h => by rw [← hAe]; exact Or.inr h
  have hS : va_S A s.heap s.heap [] := va_S.rf
  have hP : va_P (dC, dI) vwCl [(ad0, .inr (9, [.ref ad1, .ref ad2, .ref ad3, .ref ad4, .ref ad5, .ref ad6, .ref ad7, .ref ad8, .int 0, .ref ad9, .ref ad10, .ref ad11, .ref ad12, .ref ad13])), (ad2, .inr (3, [.int 0, .int 0, .int 10, .int 0, .int 0, .int 1, .ref ad14, .ref ad15, .ref ad16, .ref ad17, .ref ad18]))] s.heap := hP
  have hl := lv_entry ([.ref ad0, .int vi0, .int vi1, .int vi2]) (n := 11) (Nat.le_of_ble_eq_true rfl)
  rw [lg_entry_eq]
  generalize (lg_sl ([.ref ad0, .int vi0, .int vi1, .int vi2]) ++ List.replicate (11 - (lg_sl ([.ref ad0, .int vi0, .int vi1, .int vi2])).length) Slot.unset).toArray = ls at hl ⊢
  have hl : lv_has ls 11 [(0, .ref ad0), (1, .int vi0), (2, .int vi1), (3, .int vi2)] := hl
  refine lv_aload_n hx hb dX9_edge_0 rfl (lv_at hl 0 rfl) ?_
  refine lv_iload_n hx hb dX9_edge_1 rfl (lv_at hl 1 rfl) ?_
  have hPc := hP.sub (ws' := [(ad0, .inr (9, [.ref ad1, .ref ad2, .ref ad3, .ref ad4, .ref ad5, .ref ad6, .ref ad7, .ref ad8, .int 0, .ref ad9, .ref ad10, .ref ad11, .ref ad12, .ref ad13])), (ad2, .inr (3, [.int 0, .int 0, .int 10, .int 0, .int 0, .int 1, .ref ad14, .ref ad15, .ref ad16, .ref ad17, .ref ad18]))]) [0, 1] rfl
  have hDc := hD.sub (ws' := [(ad0, .inr (9, [.ref ad1, .ref ad2, .ref ad3, .ref ad4, .ref ad5, .ref ad6, .ref ad7, .ref ad8, .int 0, .ref ad9, .ref ad10, .ref ad11, .ref ad12, .ref ad13])), (ad2, .inr (3, [.int 0, .int 0, .int 10, .int 0, .int 0, .int 1, .ref ad14, .ref ad15, .ref ad16, .ref ad17, .ref ad18]))]) [0, 1] (by decide) rfl
  have hKc := hK.sub (tys' := []) [] rfl
  have hFc := va_free (wc := [(ad0, .inr (9, [.ref ad1, .ref ad2, .ref ad3, .ref ad4, .ref ad5, .ref ad6, .ref ad7, .ref ad8, .int 0, .ref ad9, .ref ad10, .ref ad11, .ref ad12, .ref ad13])), (ad2, .inr (3, [.int 0, .int 0, .int 10, .int 0, .int 0, .int 1, .ref ad14, .ref ad15, .ref ad16, .ref ad17, .ref ad18]))]) hD hS hA [0, 1] rfl
  refine va_calli (va_runV (As := [.int vi0]) (rest := []) ⟨hx, hb, hml, hown, hts⟩ (ct_X9_isWork l dC dI ad0 vi0 ad1 ad2 ad3 ad4 ad5 ad6 ad7 ad8 ad9 ad10 ad11 ad12 ad13 ad14 ad15 ad16 ad17 ad18 s.heap.size) (cwV 1 hts gX9_edge_X9_isWork rfl rfl rfl (by decide +kernel) ⟨Nat.le_of_ble_eq_true rfl, Nat.le_of_ble_eq_true rfl⟩) ⟨fun a U g mk q => by obtain ⟨q0, q1, qP, qK, qD⟩ := q; exact ⟨q0, q1, qP, va_K.moved (u := U) (U := U.calling g mk a) (Vm.Alike.refl U.vm) qK, qD⟩, va_recv hKc hPc (ci := 9) (q0 := 0) rfl rfl, fun U hU hW => ⟨rfl, by rw [hU], by rw [hU]; exact hPc, va_K.moved hW.alike hKc, hDc.weaken (fun _ _ _ _ => trivial)⟩⟩ rfl rfl hl.1 rfl (lv_room (Nat.le_of_ble_eq_true rfl)) dX9_edge_2 ⟨Nat.le_of_ble_eq_true rfl, Nat.le_of_ble_eq_true rfl⟩) hS (fun q _ h => hFc q h) hFc (fun r1 u t H1 locs ht hvm hw hB hz1 hk1 hS => ?_)
  obtain ⟨hP1, hK1, hD1⟩ := hB
  rw [ht] at hP1
  have hK1 := va_K.moved hvm.symm hK1
  obtain ⟨hP, hD⟩ := va_join (wr := []) (w1 := [(ad0, .inr (9, [.ref ad1, .ref ad2, .ref ad3, .ref ad4, .ref ad5, .ref ad6, .ref ad7, .ref ad8, .int 0, .ref ad9, .ref ad10, .ref ad11, .ref ad12, .ref ad13])), (ad2, .inr (3, [.int 0, .int 0, .int 10, .int 0, .int 0, .int 1, .ref ad14, .ref ad15, .ref ad16, .ref ad17, .ref ad18]))]) hP hD [0, 1] [] rfl rfl (by decide) (by decide) hk1 hFc hP1 hD1
  have hK := (hK.sub (tys' := []) [] rfl).app hK1
  clear hPc hDc hKc hFc hP1 hD1 hK1 hk1 hz1
  generalize H1 = H at hP hS ⊢
  have hP : va_P (dC, dI) vwCl [(ad0, .inr (9, [.ref ad1, .ref ad2, .ref ad3, .ref ad4, .ref ad5, .ref ad6, .ref ad7, .ref ad8, .int 0, .ref ad9, .ref ad10, .ref ad11, .ref ad12, .ref ad13])), (ad2, .inr (3, [.int 0, .int 0, .int 10, .int 0, .int 0, .int 1, .ref ad14, .ref ad15, .ref ad16, .ref ad17, .ref ad18]))] H := hP
  have hD : va_D A [(ad0, .inr (9, [.ref ad1, .ref ad2, .ref ad3, .ref ad4, .ref ad5, .ref ad6, .ref ad7, .ref ad8, .int 0, .ref ad9, .ref ad10, .ref ad11, .ref ad12, .ref ad13])), (ad2, .inr (3, [.int 0, .int 0, .int 10, .int 0, .int 0, .int 1, .ref ad14, .ref ad15, .ref ad16, .ref ad17, .ref ad18]))] := hD
  have hK : va_K (dC, dI) vwCl [] s := hK
  refine W.widen (k := 0) (n := 0) (by decide) (by decide) ?_
  have hw : r1 = 0 := hw
  subst hw
  refine lv_if_eq (tgt := 17) hx hb dX9_edge_5 (by decide) (fun _ => ?_) (fun cz => absurd cz (by decide))
  refine lv_bipush (v := (-2)) hx hb dX9_edge_17 (by decide) ?_
  refine W.widen (k := 0) (n := 0) (by decide) (by decide) ?_
  exact W.iret (v := (-2)) hx hb hr (fun t ht hW => ⟨⟨(-2), (), rfl, rfl, trivial⟩, hS.F ht⟩) hS.2.2 dX9_edge_19

set_option maxHeartbeats 4000000 in
set_option maxRecDepth 100000 in
theorem ct_X9_ratio (l : Launch) (dC : Nat → ClassId) (dI : Nat → Nat → Nat) (ad0 : Nat) (vi0 : Int32) (vi1 : Int32) (ad1 : Nat) (ad2 : Nat) (ad3 : Nat) (ad4 : Nat) (ad5 : Nat) (ad6 : Nat) (ad7 : Nat) (ad8 : Nat) (ad9 : Nat) (ad10 : Nat) (ad11 : Nat) (ad12 : Nat) (ad13 : Nat) (ad14 : Nat) (ad15 : Nat) (ad16 : Nat) (ad17 : Nat) (ad18 : Nat) (sz : Nat) : Met l yX9_ratio wsX9_ratio ({ frames := 1, cells := 0, slots := 0, locals := 21 }) (va_Pc [.ref ad0, .int vi0, .int vi1] (fun U => U.heap.size = sz ∧ va_P (dC, dI) vwCl [(ad0, .inr (9, [.ref ad1, .ref ad2, .ref ad3, .ref ad4, .ref ad5, .ref ad6, .ref ad7, .ref ad8, .int 0, .ref ad9, .ref ad10, .ref ad11, .ref ad12, .ref ad13])), (ad2, .inr (3, [.int 0, .int 0, .int 10, .int 0, .int 0, .int 1, .ref ad14, .ref ad15, .ref ad16, .ref ad17, .ref ad18]))] U.heap ∧ va_K (dC, dI) vwCl [] U ∧ va_D (fun _ => True) [(ad0, .inr (9, [.ref ad1, .ref ad2, .ref ad3, .ref ad4, .ref ad5, .ref ad6, .ref ad7, .ref ad8, .int 0, .ref ad9, .ref ad10, .ref ad11, .ref ad12, .ref ad13])), (ad2, .inr (3, [.int 0, .int 0, .int 10, .int 0, .int 0, .int 1, .ref ad14, .ref ad15, .ref ad16, .ref ad17, .ref ad18]))])) (va_Qi (fun (r : Int32) (_ : Unit) => r = (-2)) (fun _ _ => True) (va_A [(ad0, .inr (9, [.ref ad1, .ref ad2, .ref ad3, .ref ad4, .ref ad5, .ref ad6, .ref ad7, .ref ad8, .int 0, .ref ad9, .ref ad10, .ref ad11, .ref ad12, .ref ad13])), (ad2, .inr (3, [.int 0, .int 0, .int 10, .int 0, .int 0, .int 1, .ref ad14, .ref ad15, .ref ad16, .ref ad17, .ref ad18]))] sz)) 0 0 (va_A [(ad0, .inr (9, [.ref ad1, .ref ad2, .ref ad3, .ref ad4, .ref ad5, .ref ad6, .ref ad7, .ref ad8, .int 0, .ref ad9, .ref ad10, .ref ad11, .ref ad12, .ref ad13])), (ad2, .inr (3, [.int 0, .int 0, .int 10, .int 0, .int 0, .int 1, .ref ad14, .ref ad15, .ref ad16, .ref ad17, .ref ad18]))] sz) := by
  refine Met.ofW (cc := cX9_ratio) (maxL := 8) (ret := (some .int)) (by decide) rfl ?_
  intro p e s m args below meth c s₁ B hml hv
  obtain ⟨rfl, hsz, hP, hK, hD0⟩ := hv
  have hx := B.exec
  have hb := B.bytes
  have hr := B.returns
  have hts := atoms_spec (ws := wsX9_ratio) B.pre
  have hown : s.vm.findClass RX9 = some m.cls := findClass_of_methodNamed B.named
  have hlocks := B.notSynchronized
  subst hsz
  have hD := hD0.self (sz := s.heap.size)
  generalize hAe : va_A [(ad0, .inr (9, [.ref ad1, .ref ad2, .ref ad3, .ref ad4, .ref ad5, .ref ad6, .ref ad7, .ref ad8, .int 0, .ref ad9, .ref ad10, .ref ad11, .ref ad12, .ref ad13])), (ad2, .inr (3, [.int 0, .int 0, .int 10, .int 0, .int 0, .int 1, .ref ad14, .ref ad15, .ref ad16, .ref ad17, .ref ad18]))] s.heap.size = A at hD ⊢
  have hA : ∀ q : Nat, s.heap.size ≤ q → A q := fun q h => by rw [← hAe]; exact Or.inr h
  have hS : va_S A s.heap s.heap [] := va_S.rf
  have hP : va_P (dC, dI) vwCl [(ad0, .inr (9, [.ref ad1, .ref ad2, .ref ad3, .ref ad4, .ref ad5, .ref ad6, .ref ad7, .ref ad8, .int 0, .ref ad9, .ref ad10, .ref ad11, .ref ad12, .ref ad13])), (ad2, .inr (3, [.int 0, .int 0, .int 10, .int 0, .int 0, .int 1, .ref ad14, .ref ad15, .ref ad16, .ref ad17, .ref ad18]))] s.heap := hP
  have hl := lv_entry ([.ref ad0, .int vi0, .int vi1]) (n := 8) (Nat.le_of_ble_eq_true rfl)
  rw [lg_entry_eq]
  generalize (lg_sl ([.ref ad0, .int vi0, .int vi1]) ++ List.replicate (8 - (lg_sl ([.ref ad0, .int vi0, .int vi1])).length) Slot.unset).toArray = ls at hl ⊢
  have hl : lv_has ls 8 [(0, .ref ad0), (1, .int vi0), (2, .int vi1)] := hl
  refine lv_aload_n hx hb dX9_ratio_0 rfl (lv_at hl 0 rfl) ?_
  refine lv_iload_n hx hb dX9_ratio_1 rfl (lv_at hl 1 rfl) ?_
  have hPc := hP.sub (ws' := [(ad0, .inr (9, [.ref ad1, .ref ad2, .ref ad3, .ref ad4, .ref ad5, .ref ad6, .ref ad7, .ref ad8, .int 0, .ref ad9, .ref ad10, .ref ad11, .ref ad12, .ref ad13])), (ad2, .inr (3, [.int 0, .int 0, .int 10, .int 0, .int 0, .int 1, .ref ad14, .ref ad15, .ref ad16, .ref ad17, .ref ad18]))]) [0, 1] rfl
  have hDc := hD.sub (ws' := [(ad0, .inr (9, [.ref ad1, .ref ad2, .ref ad3, .ref ad4, .ref ad5, .ref ad6, .ref ad7, .ref ad8, .int 0, .ref ad9, .ref ad10, .ref ad11, .ref ad12, .ref ad13])), (ad2, .inr (3, [.int 0, .int 0, .int 10, .int 0, .int 0, .int 1, .ref ad14, .ref ad15, .ref ad16, .ref ad17, .ref ad18]))]) [0, 1] (by decide) rfl
  have hKc := hK.sub (tys' := []) [] rfl
  have hFc := va_free (wc := [(ad0, .inr (9, [.ref ad1, .ref ad2, .ref ad3, .ref ad4, .ref ad5, .ref ad6, .ref ad7, .ref ad8, .int 0, .ref ad9, .ref ad10, .ref ad11, .ref ad12, .ref ad13])), (ad2, .inr (3, [.int 0, .int 0, .int 10, .int 0, .int 0, .int 1, .ref ad14, .ref ad15, .ref ad16, .ref ad17, .ref ad18]))]) hD hS hA [0, 1] rfl
  refine va_calli (va_runV (As := [.int vi0]) (rest := []) ⟨hx, hb, hml, hown, hts⟩ (ct_X9_isWork l dC dI ad0 vi0 ad1 ad2 ad3 ad4 ad5 ad6 ad7 ad8 ad9 ad10 ad11 ad12 ad13 ad14 ad15 ad16 ad17 ad18 s.heap.size) (cwV 1 hts gX9_ratio_X9_isWork rfl rfl rfl (by decide +kernel) ⟨Nat.le_of_ble_eq_true rfl, Nat.le_of_ble_eq_true rfl⟩) ⟨fun a U g mk q => by obtain ⟨q0, q1, qP, qK, qD⟩ := q; exact ⟨q0, q1, qP, va_K.moved (u := U) (U := U.calling g mk a) (Vm.Alike.refl U.vm) qK, qD⟩, va_recv hKc hPc (ci := 9) (q0 := 0) rfl rfl, fun U hU hW => ⟨rfl, by rw [hU], by rw [hU]; exact hPc, va_K.moved hW.alike hKc, hDc.weaken (fun _ _ _ _ => trivial)⟩⟩ rfl rfl hl.1 rfl (lv_room (Nat.le_of_ble_eq_true rfl)) dX9_ratio_2 ⟨Nat.le_of_ble_eq_true rfl, Nat.le_of_ble_eq_true rfl⟩) hS (fun q _ h => hFc q h) hFc (fun r1 u t H1 locs ht hvm hw hB hz1 hk1 hS => ?_)
  obtain ⟨hP1, hK1, hD1⟩ := hB
  rw [ht] at hP1
  have hK1 := va_K.moved hvm.symm hK1
  obtain ⟨hP, hD⟩ := va_join (wr := []) (w1 := [(ad0, .inr (9, [.ref ad1, .ref ad2, .ref ad3, .ref ad4, .ref ad5, .ref ad6, .ref ad7, .ref ad8, .int 0, .ref ad9, .ref ad10, .ref ad11, .ref ad12, .ref ad13])), (ad2, .inr (3, [.int 0, .int 0, .int 10, .int 0, .int 0, .int 1, .ref ad14, .ref ad15, .ref ad16, .ref ad17, .ref ad18]))]) hP hD [0, 1] [] rfl rfl (by decide) (by decide) hk1 hFc hP1 hD1
  have hK := (hK.sub (tys' := []) [] rfl).app hK1
  clear hPc hDc hKc hFc hP1 hD1 hK1 hk1 hz1
  generalize H1 = H at hP hS ⊢
  have hP : va_P (dC, dI) vwCl [(ad0, .inr (9, [.ref ad1, .ref ad2, .ref ad3, .ref ad4, .ref ad5, .ref ad6, .ref ad7, .ref ad8, .int 0, .ref ad9, .ref ad10, .ref ad11, .ref ad12, .ref ad13])), (ad2, .inr (3, [.int 0, .int 0, .int 10, .int 0, .int 0, .int 1, .ref ad14, .ref ad15, .ref ad16, .ref ad17, .ref ad18]))] H := hP
  have hD : va_D A [(ad0, .inr (9, [.ref ad1, .ref ad2, .ref ad3, .ref ad4, .ref ad5, .ref ad6, .ref ad7, .ref ad8, .int 0, .ref ad9, .ref ad10, .ref ad11, .ref ad12, .ref ad13])), (ad2, .inr (3, [.int 0, .int 0, .int 10, .int 0, .int 0, .int 1, .ref ad14, .ref ad15, .ref ad16, .ref ad17, .ref ad18]))] := hD
  have hK : va_K (dC, dI) vwCl [] s := hK
  refine W.widen (k := 0) (n := 0) (by decide) (by decide) ?_
  have hw : r1 = 0 := hw
  subst hw
  refine lv_if_eq (tgt := 16) hx hb dX9_ratio_5 (by decide) (fun _ => ?_) (fun cz => absurd cz (by decide))
  refine lv_bipush (v := (-2)) hx hb dX9_ratio_16 (by decide) ?_
  refine W.widen (k := 0) (n := 0) (by decide) (by decide) ?_
  exact W.iret (v := (-2)) hx hb hr (fun t ht hW => ⟨⟨(-2), (), rfl, rfl, trivial⟩, hS.F ht⟩) hS.2.2 dX9_ratio_18

set_option maxHeartbeats 4000000 in
set_option maxRecDepth 100000 in
theorem ct_X9_rises (l : Launch) (dC : Nat → ClassId) (dI : Nat → Nat → Nat) (ad0 : Nat) (vi0 : Int32) (ad1 : Nat) (ad2 : Nat) (ad3 : Nat) (ad4 : Nat) (ad5 : Nat) (ad6 : Nat) (ad7 : Nat) (ad8 : Nat) (ad9 : Nat) (ad10 : Nat) (ad11 : Nat) (ad12 : Nat) (ad13 : Nat) (ad14 : Nat) (ad15 : Nat) (ad16 : Nat) (ad17 : Nat) (ad18 : Nat) (sz : Nat) : Met l yX9_rises wsX9_rises ({ frames := 1, cells := 0, slots := 0, locals := 21 }) (va_Pc [.ref ad0, .int vi0] (fun U => U.heap.size = sz ∧ va_P (dC, dI) vwCl [(ad0, .inr (9, [.ref ad1, .ref ad2, .ref ad3, .ref ad4, .ref ad5, .ref ad6, .ref ad7, .ref ad8, .int 0, .ref ad9, .ref ad10, .ref ad11, .ref ad12, .ref ad13])), (ad2, .inr (3, [.int 0, .int 0, .int 10, .int 0, .int 0, .int 1, .ref ad14, .ref ad15, .ref ad16, .ref ad17, .ref ad18]))] U.heap ∧ va_K (dC, dI) vwCl [] U ∧ va_D (fun _ => True) [(ad0, .inr (9, [.ref ad1, .ref ad2, .ref ad3, .ref ad4, .ref ad5, .ref ad6, .ref ad7, .ref ad8, .int 0, .ref ad9, .ref ad10, .ref ad11, .ref ad12, .ref ad13])), (ad2, .inr (3, [.int 0, .int 0, .int 10, .int 0, .int 0, .int 1, .ref ad14, .ref ad15, .ref ad16, .ref ad17, .ref ad18]))])) (va_Qi (fun (r : Int32) (_ : Unit) => r = (-2)) (fun _ _ => True) (va_A [(ad0, .inr (9, [.ref ad1, .ref ad2, .ref ad3, .ref ad4, .ref ad5, .ref ad6, .ref ad7, .ref ad8, .int 0, .ref ad9, .ref ad10, .ref ad11, .ref ad12, .ref ad13])), (ad2, .inr (3, [.int 0, .int 0, .int 10, .int 0, .int 0, .int 1, .ref ad14, .ref ad15, .ref ad16, .ref ad17, .ref ad18]))] sz)) 0 0 (va_A [(ad0, .inr (9, [.ref ad1, .ref ad2, .ref ad3, .ref ad4, .ref ad5, .ref ad6, .ref ad7, .ref ad8, .int 0, .ref ad9, .ref ad10, .ref ad11, .ref ad12, .ref ad13])), (ad2, .inr (3, [.int 0, .int 0, .int 10, .int 0, .int 0, .int 1, .ref ad14, .ref ad15, .ref ad16, .ref ad17, .ref ad18]))] sz) := by
  refine Met.ofW (cc := cX9_rises) (maxL := 4) (ret := (some .int)) (by decide) rfl ?_
  intro p e s m args below meth c s₁ B hml hv
  obtain ⟨rfl, hsz, hP, hK, hD0⟩ := hv
  have hx := B.exec
  have hb := B.bytes
  have hr := B.returns
  have hts := atoms_spec (ws := wsX9_rises) B.pre
  have hown : s.vm.findClass RX9 = some m.cls := findClass_of_methodNamed B.named
  have hlocks := B.notSynchronized
  subst hsz
  have hD := hD0.self (sz := s.heap.size)
  generalize hAe : va_A [(ad0, .inr (9, [.ref ad1, .ref ad2, .ref ad3, .ref ad4, .ref ad5, .ref ad6, .ref ad7, .ref ad8, .int 0, .ref ad9, .ref ad10, .ref ad11, .ref ad12, .ref ad13])), (ad2, .inr (3, [.int 0, .int 0, .int 10, .int 0, .int 0, .int 1, .ref ad14, .ref ad15, .ref ad16, .ref ad17, .ref ad18]))] s.heap.size = A at hD ⊢
  have hA : ∀ q : Nat, s.heap.size ≤ q → A q := fun q h => by rw [← hAe]; exact Or.inr h
  have hS : va_S A s.heap s.heap [] := va_S.rf
  have hP : va_P (dC, dI) vwCl [(ad0, .inr (9, [.ref ad1, .ref ad2, .ref ad3, .ref ad4, .ref ad5, .ref ad6, .ref ad7, .ref ad8, .int 0, .ref ad9, .ref ad10, .ref ad11, .ref ad12, .ref ad13])), (ad2, .inr (3, [.int 0, .int 0, .int 10, .int 0, .int 0, .int 1, .ref ad14, .ref ad15, .ref ad16, .ref ad17, .ref ad18]))] s.heap := hP
  have hl := lv_entry ([.ref ad0, .int vi0]) (n := 4) (Nat.le_of_ble_eq_true rfl)
  rw [lg_entry_eq]
  generalize (lg_sl ([.ref ad0, .int vi0]) ++ List.replicate (4 - (lg_sl ([.ref ad0, .int vi0])).length) Slot.unset).toArray = ls at hl ⊢
  have hl : lv_has ls 4 [(0, .ref ad0), (1, .int vi0)] := hl
  refine lv_aload_n hx hb dX9_rises_0 rfl (lv_at hl 0 rfl) ?_
  refine lv_iload_n hx hb dX9_rises_1 rfl (lv_at hl 1 rfl) ?_
  have hPc := hP.sub (ws' := [(ad0, .inr (9, [.ref ad1, .ref ad2, .ref ad3, .ref ad4, .ref ad5, .ref ad6, .ref ad7, .ref ad8, .int 0, .ref ad9, .ref ad10, .ref ad11, .ref ad12, .ref ad13])), (ad2, .inr (3, [.int 0, .int 0, .int 10, .int 0, .int 0, .int 1, .ref ad14, .ref ad15, .ref ad16, .ref ad17, .ref ad18]))]) [0, 1] rfl
  have hDc := hD.sub (ws' := [(ad0, .inr (9, [.ref ad1, .ref ad2, .ref ad3, .ref ad4, .ref ad5, .ref ad6, .ref ad7, .ref ad8, .int 0, .ref ad9, .ref ad10, .ref ad11, .ref ad12, .ref ad13])), (ad2, .inr (3, [.int 0, .int 0, .int 10, .int 0, .int 0, .int 1, .ref ad14, .ref ad15, .ref ad16, .ref ad17, .ref ad18]))]) [0, 1] (by decide) rfl
  have hKc := hK.sub (tys' := []) [] rfl
  have hFc := va_free (wc := [(ad0, .inr (9, [.ref ad1, .ref ad2, .ref ad3, .ref ad4, .ref ad5, .ref ad6, .ref ad7, .ref ad8, .int 0, .ref ad9, .ref ad10, .ref ad11, .ref ad12, .ref ad13])), (ad2, .inr (3, [.int 0, .int 0, .int 10, .int 0, .int 0, .int 1, .ref ad14, .ref ad15, .ref ad16, .ref ad17, .ref ad18]))]) hD hS hA [0, 1] rfl
  refine va_calli (va_runV (As := [.int vi0]) (rest := []) ⟨hx, hb, hml, hown, hts⟩ (ct_X9_isWork l dC dI ad0 vi0 ad1 ad2 ad3 ad4 ad5 ad6 ad7 ad8 ad9 ad10 ad11 ad12 ad13 ad14 ad15 ad16 ad17 ad18 s.heap.size) (cwV 1 hts gX9_rises_X9_isWork rfl rfl rfl (by decide +kernel) ⟨Nat.le_of_ble_eq_true rfl, Nat.le_of_ble_eq_true rfl⟩) ⟨fun a U g mk q => by obtain ⟨q0, q1, qP, qK, qD⟩ := q; exact ⟨q0, q1, qP, va_K.moved (u := U) (U := U.calling g mk a) (Vm.Alike.refl U.vm) qK, qD⟩, va_recv hKc hPc (ci := 9) (q0 := 0) rfl rfl, fun U hU hW => ⟨rfl, by rw [hU], by rw [hU]; exact hPc, va_K.moved hW.alike hKc, hDc.weaken (fun _ _ _ _ => trivial)⟩⟩ rfl rfl hl.1 rfl (lv_room (Nat.le_of_ble_eq_true rfl)) dX9_rises_2 ⟨Nat.le_of_ble_eq_true rfl, Nat.le_of_ble_eq_true rfl⟩) hS (fun q _ h => hFc q h) hFc (fun r1 u t H1 locs ht hvm hw hB hz1 hk1 hS => ?_)
  obtain ⟨hP1, hK1, hD1⟩ := hB
  rw [ht] at hP1
  have hK1 := va_K.moved hvm.symm hK1
  obtain ⟨hP, hD⟩ := va_join (wr := []) (w1 := [(ad0, .inr (9, [.ref ad1, .ref ad2, .ref ad3, .ref ad4, .ref ad5, .ref ad6, .ref ad7, .ref ad8, .int 0, .ref ad9, .ref ad10, .ref ad11, .ref ad12, .ref ad13])), (ad2, .inr (3, [.int 0, .int 0, .int 10, .int 0, .int 0, .int 1, .ref ad14, .ref ad15, .ref ad16, .ref ad17, .ref ad18]))]) hP hD [0, 1] [] rfl rfl (by decide) (by decide) hk1 hFc hP1 hD1
  have hK := (hK.sub (tys' := []) [] rfl).app hK1
  clear hPc hDc hKc hFc hP1 hD1 hK1 hk1 hz1
  generalize H1 = H at hP hS ⊢
  have hP : va_P (dC, dI) vwCl [(ad0, .inr (9, [.ref ad1, .ref ad2, .ref ad3, .ref ad4, .ref ad5, .ref ad6, .ref ad7, .ref ad8, .int 0, .ref ad9, .ref ad10, .ref ad11, .ref ad12, .ref ad13])), (ad2, .inr (3, [.int 0, .int 0, .int 10, .int 0, .int 0, .int 1, .ref ad14, .ref ad15, .ref ad16, .ref ad17, .ref ad18]))] H := hP
  have hD : va_D A [(ad0, .inr (9, [.ref ad1, .ref ad2, .ref ad3, .ref ad4, .ref ad5, .ref ad6, .ref ad7, .ref ad8, .int 0, .ref ad9, .ref ad10, .ref ad11, .ref ad12, .ref ad13])), (ad2, .inr (3, [.int 0, .int 0, .int 10, .int 0, .int 0, .int 1, .ref ad14, .ref ad15, .ref ad16, .ref ad17, .ref ad18]))] := hD
  have hK : va_K (dC, dI) vwCl [] s := hK
  refine W.widen (k := 0) (n := 0) (by decide) (by decide) ?_
  have hw : r1 = 0 := hw
  subst hw
  refine lv_if_ne (tgt := 11) hx hb dX9_rises_5 (by decide) (fun cz => absurd cz (by decide)) (fun _ => ?_)
  refine lv_bipush (v := (-2)) hx hb dX9_rises_8 (by decide) ?_
  refine W.widen (k := 0) (n := 0) (by decide) (by decide) ?_
  exact W.iret (v := (-2)) hx hb hr (fun t ht hW => ⟨⟨(-2), (), rfl, rfl, trivial⟩, hS.F ht⟩) hS.2.2 dX9_rises_10

set_option maxHeartbeats 4000000 in
set_option maxRecDepth 100000 in
theorem ct_X1_canTell (l : Launch) (dC : Nat → ClassId) (dI : Nat → Nat → Nat) (ad0 : Nat) (vi0 : Int32) (ad1 : Nat) (ad2 : Nat) (ad3 : Nat) (ad4 : Nat) (ad5 : Nat) (ad6 : Nat) (sz : Nat) : Met l yX1_canTell wsX1_canTell ({ frames := 0, cells := 0, slots := 0, locals := 0 }) (va_Pc [.ref ad0, .int vi0] (fun U => U.heap.size = sz ∧ va_P (dC, dI) vwCl [(ad0, .inr (1, [.int 0, .int 0, .int 0, .ref ad1, .ref ad2, .ref ad3, .ref ad4, .ref ad5, .ref ad6]))] U.heap ∧ va_K (dC, dI) vwCl [] U ∧ va_D (fun _ => True) [(ad0, .inr (1, [.int 0, .int 0, .int 0, .ref ad1, .ref ad2, .ref ad3, .ref ad4, .ref ad5, .ref ad6]))])) (va_Qi (fun (r : Int32) (_ : Unit) => r = sp_rng vi0 0 999) (fun _ t => va_P (dC, dI) vwCl [(ad0, .inr (1, [.int 0, .int 0, .int 0, .ref ad1, .ref ad2, .ref ad3, .ref ad4, .ref ad5, .ref ad6]))] t.heap ∧ va_K (dC, dI) vwCl [] t ∧ va_D (va_A [(ad0, .inr (1, [.int 0, .int 0, .int 0, .ref ad1, .ref ad2, .ref ad3, .ref ad4, .ref ad5, .ref ad6]))] sz) [(ad0, .inr (1, [.int 0, .int 0, .int 0, .ref ad1, .ref ad2, .ref ad3, .ref ad4, .ref ad5, .ref ad6]))]) (va_A [(ad0, .inr (1, [.int 0, .int 0, .int 0, .ref ad1, .ref ad2, .ref ad3, .ref ad4, .ref ad5, .ref ad6]))] sz)) 0 0 (va_A [(ad0, .inr (1, [.int 0, .int 0, .int 0, .ref ad1, .ref ad2, .ref ad3, .ref ad4, .ref ad5, .ref ad6]))] sz) := by
  refine Met.ofW (cc := cX1_canTell) (maxL := 2) (ret := (some .boolean)) (by decide) rfl ?_
  intro p e s m args below meth c s₁ B hml hv
  obtain ⟨rfl, hsz, hP, hK, hD0⟩ := hv
  have hx := B.exec
  have hb := B.bytes
  have hr := B.returns
  have hts := atoms_spec (ws := wsX1_canTell) B.pre
  have hown : s.vm.findClass RX1 = some m.cls := findClass_of_methodNamed B.named
  have hlocks := B.notSynchronized
  subst hsz
  have hD := hD0.self (sz := s.heap.size)
  generalize hAe : va_A [(ad0, .inr (1, [.int 0, .int 0, .int 0, .ref ad1, .ref ad2, .ref ad3, .ref ad4, .ref ad5, .ref ad6]))] s.heap.size = A at hD ⊢
  have hA : ∀ q : Nat, s.heap.size ≤ q → A q := fun q h => by rw [← hAe]; exact Or.inr h
  have hS : va_S A s.heap s.heap [] := va_S.rf
  have hP : va_P (dC, dI) vwCl [(ad0, .inr (1, [.int 0, .int 0, .int 0, .ref ad1, .ref ad2, .ref ad3, .ref ad4, .ref ad5, .ref ad6]))] s.heap := hP
  have hl := lv_entry ([.ref ad0, .int vi0]) (n := 2) (Nat.le_of_ble_eq_true rfl)
  rw [lg_entry_eq]
  generalize (lg_sl ([.ref ad0, .int vi0]) ++ List.replicate (2 - (lg_sl ([.ref ad0, .int vi0])).length) Slot.unset).toArray = ls at hl ⊢
  have hl : lv_has ls 2 [(0, .ref ad0), (1, .int vi0)] := hl
  refine lv_iload_n hx hb dX1_canTell_0 rfl (lv_at hl 1 rfl) ?_
  refine lv_aload_n hx hb dX1_canTell_1 rfl (lv_at hl 0 rfl) ?_
  refine va_get (D := (dC, dI)) (ci := 1) (v := .int 0) (C := RX1) (T := TX1) (N := 9) hx hb hts iw_X1_canTell_X1 hown hK hP 0 rfl rfl 2 (by decide) (hts _ kk_X1_canTell_0) (fun _ h9 => h9) rfl dX1_canTell_2 ?_
  refine lv_icmp_lt (tgt := 19) hx hb dX1_canTell_5 (by decide) (fun c1 => ?_) (fun c1 => ?_)
  · refine lv_iconst (v := 0) hx hb dX1_canTell_19 (by decide) ?_
    refine W.widen (k := 0) (n := 0) (by decide) (by decide) ?_
    have hP9 := hP.sub (ws' := [(ad0, .inr (1, [.int 0, .int 0, .int 0, .ref ad1, .ref ad2, .ref ad3, .ref ad4, .ref ad5, .ref ad6]))]) [0] rfl
    have hD9 := hD.sub (ws' := [(ad0, .inr (1, [.int 0, .int 0, .int 0, .ref ad1, .ref ad2, .ref ad3, .ref ad4, .ref ad5, .ref ad6]))]) [0] (by decide) rfl
    have hK9 := hK.sub (tys' := []) [] rfl
    exact W.zret (v := 0) hx hb hr rfl (fun t ht hW => ⟨⟨0, (), rfl, (by simp [sp_rng, c1]), by rw [ht]; exact hP9, va_K.moved hW.alike hK9, hD9⟩, hS.F ht⟩) hS.2.2 dX1_canTell_20
  · refine lv_iload_n hx hb dX1_canTell_8 rfl (lv_at hl 1 rfl) ?_
    refine lv_sipush (v := 999) hx hb dX1_canTell_9 (by decide) ?_
    refine lv_icmp_gt (tgt := 19) hx hb dX1_canTell_12 (by decide) (fun c2 => ?_) (fun c2 => ?_)
    · refine lv_iconst (v := 0) hx hb dX1_canTell_19 (by decide) ?_
      refine W.widen (k := 0) (n := 0) (by decide) (by decide) ?_
      have hP9 := hP.sub (ws' := [(ad0, .inr (1, [.int 0, .int 0, .int 0, .ref ad1, .ref ad2, .ref ad3, .ref ad4, .ref ad5, .ref ad6]))]) [0] rfl
      have hD9 := hD.sub (ws' := [(ad0, .inr (1, [.int 0, .int 0, .int 0, .ref ad1, .ref ad2, .ref ad3, .ref ad4, .ref ad5, .ref ad6]))]) [0] (by decide) rfl
      have hK9 := hK.sub (tys' := []) [] rfl
      exact W.zret (v := 0) hx hb hr rfl (fun t ht hW => ⟨⟨0, (), rfl, (by simp [sp_rng, c1, c2]), by rw [ht]; exact hP9, va_K.moved hW.alike hK9, hD9⟩, hS.F ht⟩) hS.2.2 dX1_canTell_20
    · refine lv_iconst (v := 1) hx hb dX1_canTell_15 (by decide) ?_
      refine lv_goto (tgt := 20) hx hb dX1_canTell_16 (by decide) ?_
      refine W.widen (k := 0) (n := 0) (by decide) (by decide) ?_
      have hP9 := hP.sub (ws' := [(ad0, .inr (1, [.int 0, .int 0, .int 0, .ref ad1, .ref ad2, .ref ad3, .ref ad4, .ref ad5, .ref ad6]))]) [0] rfl
      have hD9 := hD.sub (ws' := [(ad0, .inr (1, [.int 0, .int 0, .int 0, .ref ad1, .ref ad2, .ref ad3, .ref ad4, .ref ad5, .ref ad6]))]) [0] (by decide) rfl
      have hK9 := hK.sub (tys' := []) [] rfl
      exact W.zret (v := 1) hx hb hr rfl (fun t ht hW => ⟨⟨1, (), rfl, (by simp [sp_rng, c1, c2]), by rw [ht]; exact hP9, va_K.moved hW.alike hK9, hD9⟩, hS.F ht⟩) hS.2.2 dX1_canTell_20

set_option maxHeartbeats 4000000 in
set_option maxRecDepth 100000 in
theorem ct_X9_see (l : Launch) (dC : Nat → ClassId) (dI : Nat → Nat → Nat) (ad0 : Nat) (vi0 : Int32) (vi1 : Int32) (ad1 : Nat) (ad2 : Nat) (ad3 : Nat) (ad4 : Nat) (ad5 : Nat) (ad6 : Nat) (ad7 : Nat) (ad8 : Nat) (ad9 : Nat) (ad10 : Nat) (ad11 : Nat) (ad12 : Nat) (ad13 : Nat) (ad14 : Nat) (ad15 : Nat) (ad16 : Nat) (ad17 : Nat) (ad18 : Nat) (ad19 : Nat) (ad20 : Nat) (ad21 : Nat) (ad22 : Nat) (ad23 : Nat) (ad24 : Nat) (sz : Nat) : Met l yX9_see wsX9_see ({ frames := 1, cells := 0, slots := 0, locals := 21 }) (va_Pc [.ref ad0, .int vi0, .int vi1] (fun U => U.heap.size = sz ∧ va_P (dC, dI) vwCl [(ad0, .inr (9, [.ref ad1, .ref ad2, .ref ad3, .ref ad4, .ref ad5, .ref ad6, .ref ad7, .ref ad8, .int 0, .ref ad9, .ref ad10, .ref ad11, .ref ad12, .ref ad13])), (ad2, .inr (3, [.int 0, .int 0, .int 10, .int 0, .int 0, .int 1, .ref ad14, .ref ad15, .ref ad16, .ref ad17, .ref ad18])), (ad13, .inr (1, [.int 0, .int 0, .int 0, .ref ad19, .ref ad20, .ref ad21, .ref ad22, .ref ad23, .ref ad24]))] U.heap ∧ va_K (dC, dI) vwCl [] U ∧ va_D (fun _ => True) [(ad0, .inr (9, [.ref ad1, .ref ad2, .ref ad3, .ref ad4, .ref ad5, .ref ad6, .ref ad7, .ref ad8, .int 0, .ref ad9, .ref ad10, .ref ad11, .ref ad12, .ref ad13])), (ad2, .inr (3, [.int 0, .int 0, .int 10, .int 0, .int 0, .int 1, .ref ad14, .ref ad15, .ref ad16, .ref ad17, .ref ad18])), (ad13, .inr (1, [.int 0, .int 0, .int 0, .ref ad19, .ref ad20, .ref ad21, .ref ad22, .ref ad23, .ref ad24]))])) (va_Qi (fun (r : Int32) (_ : Unit) => r = (-2)) (fun _ _ => True) (va_A [(ad0, .inr (9, [.ref ad1, .ref ad2, .ref ad3, .ref ad4, .ref ad5, .ref ad6, .ref ad7, .ref ad8, .int 0, .ref ad9, .ref ad10, .ref ad11, .ref ad12, .ref ad13])), (ad2, .inr (3, [.int 0, .int 0, .int 10, .int 0, .int 0, .int 1, .ref ad14, .ref ad15, .ref ad16, .ref ad17, .ref ad18])), (ad13, .inr (1, [.int 0, .int 0, .int 0, .ref ad19, .ref ad20, .ref ad21, .ref ad22, .ref ad23, .ref ad24]))] sz)) 0 0 (va_A [(ad0, .inr (9, [.ref ad1, .ref ad2, .ref ad3, .ref ad4, .ref ad5, .ref ad6, .ref ad7, .ref ad8, .int 0, .ref ad9, .ref ad10, .ref ad11, .ref ad12, .ref ad13])), (ad2, .inr (3, [.int 0, .int 0, .int 10, .int 0, .int 0, .int 1, .ref ad14, .ref ad15, .ref ad16, .ref ad17, .ref ad18])), (ad13, .inr (1, [.int 0, .int 0, .int 0, .ref ad19, .ref ad20, .ref ad21, .ref ad22, .ref ad23, .ref ad24]))] sz) := by
  refine Met.ofW (cc := cX9_see) (maxL := 3) (ret := (some .int)) (by decide) rfl ?_
  intro p e s m args below meth c s₁ B hml hv
  obtain ⟨rfl, hsz, hP, hK, hD0⟩ := hv
  have hx := B.exec
  have hb := B.bytes
  have hr := B.returns
  have hts := atoms_spec (ws := wsX9_see) B.pre
  have hown : s.vm.findClass RX9 = some m.cls := findClass_of_methodNamed B.named
  have hlocks := B.notSynchronized
  subst hsz
  have hD := hD0.self (sz := s.heap.size)
  generalize hAe : va_A [(ad0, .inr (9, [.ref ad1, .ref ad2, .ref ad3, .ref ad4, .ref ad5, .ref ad6, .ref ad7, .ref ad8, .int 0, .ref ad9, .ref ad10, .ref ad11, .ref ad12, .ref ad13])), (ad2, .inr (3, [.int 0, .int 0, .int 10, .int 0, .int 0, .int 1, .ref ad14, .ref ad15, .ref ad16, .ref ad17, .ref ad18])), (ad13, .inr (1, [.int 0, .int 0, .int 0, .ref ad19, .ref ad20, .ref ad21, .ref ad22, .ref ad23, .ref ad24]))] s.heap.size = A at hD ⊢
  have hA : ∀ q : Nat, s.heap.size ≤ q → A q := fun q h => by rw [← hAe]; exact Or.inr h
  have hS : va_S A s.heap s.heap [] := va_S.rf
  have hP : va_P (dC, dI) vwCl [(ad0, .inr (9, [.ref ad1, .ref ad2, .ref ad3, .ref ad4, .ref ad5, .ref ad6, .ref ad7, .ref ad8, .int 0, .ref ad9, .ref ad10, .ref ad11, .ref ad12, .ref ad13])), (ad2, .inr (3, [.int 0, .int 0, .int 10, .int 0, .int 0, .int 1, .ref ad14, .ref ad15, .ref ad16, .ref ad17, .ref ad18])), (ad13, .inr (1, [.int 0, .int 0, .int 0, .ref ad19, .ref ad20, .ref ad21, .ref ad22, .ref ad23, .ref ad24]))] s.heap := hP
  have hl := lv_entry ([.ref ad0, .int vi0, .int vi1]) (n := 3) (Nat.le_of_ble_eq_true rfl)
  rw [lg_entry_eq]
  generalize (lg_sl ([.ref ad0, .int vi0, .int vi1]) ++ List.replicate (3 - (lg_sl ([.ref ad0, .int vi0, .int vi1])).length) Slot.unset).toArray = ls at hl ⊢
  have hl : lv_has ls 3 [(0, .ref ad0), (1, .int vi0), (2, .int vi1)] := hl
  refine lv_aload_n hx hb dX9_see_0 rfl (lv_at hl 0 rfl) ?_
  refine va_get (D := (dC, dI)) (ci := 9) (v := .ref ad13) (C := RX9) (T := TX9) (N := 14) hx hb hts iw_X9_see_X9 hown hK hP 0 rfl rfl 13 (by decide) (hts _ kk_X9_see_0) (fun _ h9 => h9) rfl dX9_see_1 ?_
  refine lv_iload_n hx hb dX9_see_4 rfl (lv_at hl 1 rfl) ?_
  have hPc := hP.sub (ws' := [(ad13, .inr (1, [.int 0, .int 0, .int 0, .ref ad19, .ref ad20, .ref ad21, .ref ad22, .ref ad23, .ref ad24]))]) [2] rfl
  have hDc := hD.sub (ws' := [(ad13, .inr (1, [.int 0, .int 0, .int 0, .ref ad19, .ref ad20, .ref ad21, .ref ad22, .ref ad23, .ref ad24]))]) [2] (by decide) rfl
  have hKc := hK.sub (tys' := []) [] rfl
  have hFc := va_free (wc := [(ad13, .inr (1, [.int 0, .int 0, .int 0, .ref ad19, .ref ad20, .ref ad21, .ref ad22, .ref ad23, .ref ad24]))]) hD hS hA [2] rfl
  refine va_calli (va_runV (As := [.int vi0]) (rest := []) ⟨hx, hb, hml, hown, hts⟩ (ct_X1_canTell l dC dI ad13 vi0 ad19 ad20 ad21 ad22 ad23 ad24 s.heap.size) (cwV 1 hts gX9_see_X1_canTell rfl rfl rfl (by decide +kernel) ⟨Nat.le_of_ble_eq_true rfl, Nat.le_of_ble_eq_true rfl⟩) ⟨fun a U g mk q => by obtain ⟨q0, q1, qP, qK, qD⟩ := q; exact ⟨q0, q1, qP, va_K.moved (u := U) (U := U.calling g mk a) (Vm.Alike.refl U.vm) qK, qD⟩, va_recv hKc hPc (ci := 1) (q0 := 0) rfl rfl, fun U hU hW => ⟨rfl, by rw [hU], by rw [hU]; exact hPc, va_K.moved hW.alike hKc, hDc.weaken (fun _ _ _ _ => trivial)⟩⟩ rfl rfl hl.1 rfl (lv_room (Nat.le_of_ble_eq_true rfl)) dX9_see_5 ⟨Nat.le_of_ble_eq_true rfl, Nat.le_of_ble_eq_true rfl⟩) hS (fun q _ h => hFc q h) hFc (fun r1 u t H1 locs ht hvm hw hB hz1 hk1 hS => ?_)
  obtain ⟨hP1, hK1, hD1⟩ := hB
  rw [ht] at hP1
  have hK1 := va_K.moved hvm.symm hK1
  obtain ⟨hP, hD⟩ := va_join (wr := [(ad0, .inr (9, [.ref ad1, .ref ad2, .ref ad3, .ref ad4, .ref ad5, .ref ad6, .ref ad7, .ref ad8, .int 0, .ref ad9, .ref ad10, .ref ad11, .ref ad12, .ref ad13])), (ad2, .inr (3, [.int 0, .int 0, .int 10, .int 0, .int 0, .int 1, .ref ad14, .ref ad15, .ref ad16, .ref ad17, .ref ad18]))]) (w1 := [(ad13, .inr (1, [.int 0, .int 0, .int 0, .ref ad19, .ref ad20, .ref ad21, .ref ad22, .ref ad23, .ref ad24]))]) hP hD [2] [0, 1] rfl rfl (by decide) (by decide) hk1 hFc hP1 hD1
  have hK := (hK.sub (tys' := []) [] rfl).app hK1
  clear hPc hDc hKc hFc hP1 hD1 hK1 hk1 hz1
  generalize H1 = H at hP hS ⊢
  have hP : va_P (dC, dI) vwCl [(ad0, .inr (9, [.ref ad1, .ref ad2, .ref ad3, .ref ad4, .ref ad5, .ref ad6, .ref ad7, .ref ad8, .int 0, .ref ad9, .ref ad10, .ref ad11, .ref ad12, .ref ad13])), (ad2, .inr (3, [.int 0, .int 0, .int 10, .int 0, .int 0, .int 1, .ref ad14, .ref ad15, .ref ad16, .ref ad17, .ref ad18])), (ad13, .inr (1, [.int 0, .int 0, .int 0, .ref ad19, .ref ad20, .ref ad21, .ref ad22, .ref ad23, .ref ad24]))] H := hP
  have hD : va_D A [(ad0, .inr (9, [.ref ad1, .ref ad2, .ref ad3, .ref ad4, .ref ad5, .ref ad6, .ref ad7, .ref ad8, .int 0, .ref ad9, .ref ad10, .ref ad11, .ref ad12, .ref ad13])), (ad2, .inr (3, [.int 0, .int 0, .int 10, .int 0, .int 0, .int 1, .ref ad14, .ref ad15, .ref ad16, .ref ad17, .ref ad18])), (ad13, .inr (1, [.int 0, .int 0, .int 0, .ref ad19, .ref ad20, .ref ad21, .ref ad22, .ref ad23, .ref ad24]))] := hD
  have hK : va_K (dC, dI) vwCl [] s := hK
  refine W.widen (k := 0) (n := 0) (by decide) (by decide) ?_
  have w2 : r1 = sp_rng vi0 0 999 := hw
  refine lv_if_eq (tgt := 19) hx hb dX9_see_8 (by decide) (fun c3 => ?_) (fun c3 => ?_)
  · have hpin : r1 = 0 := by grind
    subst hpin
    refine lv_bipush (v := (-2)) hx hb dX9_see_19 (by decide) ?_
    refine W.widen (k := 0) (n := 0) (by decide) (by decide) ?_
    exact W.iret (v := (-2)) hx hb hr (fun t ht hW => ⟨⟨(-2), (), rfl, rfl, trivial⟩, hS.F ht⟩) hS.2.2 dX9_see_21
  · refine lv_aload_n hx hb dX9_see_11 rfl (lv_at hl 0 rfl) ?_
    refine lv_iload_n hx hb dX9_see_12 rfl (lv_at hl 2 rfl) ?_
    have hPc := hP.sub (ws' := [(ad0, .inr (9, [.ref ad1, .ref ad2, .ref ad3, .ref ad4, .ref ad5, .ref ad6, .ref ad7, .ref ad8, .int 0, .ref ad9, .ref ad10, .ref ad11, .ref ad12, .ref ad13])), (ad2, .inr (3, [.int 0, .int 0, .int 10, .int 0, .int 0, .int 1, .ref ad14, .ref ad15, .ref ad16, .ref ad17, .ref ad18]))]) [0, 1] rfl
    have hDc := hD.sub (ws' := [(ad0, .inr (9, [.ref ad1, .ref ad2, .ref ad3, .ref ad4, .ref ad5, .ref ad6, .ref ad7, .ref ad8, .int 0, .ref ad9, .ref ad10, .ref ad11, .ref ad12, .ref ad13])), (ad2, .inr (3, [.int 0, .int 0, .int 10, .int 0, .int 0, .int 1, .ref ad14, .ref ad15, .ref ad16, .ref ad17, .ref ad18]))]) [0, 1] (by decide) rfl
    have hKc := hK.sub (tys' := []) [] rfl
    have hFc := va_free (wc := [(ad0, .inr (9, [.ref ad1, .ref ad2, .ref ad3, .ref ad4, .ref ad5, .ref ad6, .ref ad7, .ref ad8, .int 0, .ref ad9, .ref ad10, .ref ad11, .ref ad12, .ref ad13])), (ad2, .inr (3, [.int 0, .int 0, .int 10, .int 0, .int 0, .int 1, .ref ad14, .ref ad15, .ref ad16, .ref ad17, .ref ad18]))]) hD hS hA [0, 1] rfl
    refine va_calli (va_runV (As := [.int vi1]) (rest := []) ⟨hx, hb, hml, hown, hts⟩ (ct_X9_isSign l dC dI ad0 vi1 ad1 ad2 ad3 ad4 ad5 ad6 ad7 ad8 ad9 ad10 ad11 ad12 ad13 ad14 ad15 ad16 ad17 ad18 H.size) (cwV 1 hts gX9_see_X9_isSign rfl rfl rfl (by decide +kernel) ⟨Nat.le_of_ble_eq_true rfl, Nat.le_of_ble_eq_true rfl⟩) ⟨fun a U g mk q => by obtain ⟨q0, q1, qP, qK, qD⟩ := q; exact ⟨q0, q1, qP, va_K.moved (u := U) (U := U.calling g mk a) (Vm.Alike.refl U.vm) qK, qD⟩, va_recv hKc hPc (ci := 9) (q0 := 0) rfl rfl, fun U hU hW => ⟨rfl, by rw [hU], by rw [hU]; exact hPc, va_K.moved hW.alike hKc, hDc.weaken (fun _ _ _ _ => trivial)⟩⟩ rfl rfl hl.1 rfl (lv_room (Nat.le_of_ble_eq_true rfl)) dX9_see_13 ⟨Nat.le_of_ble_eq_true rfl, Nat.le_of_ble_eq_true rfl⟩) hS (fun q _ h => hFc q h) hFc (fun r4 u t H1 locs ht hvm hw hB hz1 hk1 hS => ?_)
    obtain ⟨hP1, hK1, hD1⟩ := hB
    rw [ht] at hP1
    have hK1 := va_K.moved hvm.symm hK1
    obtain ⟨hP, hD⟩ := va_join (wr := [(ad13, .inr (1, [.int 0, .int 0, .int 0, .ref ad19, .ref ad20, .ref ad21, .ref ad22, .ref ad23, .ref ad24]))]) (w1 := [(ad0, .inr (9, [.ref ad1, .ref ad2, .ref ad3, .ref ad4, .ref ad5, .ref ad6, .ref ad7, .ref ad8, .int 0, .ref ad9, .ref ad10, .ref ad11, .ref ad12, .ref ad13])), (ad2, .inr (3, [.int 0, .int 0, .int 10, .int 0, .int 0, .int 1, .ref ad14, .ref ad15, .ref ad16, .ref ad17, .ref ad18]))]) hP hD [0, 1] [2] rfl rfl (by decide) (by decide) hk1 hFc hP1 hD1
    have hK := (hK.sub (tys' := []) [] rfl).app hK1
    clear hPc hDc hKc hFc hP1 hD1 hK1 hk1 hz1
    generalize H1 = H at hP hS ⊢
    have hP : va_P (dC, dI) vwCl [(ad13, .inr (1, [.int 0, .int 0, .int 0, .ref ad19, .ref ad20, .ref ad21, .ref ad22, .ref ad23, .ref ad24])), (ad0, .inr (9, [.ref ad1, .ref ad2, .ref ad3, .ref ad4, .ref ad5, .ref ad6, .ref ad7, .ref ad8, .int 0, .ref ad9, .ref ad10, .ref ad11, .ref ad12, .ref ad13])), (ad2, .inr (3, [.int 0, .int 0, .int 10, .int 0, .int 0, .int 1, .ref ad14, .ref ad15, .ref ad16, .ref ad17, .ref ad18]))] H := hP
    have hD : va_D A [(ad13, .inr (1, [.int 0, .int 0, .int 0, .ref ad19, .ref ad20, .ref ad21, .ref ad22, .ref ad23, .ref ad24])), (ad0, .inr (9, [.ref ad1, .ref ad2, .ref ad3, .ref ad4, .ref ad5, .ref ad6, .ref ad7, .ref ad8, .int 0, .ref ad9, .ref ad10, .ref ad11, .ref ad12, .ref ad13])), (ad2, .inr (3, [.int 0, .int 0, .int 10, .int 0, .int 0, .int 1, .ref ad14, .ref ad15, .ref ad16, .ref ad17, .ref ad18]))] := hD
    have hK : va_K (dC, dI) vwCl [] s := hK
    refine W.widen (k := 0) (n := 0) (by decide) (by decide) ?_
    have hw : r4 = 0 := hw
    subst hw
    refine lv_if_ne (tgt := 22) hx hb dX9_see_16 (by decide) (fun cz => absurd cz (by decide)) (fun _ => ?_)
    refine lv_bipush (v := (-2)) hx hb dX9_see_19 (by decide) ?_
    refine W.widen (k := 0) (n := 0) (by decide) (by decide) ?_
    exact W.iret (v := (-2)) hx hb hr (fun t ht hW => ⟨⟨(-2), (), rfl, rfl, trivial⟩, hS.F ht⟩) hS.2.2 dX9_see_21

set_option maxHeartbeats 4000000 in
set_option maxRecDepth 100000 in
theorem ct_X1_canCorrect (l : Launch) (dC : Nat → ClassId) (dI : Nat → Nat → Nat) (ad0 : Nat) (vi0 : Int32) (vi1 : Int32) (ad1 : Nat) (ad2 : Nat) (ad3 : Nat) (ad4 : Nat) (ad5 : Nat) (ad6 : Nat) (sz : Nat) : Met l yX1_canCorrect wsX1_canCorrect ({ frames := 0, cells := 0, slots := 0, locals := 0 }) (va_Pc [.ref ad0, .int vi0, .int vi1] (fun U => U.heap.size = sz ∧ va_P (dC, dI) vwCl [(ad0, .inr (1, [.int 0, .int 0, .int 0, .ref ad1, .ref ad2, .ref ad3, .ref ad4, .ref ad5, .ref ad6]))] U.heap ∧ va_K (dC, dI) vwCl [] U ∧ va_D (fun _ => True) [(ad0, .inr (1, [.int 0, .int 0, .int 0, .ref ad1, .ref ad2, .ref ad3, .ref ad4, .ref ad5, .ref ad6]))])) (va_Qi (fun (r : Int32) (_ : Unit) => r = 0) (fun _ t => va_P (dC, dI) vwCl [(ad0, .inr (1, [.int 0, .int 0, .int 0, .ref ad1, .ref ad2, .ref ad3, .ref ad4, .ref ad5, .ref ad6]))] t.heap ∧ va_K (dC, dI) vwCl [] t ∧ va_D (va_A [(ad0, .inr (1, [.int 0, .int 0, .int 0, .ref ad1, .ref ad2, .ref ad3, .ref ad4, .ref ad5, .ref ad6]))] sz) [(ad0, .inr (1, [.int 0, .int 0, .int 0, .ref ad1, .ref ad2, .ref ad3, .ref ad4, .ref ad5, .ref ad6]))]) (va_A [(ad0, .inr (1, [.int 0, .int 0, .int 0, .ref ad1, .ref ad2, .ref ad3, .ref ad4, .ref ad5, .ref ad6]))] sz)) 0 0 (va_A [(ad0, .inr (1, [.int 0, .int 0, .int 0, .ref ad1, .ref ad2, .ref ad3, .ref ad4, .ref ad5, .ref ad6]))] sz) := by
  refine Met.ofW (cc := cX1_canCorrect) (maxL := 3) (ret := (some .boolean)) (by decide) rfl ?_
  intro p e s m args below meth c s₁ B hml hv
  obtain ⟨rfl, hsz, hP, hK, hD0⟩ := hv
  have hx := B.exec
  have hb := B.bytes
  have hr := B.returns
  have hts := atoms_spec (ws := wsX1_canCorrect) B.pre
  have hown : s.vm.findClass RX1 = some m.cls := findClass_of_methodNamed B.named
  have hlocks := B.notSynchronized
  subst hsz
  have hD := hD0.self (sz := s.heap.size)
  generalize hAe : va_A [(ad0, .inr (1, [.int 0, .int 0, .int 0, .ref ad1, .ref ad2, .ref ad3, .ref ad4, .ref ad5, .ref ad6]))] s.heap.size = A at hD ⊢
  have hA : ∀ q : Nat, s.heap.size ≤ q → A q := fun q h => by rw [← hAe]; exact Or.inr h
  have hS : va_S A s.heap s.heap [] := va_S.rf
  have hP : va_P (dC, dI) vwCl [(ad0, .inr (1, [.int 0, .int 0, .int 0, .ref ad1, .ref ad2, .ref ad3, .ref ad4, .ref ad5, .ref ad6]))] s.heap := hP
  have hl := lv_entry ([.ref ad0, .int vi0, .int vi1]) (n := 3) (Nat.le_of_ble_eq_true rfl)
  rw [lg_entry_eq]
  generalize (lg_sl ([.ref ad0, .int vi0, .int vi1]) ++ List.replicate (3 - (lg_sl ([.ref ad0, .int vi0, .int vi1])).length) Slot.unset).toArray = ls at hl ⊢
  have hl : lv_has ls 3 [(0, .ref ad0), (1, .int vi0), (2, .int vi1)] := hl
  refine lv_iload_n hx hb dX1_canCorrect_0 rfl (lv_at hl 2 rfl) ?_
  refine lv_if_lt (tgt := 26) hx hb dX1_canCorrect_1 (by decide) (fun c1 => ?_) (fun c1 => ?_)
  · refine lv_iconst (v := 0) hx hb dX1_canCorrect_26 (by decide) ?_
    refine W.widen (k := 0) (n := 0) (by decide) (by decide) ?_
    have hP9 := hP.sub (ws' := [(ad0, .inr (1, [.int 0, .int 0, .int 0, .ref ad1, .ref ad2, .ref ad3, .ref ad4, .ref ad5, .ref ad6]))]) [0] rfl
    have hD9 := hD.sub (ws' := [(ad0, .inr (1, [.int 0, .int 0, .int 0, .ref ad1, .ref ad2, .ref ad3, .ref ad4, .ref ad5, .ref ad6]))]) [0] (by decide) rfl
    have hK9 := hK.sub (tys' := []) [] rfl
    exact W.zret (v := 0) hx hb hr rfl (fun t ht hW => ⟨⟨0, (), rfl, rfl, by rw [ht]; exact hP9, va_K.moved hW.alike hK9, hD9⟩, hS.F ht⟩) hS.2.2 dX1_canCorrect_27
  · refine lv_iload_n hx hb dX1_canCorrect_4 rfl (lv_at hl 2 rfl) ?_
    refine lv_aload_n hx hb dX1_canCorrect_5 rfl (lv_at hl 0 rfl) ?_
    refine va_get (D := (dC, dI)) (ci := 1) (v := .int 0) (C := RX1) (T := TX1) (N := 9) hx hb hts iw_X1_canCorrect_X1 hown hK hP 0 rfl rfl 0 (by decide) (hts _ kk_X1_canCorrect_0) (fun _ h9 => h9) rfl dX1_canCorrect_6 ?_
    refine lv_icmp_ge (tgt := 26) hx hb dX1_canCorrect_9 (by decide) (fun _ => ?_) (fun c2 => False.elim (by grind))
    refine lv_iconst (v := 0) hx hb dX1_canCorrect_26 (by decide) ?_
    refine W.widen (k := 0) (n := 0) (by decide) (by decide) ?_
    have hP9 := hP.sub (ws' := [(ad0, .inr (1, [.int 0, .int 0, .int 0, .ref ad1, .ref ad2, .ref ad3, .ref ad4, .ref ad5, .ref ad6]))]) [0] rfl
    have hD9 := hD.sub (ws' := [(ad0, .inr (1, [.int 0, .int 0, .int 0, .ref ad1, .ref ad2, .ref ad3, .ref ad4, .ref ad5, .ref ad6]))]) [0] (by decide) rfl
    have hK9 := hK.sub (tys' := []) [] rfl
    exact W.zret (v := 0) hx hb hr rfl (fun t ht hW => ⟨⟨0, (), rfl, rfl, by rw [ht]; exact hP9, va_K.moved hW.alike hK9, hD9⟩, hS.F ht⟩) hS.2.2 dX1_canCorrect_27

set_option maxHeartbeats 4000000 in
set_option maxRecDepth 100000 in
theorem ct_X9_right (l : Launch) (dC : Nat → ClassId) (dI : Nat → Nat → Nat) (ad0 : Nat) (vi0 : Int32) (vi1 : Int32) (vi2 : Int32) (ad1 : Nat) (ad2 : Nat) (ad3 : Nat) (ad4 : Nat) (ad5 : Nat) (ad6 : Nat) (ad7 : Nat) (ad8 : Nat) (ad9 : Nat) (ad10 : Nat) (ad11 : Nat) (ad12 : Nat) (ad13 : Nat) (ad14 : Nat) (ad15 : Nat) (ad16 : Nat) (ad17 : Nat) (ad18 : Nat) (ad19 : Nat) (sz : Nat) : Met l yX9_right wsX9_right ({ frames := 1, cells := 0, slots := 0, locals := 22 }) (va_Pc [.ref ad0, .int vi0, .int vi1, .int vi2] (fun U => U.heap.size = sz ∧ va_P (dC, dI) vwCl [(ad0, .inr (9, [.ref ad1, .ref ad2, .ref ad3, .ref ad4, .ref ad5, .ref ad6, .ref ad7, .ref ad8, .int 0, .ref ad9, .ref ad10, .ref ad11, .ref ad12, .ref ad13])), (ad13, .inr (1, [.int 0, .int 0, .int 0, .ref ad14, .ref ad15, .ref ad16, .ref ad17, .ref ad18, .ref ad19]))] U.heap ∧ va_K (dC, dI) vwCl [] U ∧ va_D (fun _ => True) [(ad0, .inr (9, [.ref ad1, .ref ad2, .ref ad3, .ref ad4, .ref ad5, .ref ad6, .ref ad7, .ref ad8, .int 0, .ref ad9, .ref ad10, .ref ad11, .ref ad12, .ref ad13])), (ad13, .inr (1, [.int 0, .int 0, .int 0, .ref ad14, .ref ad15, .ref ad16, .ref ad17, .ref ad18, .ref ad19]))])) (va_Qi (fun (r : Int32) (_ : Unit) => r = (-2)) (fun _ _ => True) (va_A [(ad0, .inr (9, [.ref ad1, .ref ad2, .ref ad3, .ref ad4, .ref ad5, .ref ad6, .ref ad7, .ref ad8, .int 0, .ref ad9, .ref ad10, .ref ad11, .ref ad12, .ref ad13])), (ad13, .inr (1, [.int 0, .int 0, .int 0, .ref ad14, .ref ad15, .ref ad16, .ref ad17, .ref ad18, .ref ad19]))] sz)) 0 0 (va_A [(ad0, .inr (9, [.ref ad1, .ref ad2, .ref ad3, .ref ad4, .ref ad5, .ref ad6, .ref ad7, .ref ad8, .int 0, .ref ad9, .ref ad10, .ref ad11, .ref ad12, .ref ad13])), (ad13, .inr (1, [.int 0, .int 0, .int 0, .ref ad14, .ref ad15, .ref ad16, .ref ad17, .ref ad18, .ref ad19]))] sz) := by
  refine Met.ofW (cc := cX9_right) (maxL := 4) (ret := (some .int)) (by decide) rfl ?_
  intro p e s m args below meth c s₁ B hml hv
  obtain ⟨rfl, hsz, hP, hK, hD0⟩ := hv
  have hx := B.exec
  have hb := B.bytes
  have hr := B.returns
  have hts := atoms_spec (ws := wsX9_right) B.pre
  have hown : s.vm.findClass RX9 = some m.cls := findClass_of_methodNamed B.named
  have hlocks := B.notSynchronized
  subst hsz
  have hD := hD0.self (sz := s.heap.size)
  generalize hAe : va_A [(ad0, .inr (9, [.ref ad1, .ref ad2, .ref ad3, .ref ad4, .ref ad5, .ref ad6, .ref ad7, .ref ad8, .int 0, .ref ad9, .ref ad10, .ref ad11, .ref ad12, .ref ad13])), (ad13, .inr (1, [.int 0, .int 0, .int 0, .ref ad14, .ref ad15, .ref ad16, .ref ad17, .ref ad18, .ref ad19]))] s.heap.size = A at hD ⊢
  have hA : ∀ q : Nat, s.heap.size ≤ q → A q := fun q h => by rw [← hAe]; exact Or.inr h
  have hS : va_S A s.heap s.heap [] := va_S.rf
  have hP : va_P (dC, dI) vwCl [(ad0, .inr (9, [.ref ad1, .ref ad2, .ref ad3, .ref ad4, .ref ad5, .ref ad6, .ref ad7, .ref ad8, .int 0, .ref ad9, .ref ad10, .ref ad11, .ref ad12, .ref ad13])), (ad13, .inr (1, [.int 0, .int 0, .int 0, .ref ad14, .ref ad15, .ref ad16, .ref ad17, .ref ad18, .ref ad19]))] s.heap := hP
  have hl := lv_entry ([.ref ad0, .int vi0, .int vi1, .int vi2]) (n := 4) (Nat.le_of_ble_eq_true rfl)
  rw [lg_entry_eq]
  generalize (lg_sl ([.ref ad0, .int vi0, .int vi1, .int vi2]) ++ List.replicate (4 - (lg_sl ([.ref ad0, .int vi0, .int vi1, .int vi2])).length) Slot.unset).toArray = ls at hl ⊢
  have hl : lv_has ls 4 [(0, .ref ad0), (1, .int vi0), (2, .int vi1), (3, .int vi2)] := hl
  refine lv_aload_n hx hb dX9_right_0 rfl (lv_at hl 0 rfl) ?_
  refine va_get (D := (dC, dI)) (ci := 9) (v := .ref ad13) (C := RX9) (T := TX9) (N := 14) hx hb hts iw_X9_right_X9 hown hK hP 0 rfl rfl 13 (by decide) (hts _ kk_X9_right_0) (fun _ h9 => h9) rfl dX9_right_1 ?_
  refine lv_iload_n hx hb dX9_right_4 rfl (lv_at hl 1 rfl) ?_
  have hPc := hP.sub (ws' := [(ad13, .inr (1, [.int 0, .int 0, .int 0, .ref ad14, .ref ad15, .ref ad16, .ref ad17, .ref ad18, .ref ad19]))]) [1] rfl
  have hDc := hD.sub (ws' := [(ad13, .inr (1, [.int 0, .int 0, .int 0, .ref ad14, .ref ad15, .ref ad16, .ref ad17, .ref ad18, .ref ad19]))]) [1] (by decide) rfl
  have hKc := hK.sub (tys' := []) [] rfl
  have hFc := va_free (wc := [(ad13, .inr (1, [.int 0, .int 0, .int 0, .ref ad14, .ref ad15, .ref ad16, .ref ad17, .ref ad18, .ref ad19]))]) hD hS hA [1] rfl
  refine va_calli (va_runV (As := [.int vi0]) (rest := []) ⟨hx, hb, hml, hown, hts⟩ (ct_X1_canTell l dC dI ad13 vi0 ad14 ad15 ad16 ad17 ad18 ad19 s.heap.size) (cwV 1 hts gX9_right_X1_canTell rfl rfl rfl (by decide +kernel) ⟨Nat.le_of_ble_eq_true rfl, Nat.le_of_ble_eq_true rfl⟩) ⟨fun a U g mk q => by obtain ⟨q0, q1, qP, qK, qD⟩ := q; exact ⟨q0, q1, qP, va_K.moved (u := U) (U := U.calling g mk a) (Vm.Alike.refl U.vm) qK, qD⟩, va_recv hKc hPc (ci := 1) (q0 := 0) rfl rfl, fun U hU hW => ⟨rfl, by rw [hU], by rw [hU]; exact hPc, va_K.moved hW.alike hKc, hDc.weaken (fun _ _ _ _ => trivial)⟩⟩ rfl rfl hl.1 rfl (lv_room (Nat.le_of_ble_eq_true rfl)) dX9_right_5 ⟨Nat.le_of_ble_eq_true rfl, Nat.le_of_ble_eq_true rfl⟩) hS (fun q _ h => hFc q h) hFc (fun r1 u t H1 locs ht hvm hw hB hz1 hk1 hS => ?_)
  obtain ⟨hP1, hK1, hD1⟩ := hB
  rw [ht] at hP1
  have hK1 := va_K.moved hvm.symm hK1
  obtain ⟨hP, hD⟩ := va_join (wr := [(ad0, .inr (9, [.ref ad1, .ref ad2, .ref ad3, .ref ad4, .ref ad5, .ref ad6, .ref ad7, .ref ad8, .int 0, .ref ad9, .ref ad10, .ref ad11, .ref ad12, .ref ad13]))]) (w1 := [(ad13, .inr (1, [.int 0, .int 0, .int 0, .ref ad14, .ref ad15, .ref ad16, .ref ad17, .ref ad18, .ref ad19]))]) hP hD [1] [0] rfl rfl (by decide) (by decide) hk1 hFc hP1 hD1
  have hK := (hK.sub (tys' := []) [] rfl).app hK1
  clear hPc hDc hKc hFc hP1 hD1 hK1 hk1 hz1
  generalize H1 = H at hP hS ⊢
  have hP : va_P (dC, dI) vwCl [(ad0, .inr (9, [.ref ad1, .ref ad2, .ref ad3, .ref ad4, .ref ad5, .ref ad6, .ref ad7, .ref ad8, .int 0, .ref ad9, .ref ad10, .ref ad11, .ref ad12, .ref ad13])), (ad13, .inr (1, [.int 0, .int 0, .int 0, .ref ad14, .ref ad15, .ref ad16, .ref ad17, .ref ad18, .ref ad19]))] H := hP
  have hD : va_D A [(ad0, .inr (9, [.ref ad1, .ref ad2, .ref ad3, .ref ad4, .ref ad5, .ref ad6, .ref ad7, .ref ad8, .int 0, .ref ad9, .ref ad10, .ref ad11, .ref ad12, .ref ad13])), (ad13, .inr (1, [.int 0, .int 0, .int 0, .ref ad14, .ref ad15, .ref ad16, .ref ad17, .ref ad18, .ref ad19]))] := hD
  have hK : va_K (dC, dI) vwCl [] s := hK
  refine W.widen (k := 0) (n := 0) (by decide) (by decide) ?_
  have w2 : r1 = sp_rng vi0 0 999 := hw
  refine lv_if_eq (tgt := 31) hx hb dX9_right_8 (by decide) (fun c3 => ?_) (fun c3 => ?_)
  · have hpin : r1 = 0 := by grind
    subst hpin
    refine lv_bipush (v := (-2)) hx hb dX9_right_31 (by decide) ?_
    refine W.widen (k := 0) (n := 0) (by decide) (by decide) ?_
    exact W.iret (v := (-2)) hx hb hr (fun t ht hW => ⟨⟨(-2), (), rfl, rfl, trivial⟩, hS.F ht⟩) hS.2.2 dX9_right_33
  · refine lv_aload_n hx hb dX9_right_11 rfl (lv_at hl 0 rfl) ?_
    refine va_get (D := (dC, dI)) (ci := 9) (v := .ref ad13) (C := RX9) (T := TX9) (N := 14) hx hb hts iw_X9_right_X9 hown hK hP 0 rfl rfl 13 (by decide) (hts _ kk_X9_right_0) (fun _ h9 => h9) rfl dX9_right_12 ?_
    refine lv_iload_n hx hb dX9_right_15 rfl (lv_at hl 1 rfl) ?_
    refine lv_iload_n hx hb dX9_right_16 rfl (lv_at hl 2 rfl) ?_
    have hPc := hP.sub (ws' := [(ad13, .inr (1, [.int 0, .int 0, .int 0, .ref ad14, .ref ad15, .ref ad16, .ref ad17, .ref ad18, .ref ad19]))]) [1] rfl
    have hDc := hD.sub (ws' := [(ad13, .inr (1, [.int 0, .int 0, .int 0, .ref ad14, .ref ad15, .ref ad16, .ref ad17, .ref ad18, .ref ad19]))]) [1] (by decide) rfl
    have hKc := hK.sub (tys' := []) [] rfl
    have hFc := va_free (wc := [(ad13, .inr (1, [.int 0, .int 0, .int 0, .ref ad14, .ref ad15, .ref ad16, .ref ad17, .ref ad18, .ref ad19]))]) hD hS hA [1] rfl
    refine va_calli (va_runV (As := [.int vi0, .int vi1]) (rest := []) ⟨hx, hb, hml, hown, hts⟩ (ct_X1_canCorrect l dC dI ad13 vi0 vi1 ad14 ad15 ad16 ad17 ad18 ad19 H.size) (cwV 2 hts gX9_right_X1_canCorrect rfl rfl rfl (by decide +kernel) ⟨Nat.le_of_ble_eq_true rfl, Nat.le_of_ble_eq_true rfl⟩) ⟨fun a U g mk q => by obtain ⟨q0, q1, qP, qK, qD⟩ := q; exact ⟨q0, q1, qP, va_K.moved (u := U) (U := U.calling g mk a) (Vm.Alike.refl U.vm) qK, qD⟩, va_recv hKc hPc (ci := 1) (q0 := 0) rfl rfl, fun U hU hW => ⟨rfl, by rw [hU], by rw [hU]; exact hPc, va_K.moved hW.alike hKc, hDc.weaken (fun _ _ _ _ => trivial)⟩⟩ rfl rfl hl.1 rfl (lv_room (Nat.le_of_ble_eq_true rfl)) dX9_right_17 ⟨Nat.le_of_ble_eq_true rfl, Nat.le_of_ble_eq_true rfl⟩) hS (fun q _ h => hFc q h) hFc (fun r4 u t H1 locs ht hvm hw hB hz1 hk1 hS => ?_)
    obtain ⟨hP1, hK1, hD1⟩ := hB
    rw [ht] at hP1
    have hK1 := va_K.moved hvm.symm hK1
    obtain ⟨hP, hD⟩ := va_join (wr := [(ad0, .inr (9, [.ref ad1, .ref ad2, .ref ad3, .ref ad4, .ref ad5, .ref ad6, .ref ad7, .ref ad8, .int 0, .ref ad9, .ref ad10, .ref ad11, .ref ad12, .ref ad13]))]) (w1 := [(ad13, .inr (1, [.int 0, .int 0, .int 0, .ref ad14, .ref ad15, .ref ad16, .ref ad17, .ref ad18, .ref ad19]))]) hP hD [1] [0] rfl rfl (by decide) (by decide) hk1 hFc hP1 hD1
    have hK := (hK.sub (tys' := []) [] rfl).app hK1
    clear hPc hDc hKc hFc hP1 hD1 hK1 hk1 hz1
    generalize H1 = H at hP hS ⊢
    have hP : va_P (dC, dI) vwCl [(ad0, .inr (9, [.ref ad1, .ref ad2, .ref ad3, .ref ad4, .ref ad5, .ref ad6, .ref ad7, .ref ad8, .int 0, .ref ad9, .ref ad10, .ref ad11, .ref ad12, .ref ad13])), (ad13, .inr (1, [.int 0, .int 0, .int 0, .ref ad14, .ref ad15, .ref ad16, .ref ad17, .ref ad18, .ref ad19]))] H := hP
    have hD : va_D A [(ad0, .inr (9, [.ref ad1, .ref ad2, .ref ad3, .ref ad4, .ref ad5, .ref ad6, .ref ad7, .ref ad8, .int 0, .ref ad9, .ref ad10, .ref ad11, .ref ad12, .ref ad13])), (ad13, .inr (1, [.int 0, .int 0, .int 0, .ref ad14, .ref ad15, .ref ad16, .ref ad17, .ref ad18, .ref ad19]))] := hD
    have hK : va_K (dC, dI) vwCl [] s := hK
    refine W.widen (k := 0) (n := 0) (by decide) (by decide) ?_
    have hw : r4 = 0 := hw
    subst hw
    refine lv_if_eq (tgt := 31) hx hb dX9_right_20 (by decide) (fun _ => ?_) (fun cz => absurd cz (by decide))
    refine lv_bipush (v := (-2)) hx hb dX9_right_31 (by decide) ?_
    refine W.widen (k := 0) (n := 0) (by decide) (by decide) ?_
    exact W.iret (v := (-2)) hx hb hr (fun t ht hW => ⟨⟨(-2), (), rfl, rfl, trivial⟩, hS.F ht⟩) hS.2.2 dX9_right_33

set_option maxHeartbeats 4000000 in
set_option maxRecDepth 100000 in
theorem ct_X9_odds (l : Launch) (dC : Nat → ClassId) (dI : Nat → Nat → Nat) (ad0 : Nat) (vi0 : Int32) (vi1 : Int32) (ad1 : Nat) (ad2 : Nat) (ad3 : Nat) (ad4 : Nat) (ad5 : Nat) (ad6 : Nat) (ad7 : Nat) (ad8 : Nat) (ad9 : Nat) (ad10 : Nat) (ad11 : Nat) (ad12 : Nat) (ad13 : Nat) (ad14 : Nat) (ad15 : Nat) (ad16 : Nat) (ad17 : Nat) (ad18 : Nat) (sz : Nat) : Met l yX9_odds wsX9_odds ({ frames := 1, cells := 0, slots := 0, locals := 21 }) (va_Pc [.ref ad0, .int vi0, .int vi1] (fun U => U.heap.size = sz ∧ va_P (dC, dI) vwCl [(ad0, .inr (9, [.ref ad1, .ref ad2, .ref ad3, .ref ad4, .ref ad5, .ref ad6, .ref ad7, .ref ad8, .int 0, .ref ad9, .ref ad10, .ref ad11, .ref ad12, .ref ad13])), (ad2, .inr (3, [.int 0, .int 0, .int 10, .int 0, .int 0, .int 1, .ref ad14, .ref ad15, .ref ad16, .ref ad17, .ref ad18]))] U.heap ∧ va_K (dC, dI) vwCl [] U ∧ va_D (fun _ => True) [(ad0, .inr (9, [.ref ad1, .ref ad2, .ref ad3, .ref ad4, .ref ad5, .ref ad6, .ref ad7, .ref ad8, .int 0, .ref ad9, .ref ad10, .ref ad11, .ref ad12, .ref ad13])), (ad2, .inr (3, [.int 0, .int 0, .int 10, .int 0, .int 0, .int 1, .ref ad14, .ref ad15, .ref ad16, .ref ad17, .ref ad18]))])) (va_Qi (fun (r : Int32) (_ : Unit) => r = (-2)) (fun _ _ => True) (va_A [(ad0, .inr (9, [.ref ad1, .ref ad2, .ref ad3, .ref ad4, .ref ad5, .ref ad6, .ref ad7, .ref ad8, .int 0, .ref ad9, .ref ad10, .ref ad11, .ref ad12, .ref ad13])), (ad2, .inr (3, [.int 0, .int 0, .int 10, .int 0, .int 0, .int 1, .ref ad14, .ref ad15, .ref ad16, .ref ad17, .ref ad18]))] sz)) 0 0 (va_A [(ad0, .inr (9, [.ref ad1, .ref ad2, .ref ad3, .ref ad4, .ref ad5, .ref ad6, .ref ad7, .ref ad8, .int 0, .ref ad9, .ref ad10, .ref ad11, .ref ad12, .ref ad13])), (ad2, .inr (3, [.int 0, .int 0, .int 10, .int 0, .int 0, .int 1, .ref ad14, .ref ad15, .ref ad16, .ref ad17, .ref ad18]))] sz) := by
  refine Met.ofW (cc := cX9_odds) (maxL := 6) (ret := (some .int)) (by decide) rfl ?_
  intro p e s m args below meth c s₁ B hml hv
  obtain ⟨rfl, hsz, hP, hK, hD0⟩ := hv
  have hx := B.exec
  have hb := B.bytes
  have hr := B.returns
  have hts := atoms_spec (ws := wsX9_odds) B.pre
  have hown : s.vm.findClass RX9 = some m.cls := findClass_of_methodNamed B.named
  have hlocks := B.notSynchronized
  subst hsz
  have hD := hD0.self (sz := s.heap.size)
  generalize hAe : va_A [(ad0, .inr (9, [.ref ad1, .ref ad2, .ref ad3, .ref ad4, .ref ad5, .ref ad6, .ref ad7, .ref ad8, .int 0, .ref ad9, .ref ad10, .ref ad11, .ref ad12, .ref ad13])), (ad2, .inr (3, [.int 0, .int 0, .int 10, .int 0, .int 0, .int 1, .ref ad14, .ref ad15, .ref ad16, .ref ad17, .ref ad18]))] s.heap.size = A at hD ⊢
  have hA : ∀ q : Nat, s.heap.size ≤ q → A q := fun q h => by rw [← hAe]; exact Or.inr h
  have hS : va_S A s.heap s.heap [] := va_S.rf
  have hP : va_P (dC, dI) vwCl [(ad0, .inr (9, [.ref ad1, .ref ad2, .ref ad3, .ref ad4, .ref ad5, .ref ad6, .ref ad7, .ref ad8, .int 0, .ref ad9, .ref ad10, .ref ad11, .ref ad12, .ref ad13])), (ad2, .inr (3, [.int 0, .int 0, .int 10, .int 0, .int 0, .int 1, .ref ad14, .ref ad15, .ref ad16, .ref ad17, .ref ad18]))] s.heap := hP
  have hl := lv_entry ([.ref ad0, .int vi0, .int vi1]) (n := 6) (Nat.le_of_ble_eq_true rfl)
  rw [lg_entry_eq]
  generalize (lg_sl ([.ref ad0, .int vi0, .int vi1]) ++ List.replicate (6 - (lg_sl ([.ref ad0, .int vi0, .int vi1])).length) Slot.unset).toArray = ls at hl ⊢
  have hl : lv_has ls 6 [(0, .ref ad0), (1, .int vi0), (2, .int vi1)] := hl
  refine lv_aload_n hx hb dX9_odds_0 rfl (lv_at hl 0 rfl) ?_
  refine lv_iload_n hx hb dX9_odds_1 rfl (lv_at hl 1 rfl) ?_
  have hPc := hP.sub (ws' := [(ad0, .inr (9, [.ref ad1, .ref ad2, .ref ad3, .ref ad4, .ref ad5, .ref ad6, .ref ad7, .ref ad8, .int 0, .ref ad9, .ref ad10, .ref ad11, .ref ad12, .ref ad13])), (ad2, .inr (3, [.int 0, .int 0, .int 10, .int 0, .int 0, .int 1, .ref ad14, .ref ad15, .ref ad16, .ref ad17, .ref ad18]))]) [0, 1] rfl
  have hDc := hD.sub (ws' := [(ad0, .inr (9, [.ref ad1, .ref ad2, .ref ad3, .ref ad4, .ref ad5, .ref ad6, .ref ad7, .ref ad8, .int 0, .ref ad9, .ref ad10, .ref ad11, .ref ad12, .ref ad13])), (ad2, .inr (3, [.int 0, .int 0, .int 10, .int 0, .int 0, .int 1, .ref ad14, .ref ad15, .ref ad16, .ref ad17, .ref ad18]))]) [0, 1] (by decide) rfl
  have hKc := hK.sub (tys' := []) [] rfl
  have hFc := va_free (wc := [(ad0, .inr (9, [.ref ad1, .ref ad2, .ref ad3, .ref ad4, .ref ad5, .ref ad6, .ref ad7, .ref ad8, .int 0, .ref ad9, .ref ad10, .ref ad11, .ref ad12, .ref ad13])), (ad2, .inr (3, [.int 0, .int 0, .int 10, .int 0, .int 0, .int 1, .ref ad14, .ref ad15, .ref ad16, .ref ad17, .ref ad18]))]) hD hS hA [0, 1] rfl
  refine va_calli (va_runV (As := [.int vi0]) (rest := []) ⟨hx, hb, hml, hown, hts⟩ (ct_X9_isWork l dC dI ad0 vi0 ad1 ad2 ad3 ad4 ad5 ad6 ad7 ad8 ad9 ad10 ad11 ad12 ad13 ad14 ad15 ad16 ad17 ad18 s.heap.size) (cwV 1 hts gX9_odds_X9_isWork rfl rfl rfl (by decide +kernel) ⟨Nat.le_of_ble_eq_true rfl, Nat.le_of_ble_eq_true rfl⟩) ⟨fun a U g mk q => by obtain ⟨q0, q1, qP, qK, qD⟩ := q; exact ⟨q0, q1, qP, va_K.moved (u := U) (U := U.calling g mk a) (Vm.Alike.refl U.vm) qK, qD⟩, va_recv hKc hPc (ci := 9) (q0 := 0) rfl rfl, fun U hU hW => ⟨rfl, by rw [hU], by rw [hU]; exact hPc, va_K.moved hW.alike hKc, hDc.weaken (fun _ _ _ _ => trivial)⟩⟩ rfl rfl hl.1 rfl (lv_room (Nat.le_of_ble_eq_true rfl)) dX9_odds_2 ⟨Nat.le_of_ble_eq_true rfl, Nat.le_of_ble_eq_true rfl⟩) hS (fun q _ h => hFc q h) hFc (fun r1 u t H1 locs ht hvm hw hB hz1 hk1 hS => ?_)
  obtain ⟨hP1, hK1, hD1⟩ := hB
  rw [ht] at hP1
  have hK1 := va_K.moved hvm.symm hK1
  obtain ⟨hP, hD⟩ := va_join (wr := []) (w1 := [(ad0, .inr (9, [.ref ad1, .ref ad2, .ref ad3, .ref ad4, .ref ad5, .ref ad6, .ref ad7, .ref ad8, .int 0, .ref ad9, .ref ad10, .ref ad11, .ref ad12, .ref ad13])), (ad2, .inr (3, [.int 0, .int 0, .int 10, .int 0, .int 0, .int 1, .ref ad14, .ref ad15, .ref ad16, .ref ad17, .ref ad18]))]) hP hD [0, 1] [] rfl rfl (by decide) (by decide) hk1 hFc hP1 hD1
  have hK := (hK.sub (tys' := []) [] rfl).app hK1
  clear hPc hDc hKc hFc hP1 hD1 hK1 hk1 hz1
  generalize H1 = H at hP hS ⊢
  have hP : va_P (dC, dI) vwCl [(ad0, .inr (9, [.ref ad1, .ref ad2, .ref ad3, .ref ad4, .ref ad5, .ref ad6, .ref ad7, .ref ad8, .int 0, .ref ad9, .ref ad10, .ref ad11, .ref ad12, .ref ad13])), (ad2, .inr (3, [.int 0, .int 0, .int 10, .int 0, .int 0, .int 1, .ref ad14, .ref ad15, .ref ad16, .ref ad17, .ref ad18]))] H := hP
  have hD : va_D A [(ad0, .inr (9, [.ref ad1, .ref ad2, .ref ad3, .ref ad4, .ref ad5, .ref ad6, .ref ad7, .ref ad8, .int 0, .ref ad9, .ref ad10, .ref ad11, .ref ad12, .ref ad13])), (ad2, .inr (3, [.int 0, .int 0, .int 10, .int 0, .int 0, .int 1, .ref ad14, .ref ad15, .ref ad16, .ref ad17, .ref ad18]))] := hD
  have hK : va_K (dC, dI) vwCl [] s := hK
  refine W.widen (k := 0) (n := 0) (by decide) (by decide) ?_
  have hw : r1 = 0 := hw
  subst hw
  refine lv_if_eq (tgt := 15) hx hb dX9_odds_5 (by decide) (fun _ => ?_) (fun cz => absurd cz (by decide))
  refine lv_bipush (v := (-2)) hx hb dX9_odds_15 (by decide) ?_
  refine W.widen (k := 0) (n := 0) (by decide) (by decide) ?_
  exact W.iret (v := (-2)) hx hb hr (fun t ht hW => ⟨⟨(-2), (), rfl, rfl, trivial⟩, hS.F ht⟩) hS.2.2 dX9_odds_17

set_option maxHeartbeats 4000000 in
set_option maxRecDepth 100000 in
theorem ct_X9_isStep (l : Launch) (dC : Nat → ClassId) (dI : Nat → Nat → Nat) (vi0 : Int32) (sz : Nat) : Met l yX9_isStep wsX9_isStep ({ frames := 0, cells := 0, slots := 0, locals := 0 }) (va_Pc [.int vi0] (fun U => U.heap.size = sz ∧ va_P (dC, dI) vwCl [] U.heap ∧ va_K (dC, dI) vwCl [] U ∧ va_D (fun _ => True) [])) (va_Qi (fun (r : Int32) (_ : Unit) => r = sp_rng vi0 0 999) (fun _ t => va_P (dC, dI) vwCl [] t.heap ∧ va_K (dC, dI) vwCl [] t ∧ va_D (va_A [] sz) []) (va_A [] sz)) 0 0 (va_A [] sz) := by
  refine Met.ofW (cc := cX9_isStep) (maxL := 1) (ret := (some .boolean)) (by decide) rfl ?_
  intro p e s m args below meth c s₁ B hml hv
  obtain ⟨rfl, hsz, hP, hK, hD0⟩ := hv
  have hx := B.exec
  have hb := B.bytes
  have hr := B.returns
  have hts := atoms_spec (ws := wsX9_isStep) B.pre
  have hown : s.vm.findClass RX9 = some m.cls := findClass_of_methodNamed B.named
  have hlocks := B.notSynchronized
  subst hsz
  have hD := hD0.self (sz := s.heap.size)
  generalize hAe : va_A [] s.heap.size = A at hD ⊢
  have hA : ∀ q : Nat, s.heap.size ≤ q → A q := fun q h => by rw [← hAe]; exact Or.inr h
  have hS : va_S A s.heap s.heap [] := va_S.rf
  have hP : va_P (dC, dI) vwCl [] s.heap := hP
  have hl := lv_entry ([.int vi0]) (n := 1) (Nat.le_of_ble_eq_true rfl)
  rw [lg_entry_eq]
  generalize (lg_sl ([.int vi0]) ++ List.replicate (1 - (lg_sl ([.int vi0])).length) Slot.unset).toArray = ls at hl ⊢
  have hl : lv_has ls 1 [(0, .int vi0)] := hl
  refine lv_iload_n hx hb dX9_isStep_0 rfl (lv_at hl 0 rfl) ?_
  refine lv_if_lt (tgt := 15) hx hb dX9_isStep_1 (by decide) (fun c1 => ?_) (fun c1 => ?_)
  · refine lv_iconst (v := 0) hx hb dX9_isStep_15 (by decide) ?_
    refine W.widen (k := 0) (n := 0) (by decide) (by decide) ?_
    have hP9 := hP.sub (ws' := []) [] rfl
    have hD9 := hD.sub (ws' := []) [] (by decide) rfl
    have hK9 := hK.sub (tys' := []) [] rfl
    exact W.zret (v := 0) hx hb hr rfl (fun t ht hW => ⟨⟨0, (), rfl, (by simp [sp_rng, c1]), by rw [ht]; exact hP9, va_K.moved hW.alike hK9, hD9⟩, hS.F ht⟩) hS.2.2 dX9_isStep_16
  · refine lv_iload_n hx hb dX9_isStep_4 rfl (lv_at hl 0 rfl) ?_
    refine lv_sipush (v := 999) hx hb dX9_isStep_5 (by decide) ?_
    refine lv_icmp_gt (tgt := 15) hx hb dX9_isStep_8 (by decide) (fun c2 => ?_) (fun c2 => ?_)
    · refine lv_iconst (v := 0) hx hb dX9_isStep_15 (by decide) ?_
      refine W.widen (k := 0) (n := 0) (by decide) (by decide) ?_
      have hP9 := hP.sub (ws' := []) [] rfl
      have hD9 := hD.sub (ws' := []) [] (by decide) rfl
      have hK9 := hK.sub (tys' := []) [] rfl
      exact W.zret (v := 0) hx hb hr rfl (fun t ht hW => ⟨⟨0, (), rfl, (by simp [sp_rng, c1, c2]), by rw [ht]; exact hP9, va_K.moved hW.alike hK9, hD9⟩, hS.F ht⟩) hS.2.2 dX9_isStep_16
    · refine lv_iconst (v := 1) hx hb dX9_isStep_11 (by decide) ?_
      refine lv_goto (tgt := 16) hx hb dX9_isStep_12 (by decide) ?_
      refine W.widen (k := 0) (n := 0) (by decide) (by decide) ?_
      have hP9 := hP.sub (ws' := []) [] rfl
      have hD9 := hD.sub (ws' := []) [] (by decide) rfl
      have hK9 := hK.sub (tys' := []) [] rfl
      exact W.zret (v := 1) hx hb hr rfl (fun t ht hW => ⟨⟨1, (), rfl, (by simp [sp_rng, c1, c2]), by rw [ht]; exact hP9, va_K.moved hW.alike hK9, hD9⟩, hS.F ht⟩) hS.2.2 dX9_isStep_16

set_option maxHeartbeats 4000000 in
set_option maxRecDepth 100000 in
theorem ct_X9_guess (l : Launch) (dC : Nat → ClassId) (dI : Nat → Nat → Nat) (ad0 : Nat) (vi0 : Int32) (ad1 : Nat) (ad2 : Nat) (ad3 : Nat) (ad4 : Nat) (ad5 : Nat) (ad6 : Nat) (ad7 : Nat) (ad8 : Nat) (ad9 : Nat) (ad10 : Nat) (ad11 : Nat) (ad12 : Nat) (ad13 : Nat) (ad14 : Nat) (ad15 : Nat) (ad16 : Nat) (ad17 : Nat) (ad18 : Nat) (sz : Nat) : Met l yX9_guess wsX9_guess ({ frames := 1, cells := 0, slots := 0, locals := 20 }) (va_Pc [.ref ad0, .int vi0] (fun U => U.heap.size = sz ∧ va_P (dC, dI) vwCl [(ad0, .inr (9, [.ref ad1, .ref ad2, .ref ad3, .ref ad4, .ref ad5, .ref ad6, .ref ad7, .ref ad8, .int 0, .ref ad9, .ref ad10, .ref ad11, .ref ad12, .ref ad13])), (ad2, .inr (3, [.int 0, .int 0, .int 10, .int 0, .int 0, .int 1, .ref ad14, .ref ad15, .ref ad16, .ref ad17, .ref ad18]))] U.heap ∧ va_K (dC, dI) vwCl [] U ∧ va_D (fun _ => True) [(ad0, .inr (9, [.ref ad1, .ref ad2, .ref ad3, .ref ad4, .ref ad5, .ref ad6, .ref ad7, .ref ad8, .int 0, .ref ad9, .ref ad10, .ref ad11, .ref ad12, .ref ad13])), (ad2, .inr (3, [.int 0, .int 0, .int 10, .int 0, .int 0, .int 1, .ref ad14, .ref ad15, .ref ad16, .ref ad17, .ref ad18]))])) (va_Qi (fun (r : Int32) (_ : Unit) => r = sp_guess vi0) (fun _ _ => True) (va_A [(ad0, .inr (9, [.ref ad1, .ref ad2, .ref ad3, .ref ad4, .ref ad5, .ref ad6, .ref ad7, .ref ad8, .int 0, .ref ad9, .ref ad10, .ref ad11, .ref ad12, .ref ad13])), (ad2, .inr (3, [.int 0, .int 0, .int 10, .int 0, .int 0, .int 1, .ref ad14, .ref ad15, .ref ad16, .ref ad17, .ref ad18]))] sz)) 0 0 (va_A [(ad0, .inr (9, [.ref ad1, .ref ad2, .ref ad3, .ref ad4, .ref ad5, .ref ad6, .ref ad7, .ref ad8, .int 0, .ref ad9, .ref ad10, .ref ad11, .ref ad12, .ref ad13])), (ad2, .inr (3, [.int 0, .int 0, .int 10, .int 0, .int 0, .int 1, .ref ad14, .ref ad15, .ref ad16, .ref ad17, .ref ad18]))] sz) := by
  refine Met.ofW (cc := cX9_guess) (maxL := 8) (ret := (some .int)) (by decide) rfl ?_
  intro p e s m args below meth c s₁ B hml hv
  obtain ⟨rfl, hsz, hP, hK, hD0⟩ := hv
  have hx := B.exec
  have hb := B.bytes
  have hr := B.returns
  have hts := atoms_spec (ws := wsX9_guess) B.pre
  have hown : s.vm.findClass RX9 = some m.cls := findClass_of_methodNamed B.named
  have hlocks := B.notSynchronized
  subst hsz
  have hD := hD0.self (sz := s.heap.size)
  generalize hAe : va_A [(ad0, .inr (9, [.ref ad1, .ref ad2, .ref ad3, .ref ad4, .ref ad5, .ref ad6, .ref ad7, .ref ad8, .int 0, .ref ad9, .ref ad10, .ref ad11, .ref ad12, .ref ad13])), (ad2, .inr (3, [.int 0, .int 0, .int 10, .int 0, .int 0, .int 1, .ref ad14, .ref ad15, .ref ad16, .ref ad17, .ref ad18]))] s.heap.size = A at hD ⊢
  have hA : ∀ q : Nat, s.heap.size ≤ q → A q := fun q h => by rw [← hAe]; exact Or.inr h
  have hS : va_S A s.heap s.heap [] := va_S.rf
  have hP : va_P (dC, dI) vwCl [(ad0, .inr (9, [.ref ad1, .ref ad2, .ref ad3, .ref ad4, .ref ad5, .ref ad6, .ref ad7, .ref ad8, .int 0, .ref ad9, .ref ad10, .ref ad11, .ref ad12, .ref ad13])), (ad2, .inr (3, [.int 0, .int 0, .int 10, .int 0, .int 0, .int 1, .ref ad14, .ref ad15, .ref ad16, .ref ad17, .ref ad18]))] s.heap := hP
  have hl := lv_entry ([.ref ad0, .int vi0]) (n := 8) (Nat.le_of_ble_eq_true rfl)
  rw [lg_entry_eq]
  generalize (lg_sl ([.ref ad0, .int vi0]) ++ List.replicate (8 - (lg_sl ([.ref ad0, .int vi0])).length) Slot.unset).toArray = ls at hl ⊢
  have hl : lv_has ls 8 [(0, .ref ad0), (1, .int vi0)] := hl
  refine lv_iload_n hx hb dX9_guess_0 rfl (lv_at hl 1 rfl) ?_
  have hPc := hP.sub (ws' := []) [] rfl
  have hDc := hD.sub (ws' := []) [] (by decide) rfl
  have hKc := hK.sub (tys' := []) [] rfl
  have hFc := va_free (wc := []) hD hS hA [] rfl
  refine va_calli (va_runS (As := [.int vi0]) (rest := []) ⟨hx, hb, hml, hown, hts⟩ (ct_X9_isStep l dC dI vi0 s.heap.size) (va_cwS 1 hts gX9_guess_X9_isStep rfl rfl rfl (by decide +kernel) ⟨Nat.le_of_ble_eq_true rfl, Nat.le_of_ble_eq_true rfl⟩) ⟨fun a U g mk q => by obtain ⟨q0, q1, qP, qK, qD⟩ := q; exact ⟨q0, q1, qP, va_K.moved (u := U) (U := U.calling g mk a) (Vm.Alike.refl U.vm) qK, qD⟩, fun U hU hW => ⟨rfl, by rw [hU], by rw [hU]; exact hPc, va_K.moved hW.alike hKc, hDc.weaken (fun _ _ _ _ => trivial)⟩⟩ rfl rfl hl.1 rfl (lv_room (Nat.le_of_ble_eq_true rfl)) dX9_guess_1 ⟨Nat.le_of_ble_eq_true rfl, Nat.le_of_ble_eq_true rfl⟩) hS (fun q _ h => hFc q h) hFc (fun r1 u t H1 locs ht hvm hw hB hz1 hk1 hS => ?_)
  obtain ⟨hP1, hK1, hD1⟩ := hB
  rw [ht] at hP1
  have hK1 := va_K.moved hvm.symm hK1
  obtain ⟨hP, hD⟩ := va_join (wr := [(ad0, .inr (9, [.ref ad1, .ref ad2, .ref ad3, .ref ad4, .ref ad5, .ref ad6, .ref ad7, .ref ad8, .int 0, .ref ad9, .ref ad10, .ref ad11, .ref ad12, .ref ad13])), (ad2, .inr (3, [.int 0, .int 0, .int 10, .int 0, .int 0, .int 1, .ref ad14, .ref ad15, .ref ad16, .ref ad17, .ref ad18]))]) (w1 := []) hP hD [] [0, 1] rfl rfl (by decide) (by decide) hk1 hFc hP1 hD1
  have hK := (hK.sub (tys' := []) [] rfl).app hK1
  clear hPc hDc hKc hFc hP1 hD1 hK1 hk1 hz1
  generalize H1 = H at hP hS ⊢
  have hP : va_P (dC, dI) vwCl [(ad0, .inr (9, [.ref ad1, .ref ad2, .ref ad3, .ref ad4, .ref ad5, .ref ad6, .ref ad7, .ref ad8, .int 0, .ref ad9, .ref ad10, .ref ad11, .ref ad12, .ref ad13])), (ad2, .inr (3, [.int 0, .int 0, .int 10, .int 0, .int 0, .int 1, .ref ad14, .ref ad15, .ref ad16, .ref ad17, .ref ad18]))] H := hP
  have hD : va_D A [(ad0, .inr (9, [.ref ad1, .ref ad2, .ref ad3, .ref ad4, .ref ad5, .ref ad6, .ref ad7, .ref ad8, .int 0, .ref ad9, .ref ad10, .ref ad11, .ref ad12, .ref ad13])), (ad2, .inr (3, [.int 0, .int 0, .int 10, .int 0, .int 0, .int 1, .ref ad14, .ref ad15, .ref ad16, .ref ad17, .ref ad18]))] := hD
  have hK : va_K (dC, dI) vwCl [] s := hK
  refine W.widen (k := 0) (n := 0) (by decide) (by decide) ?_
  have w2 : r1 = sp_rng vi0 0 999 := hw
  refine lv_if_ne (tgt := 10) hx hb dX9_guess_4 (by decide) (fun c3 => ?_) (fun c3 => ?_)
  · refine lv_aload_n hx hb dX9_guess_10 rfl (lv_at hl 0 rfl) ?_
    refine va_get (D := (dC, dI)) (ci := 9) (v := .ref ad2) (C := RX9) (T := TX9) (N := 14) hx hb hts iw_X9_guess_X9 hown hK hP 0 rfl rfl 1 (by decide) (hts _ kk_X9_guess_0) (fun _ h9 => h9) rfl dX9_guess_11 ?_
    refine va_get (D := (dC, dI)) (ci := 3) (v := .int 0) (C := RX3) (T := TX3) (N := 11) hx hb hts iw_X9_guess_X3 hown hK hP 1 rfl rfl 1 (by decide) (hts _ kk_X9_guess_1) (fun _ h9 => h9) rfl dX9_guess_14 ?_
    refine lv_if_ne (tgt := 23) hx hb dX9_guess_17 (by decide) (fun cz => absurd cz (by decide)) (fun _ => ?_)
    refine lv_bipush (v := (-4)) hx hb dX9_guess_20 (by decide) ?_
    refine W.widen (k := 0) (n := 0) (by decide) (by decide) ?_
    exact W.iret (v := (-4)) hx hb hr (fun t ht hW => ⟨⟨(-4), (), rfl, (by first | rfl | (simp only [sp_guess, sp_rng] at *; grind)), trivial⟩, hS.F ht⟩) hS.2.2 dX9_guess_22
  · have hpin : r1 = 0 := by grind
    subst hpin
    refine lv_bipush (v := (-2)) hx hb dX9_guess_7 (by decide) ?_
    refine W.widen (k := 0) (n := 0) (by decide) (by decide) ?_
    exact W.iret (v := (-2)) hx hb hr (fun t ht hW => ⟨⟨(-2), (), rfl, (by first | rfl | (simp only [sp_guess, sp_rng] at *; grind)), trivial⟩, hS.F ht⟩) hS.2.2 dX9_guess_9

set_option maxHeartbeats 4000000 in
set_option maxRecDepth 100000 in
theorem ct_X9_count (l : Launch) (dC : Nat → ClassId) (dI : Nat → Nat → Nat) (ad0 : Nat) (vi0 : Int32) (ad1 : Nat) (ad2 : Nat) (ad3 : Nat) (ad4 : Nat) (ad5 : Nat) (ad6 : Nat) (ad7 : Nat) (ad8 : Nat) (ad9 : Nat) (ad10 : Nat) (ad11 : Nat) (ad12 : Nat) (ad13 : Nat) (ad14 : Nat) (ad15 : Nat) (ad16 : Nat) (ad17 : Nat) (ad18 : Nat) (ad19 : Nat) (ad20 : Nat) (ad21 : Nat) (ad22 : Nat) (ad23 : Nat) (ad24 : Nat) (ad25 : Nat) (sz : Nat) : Met l yX9_count wsX9_count ({ frames := 0, cells := 0, slots := 0, locals := 0 }) (va_Pc [.ref ad0, .int vi0] (fun U => U.heap.size = sz ∧ va_P (dC, dI) vwCl [(ad0, .inr (9, [.ref ad1, .ref ad2, .ref ad3, .ref ad4, .ref ad5, .ref ad6, .ref ad7, .ref ad8, .int 0, .ref ad9, .ref ad10, .ref ad11, .ref ad12, .ref ad13])), (ad1, .inr (7, [.int 0, .int 0, .int (-1), .ref ad14, .ref ad15, .int 0, .int 0, .int 0, .int 0, .ref ad16, .ref ad17, .int 0, .int 0, .int 0])), (ad12, .inr (6, [.int 1, .ref ad18, .int 0, .ref ad19])), (ad13, .inr (1, [.int 0, .int 0, .int 0, .ref ad20, .ref ad21, .ref ad22, .ref ad23, .ref ad24, .ref ad25]))] U.heap ∧ va_K (dC, dI) vwCl [] U ∧ va_D (fun _ => True) [(ad0, .inr (9, [.ref ad1, .ref ad2, .ref ad3, .ref ad4, .ref ad5, .ref ad6, .ref ad7, .ref ad8, .int 0, .ref ad9, .ref ad10, .ref ad11, .ref ad12, .ref ad13])), (ad1, .inr (7, [.int 0, .int 0, .int (-1), .ref ad14, .ref ad15, .int 0, .int 0, .int 0, .int 0, .ref ad16, .ref ad17, .int 0, .int 0, .int 0])), (ad12, .inr (6, [.int 1, .ref ad18, .int 0, .ref ad19])), (ad13, .inr (1, [.int 0, .int 0, .int 0, .ref ad20, .ref ad21, .ref ad22, .ref ad23, .ref ad24, .ref ad25]))])) (va_Qi (fun (r : Int32) (_ : Unit) => r = sp_count vi0) (fun _ _ => True) (va_A [(ad0, .inr (9, [.ref ad1, .ref ad2, .ref ad3, .ref ad4, .ref ad5, .ref ad6, .ref ad7, .ref ad8, .int 0, .ref ad9, .ref ad10, .ref ad11, .ref ad12, .ref ad13])), (ad1, .inr (7, [.int 0, .int 0, .int (-1), .ref ad14, .ref ad15, .int 0, .int 0, .int 0, .int 0, .ref ad16, .ref ad17, .int 0, .int 0, .int 0])), (ad12, .inr (6, [.int 1, .ref ad18, .int 0, .ref ad19])), (ad13, .inr (1, [.int 0, .int 0, .int 0, .ref ad20, .ref ad21, .ref ad22, .ref ad23, .ref ad24, .ref ad25]))] sz)) 0 0 (va_A [(ad0, .inr (9, [.ref ad1, .ref ad2, .ref ad3, .ref ad4, .ref ad5, .ref ad6, .ref ad7, .ref ad8, .int 0, .ref ad9, .ref ad10, .ref ad11, .ref ad12, .ref ad13])), (ad1, .inr (7, [.int 0, .int 0, .int (-1), .ref ad14, .ref ad15, .int 0, .int 0, .int 0, .int 0, .ref ad16, .ref ad17, .int 0, .int 0, .int 0])), (ad12, .inr (6, [.int 1, .ref ad18, .int 0, .ref ad19])), (ad13, .inr (1, [.int 0, .int 0, .int 0, .ref ad20, .ref ad21, .ref ad22, .ref ad23, .ref ad24, .ref ad25]))] sz) := by
  refine Met.ofW (cc := cX9_count) (maxL := 2) (ret := (some .int)) (by decide) rfl ?_
  intro p e s m args below meth c s₁ B hml hv
  obtain ⟨rfl, hsz, hP, hK, hD0⟩ := hv
  have hx := B.exec
  have hb := B.bytes
  have hr := B.returns
  have hts := atoms_spec (ws := wsX9_count) B.pre
  have hown : s.vm.findClass RX9 = some m.cls := findClass_of_methodNamed B.named
  have hlocks := B.notSynchronized
  subst hsz
  have hD := hD0.self (sz := s.heap.size)
  generalize hAe : va_A [(ad0, .inr (9, [.ref ad1, .ref ad2, .ref ad3, .ref ad4, .ref ad5, .ref ad6, .ref ad7, .ref ad8, .int 0, .ref ad9, .ref ad10, .ref ad11, .ref ad12, .ref ad13])), (ad1, .inr (7, [.int 0, .int 0, .int (-1), .ref ad14, .ref ad15, .int 0, .int 0, .int 0, .int 0, .ref ad16, .ref ad17, .int 0, .int 0, .int 0])), (ad12, .inr (6, [.int 1, .ref ad18, .int 0, .ref ad19])), (ad13, .inr (1, [.int 0, .int 0, .int 0, .ref ad20, .ref ad21, .ref ad22, .ref ad23, .ref ad24, .ref ad25]))] s.heap.size = A at hD ⊢
  have hA : ∀ q : Nat, s.heap.size ≤ q → A q := fun q h => by rw [← hAe]; exact Or.inr h
  have hS : va_S A s.heap s.heap [] := va_S.rf
  have hP : va_P (dC, dI) vwCl [(ad0, .inr (9, [.ref ad1, .ref ad2, .ref ad3, .ref ad4, .ref ad5, .ref ad6, .ref ad7, .ref ad8, .int 0, .ref ad9, .ref ad10, .ref ad11, .ref ad12, .ref ad13])), (ad1, .inr (7, [.int 0, .int 0, .int (-1), .ref ad14, .ref ad15, .int 0, .int 0, .int 0, .int 0, .ref ad16, .ref ad17, .int 0, .int 0, .int 0])), (ad12, .inr (6, [.int 1, .ref ad18, .int 0, .ref ad19])), (ad13, .inr (1, [.int 0, .int 0, .int 0, .ref ad20, .ref ad21, .ref ad22, .ref ad23, .ref ad24, .ref ad25]))] s.heap := hP
  have hl := lv_entry ([.ref ad0, .int vi0]) (n := 2) (Nat.le_of_ble_eq_true rfl)
  rw [lg_entry_eq]
  generalize (lg_sl ([.ref ad0, .int vi0]) ++ List.replicate (2 - (lg_sl ([.ref ad0, .int vi0])).length) Slot.unset).toArray = ls at hl ⊢
  have hl : lv_has ls 2 [(0, .ref ad0), (1, .int vi0)] := hl
  refine lv_iload_n hx hb dX9_count_0 rfl (lv_at hl 1 rfl) ?_
  by_cases c1 : vi0 = 0
  · skip
    have hpin : vi0 = 0 := by grind
    subst hpin
    refine lv_tableIn (off := 31) (tgt := 32) hx hb dX9_count_1 (by decide) (by decide) rfl (by decide) ?_
    refine lv_aload_n hx hb dX9_count_32 rfl (lv_at hl 0 rfl) ?_
    refine va_get (D := (dC, dI)) (ci := 9) (v := .ref ad13) (C := RX9) (T := TX9) (N := 14) hx hb hts iw_X9_count_X9 hown hK hP 0 rfl rfl 13 (by decide) (hts _ kk_X9_count_0) (fun _ h9 => h9) rfl dX9_count_33 ?_
    refine va_get (D := (dC, dI)) (ci := 1) (v := .int 0) (C := RX1) (T := TX1) (N := 9) hx hb hts iw_X9_count_X1 hown hK hP 3 rfl rfl 0 (by decide) (hts _ kk_X9_count_1) (fun _ h9 => h9) rfl dX9_count_36 ?_
    refine W.widen (k := 0) (n := 0) (by decide) (by decide) ?_
    exact W.iret (v := 0) hx hb hr (fun t ht hW => ⟨⟨0, (), rfl, (by first | rfl | (simp only [sp_count] at *; grind)), trivial⟩, hS.F ht⟩) hS.2.2 dX9_count_39
  -- else
  by_cases c2 : vi0 = 1
  · skip
    have hpin : vi0 = 1 := by grind
    subst hpin
    refine lv_tableIn (off := 39) (tgt := 40) hx hb dX9_count_1 (by decide) (by decide) rfl (by decide) ?_
    refine lv_aload_n hx hb dX9_count_40 rfl (lv_at hl 0 rfl) ?_
    refine va_get (D := (dC, dI)) (ci := 9) (v := .ref ad13) (C := RX9) (T := TX9) (N := 14) hx hb hts iw_X9_count_X9 hown hK hP 0 rfl rfl 13 (by decide) (hts _ kk_X9_count_0) (fun _ h9 => h9) rfl dX9_count_41 ?_
    refine va_get (D := (dC, dI)) (ci := 1) (v := .int 0) (C := RX1) (T := TX1) (N := 9) hx hb hts iw_X9_count_X1 hown hK hP 3 rfl rfl 1 (by decide) (hts _ kk_X9_count_2) (fun _ h9 => h9) rfl dX9_count_44 ?_
    refine W.widen (k := 0) (n := 0) (by decide) (by decide) ?_
    exact W.iret (v := 0) hx hb hr (fun t ht hW => ⟨⟨0, (), rfl, (by first | rfl | (simp only [sp_count] at *; grind)), trivial⟩, hS.F ht⟩) hS.2.2 dX9_count_47
  -- else
  by_cases c3 : vi0 = 2
  · skip
    have hpin : vi0 = 2 := by grind
    subst hpin
    refine lv_tableIn (off := 47) (tgt := 48) hx hb dX9_count_1 (by decide) (by decide) rfl (by decide) ?_
    refine lv_aload_n hx hb dX9_count_48 rfl (lv_at hl 0 rfl) ?_
    refine va_get (D := (dC, dI)) (ci := 9) (v := .ref ad12) (C := RX9) (T := TX9) (N := 14) hx hb hts iw_X9_count_X9 hown hK hP 0 rfl rfl 12 (by decide) (hts _ kk_X9_count_3) (fun _ h9 => h9) rfl dX9_count_49 ?_
    refine va_get (D := (dC, dI)) (ci := 6) (v := .int 1) (C := RX6) (T := TX6) (N := 4) hx hb hts iw_X9_count_X6 hown hK hP 2 rfl rfl 0 (by decide) (hts _ kk_X9_count_4) (fun _ h9 => h9) rfl dX9_count_52 ?_
    refine W.widen (k := 0) (n := 0) (by decide) (by decide) ?_
    exact W.iret (v := 1) hx hb hr (fun t ht hW => ⟨⟨1, (), rfl, (by first | rfl | (simp only [sp_count] at *; grind)), trivial⟩, hS.F ht⟩) hS.2.2 dX9_count_55
  -- else
  by_cases c4 : vi0 = 3
  · skip
    have hpin : vi0 = 3 := by grind
    subst hpin
    refine lv_tableIn (off := 55) (tgt := 56) hx hb dX9_count_1 (by decide) (by decide) rfl (by decide) ?_
    refine lv_aload_n hx hb dX9_count_56 rfl (lv_at hl 0 rfl) ?_
    refine va_get (D := (dC, dI)) (ci := 9) (v := .ref ad1) (C := RX9) (T := TX9) (N := 14) hx hb hts iw_X9_count_X9 hown hK hP 0 rfl rfl 0 (by decide) (hts _ kk_X9_count_5) (fun _ h9 => h9) rfl dX9_count_57 ?_
    refine va_get (D := (dC, dI)) (ci := 7) (v := .int 0) (C := RX7) (T := TX7) (N := 14) hx hb hts iw_X9_count_X7 hown hK hP 1 rfl rfl 0 (by decide) (hts _ kk_X9_count_6) (fun _ h9 => h9) rfl dX9_count_60 ?_
    refine W.widen (k := 0) (n := 0) (by decide) (by decide) ?_
    exact W.iret (v := 0) hx hb hr (fun t ht hW => ⟨⟨0, (), rfl, (by first | rfl | (simp only [sp_count] at *; grind)), trivial⟩, hS.F ht⟩) hS.2.2 dX9_count_63
  -- else
  refine lv_tableOut (tgt := 64) hx hb dX9_count_1 (by have z0 := lv_neT c1 (show (0 : Int32).toInt = 0 by decide); have z1 := lv_neT c2 (show (1 : Int32).toInt = 1 by decide); have z2 := lv_neT c3 (show (2 : Int32).toInt = 2 by decide); have z3 := lv_neT c4 (show (3 : Int32).toInt = 3 by decide); omega) (by decide) ?_
  refine lv_iconst (v := (-1)) hx hb dX9_count_64 (by decide) ?_
  refine W.widen (k := 0) (n := 0) (by decide) (by decide) ?_
  exact W.iret (v := (-1)) hx hb hr (fun t ht hW => ⟨⟨(-1), (), rfl, (by first | rfl | (simp only [sp_count] at *; grind)), trivial⟩, hS.F ht⟩) hS.2.2 dX9_count_65

