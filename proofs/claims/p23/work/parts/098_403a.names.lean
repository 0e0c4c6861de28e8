abbrev cX1_init : ByteArray := prog_3_method_1_code
def yX1_init : MethodName := ⟨RX1, "<init>", "()V"⟩
abbrev cX9_init : ByteArray := prog_1_method_1_code
def yX9_init : MethodName := ⟨RX9, "<init>", "()V"⟩
abbrev cX10_init : ByteArray := prog_12_method_1_code
def yX10_init : MethodName := ⟨RX10, "<init>", "()V"⟩
def wsX1_init : List Cond := .code yX1_init cX1_init 1 none :: ([.methodLink RX1 3 objectInit, .instanceMethod objectInit, .code objectInit ⟨#[0xb1]⟩ 1 none, .fieldLink RX1 9 "PaidBySigns$Diary" "seen" "I", .fieldLink RX1 15 "PaidBySigns$Diary" "rights" "I", .fieldLink RX1 18 "PaidBySigns$Diary" "latestStep" "I", .arrayClass .int, .fieldLink RX1 21 "PaidBySigns$Diary" "seenStep" "[I", .fieldLink RX1 25 "PaidBySigns$Diary" "seenSign" "[I", .fieldLink RX1 28 "PaidBySigns$Diary" "timesRight" "[I", .fieldLink RX1 31 "PaidBySigns$Diary" "rightStep" "[I", .fieldLink RX1 34 "PaidBySigns$Diary" "rightOf" "[I", .fieldLink RX1 37 "PaidBySigns$Diary" "rightSign" "[I"] ++ wsX10)
def wsX9_init_r1 : List Cond := [Cond.methodLink RX9 1 objectInit, Cond.instanceMethod objectInit, Cond.code objectInit ⟨#[0xb1]⟩ 1 none, Cond.classLink RX9 7 RX7, Cond.instantiable RX7 14, Cond.initialized RX7, Cond.fieldLink RX9 10 "PaidBySigns" "reader" "LPaidBySigns$Reader;", Cond.classLink RX9 16 RX3, Cond.instantiable RX3 11, Cond.initialized RX3, Cond.fieldLink RX9 19 "PaidBySigns" "hire" "LPaidBySigns$Hire;", Cond.arrayClass .int, Cond.fieldLink RX9 23 "PaidBySigns" "hand" "[I", Cond.classLink RX9 27 RX2, Cond.instantiable RX2 2, Cond.initialized RX2, Cond.fieldLink RX9 30 "PaidBySigns" "latest" "LPaidBySigns$Fraction;", Cond.fieldLink RX9 34 "PaidBySigns" "trial" "LPaidBySigns$Fraction;", Cond.fieldLink RX9 37 "PaidBySigns" "champion" "LPaidBySigns$Fraction;", Cond.arrayClass .long, Cond.fieldLink RX9 40 "PaidBySigns" "wageUpper" "[J", Cond.fieldLink RX9 44 "PaidBySigns" "wageLower" "[J", Cond.fieldLink RX9 47 "PaidBySigns" "hasWages" "Z", Cond.classLink RX9 51 RX4]
def wsX9_init_r2 : List Cond := [Cond.instantiable RX4 12, Cond.initialized RX4, Cond.fieldLink RX9 54 "PaidBySigns" "cheapest" "LPaidBySigns$LeastCost;", Cond.classLink RX9 58 RX5, Cond.instantiable RX5 5, Cond.initialized RX5, Cond.fieldLink RX9 61 "PaidBySigns" "oneSum" "LPaidBySigns$OneSum;", Cond.classLink RX9 65 RX0, Cond.instantiable RX0 11, Cond.initialized RX0, Cond.fieldLink RX9 68 "PaidBySigns" "coinSearch" "LPaidBySigns$CoinSearch;", Cond.classLink RX9 72 RX6, Cond.instantiable RX6 4, Cond.initialized RX6, Cond.fieldLink RX9 75 "PaidBySigns" "proofs" "LPaidBySigns$Proofs;", Cond.classLink RX9 79 RX1, Cond.instantiable RX1 9, Cond.initialized RX1, Cond.fieldLink RX9 82 "PaidBySigns" "diary" "LPaidBySigns$Diary;", Cond.methodLink RX9 9 yX7_init, Cond.instanceMethod yX7_init, Cond.code yX7_init cX7_init 1 none, Cond.methodLink RX7 3 objectInit, Cond.fieldLink RX7 9 "PaidBySigns$Reader" "length" "I"]
def wsX9_init_r3 : List Cond := [Cond.fieldLink RX7 15 "PaidBySigns$Reader" "faultKind" "I", Cond.fieldLink RX7 18 "PaidBySigns$Reader" "faultPlace" "I", Cond.classLink RX7 21 RX3, Cond.fieldLink RX7 24 "PaidBySigns$Reader" "into" "LPaidBySigns$Hire;", Cond.arrayClass .byte, Cond.fieldLink RX7 28 "PaidBySigns$Reader" "text" "[B", Cond.fieldLink RX7 32 "PaidBySigns$Reader" "next" "I", Cond.fieldLink RX7 35 "PaidBySigns$Reader" "token" "I", Cond.fieldLink RX7 38 "PaidBySigns$Reader" "start" "I", Cond.fieldLink RX7 41 "PaidBySigns$Reader" "value" "I", Cond.fieldLink RX7 44 "PaidBySigns$Reader" "nameStart" "[I", Cond.fieldLink RX7 48 "PaidBySigns$Reader" "nameEnd" "[I", Cond.fieldLink RX7 51 "PaidBySigns$Reader" "hasElse" "Z", Cond.fieldLink RX7 55 "PaidBySigns$Reader" "hasLeast" "Z", Cond.fieldLink RX7 58 "PaidBySigns$Reader" "hasFeel" "Z", Cond.methodLink RX7 23 yX3_init, Cond.instanceMethod yX3_init, Cond.code yX3_init cX3_init 1 none, Cond.methodLink RX3 3 objectInit, Cond.fieldLink RX3 9 "PaidBySigns$Hire" "brings" "[I", Cond.fieldLink RX3 15 "PaidBySigns$Hire" "costs" "[I", Cond.classLink RX3 18 "[[I", Cond.fieldLink RX3 20 "PaidBySigns$Hire" "chances" "[[I", Cond.fieldLink RX3 23 "PaidBySigns$Hire" "rate" "[I"]
def wsX9_init_r4 : List Cond := [Cond.fieldLink RX3 26 "PaidBySigns$Hire" "mark" "[I", Cond.methodLink RX3 29 yX3_clear, Cond.instanceMethod yX3_clear, Cond.selects RX3 yX3_clear yX3_clear, Cond.code yX3_clear cX3_clear 1 none, Cond.fieldLink RX3 32 "PaidBySigns$Hire" "signs" "I", Cond.fieldLink RX3 36 "PaidBySigns$Hire" "works" "I", Cond.fieldLink RX3 39 "PaidBySigns$Hire" "whole" "I", Cond.fieldLink RX3 42 "PaidBySigns$Hire" "otherwise" "I", Cond.fieldLink RX3 45 "PaidBySigns$Hire" "least" "I", Cond.fieldLink RX3 48 "PaidBySigns$Hire" "rates" "I", Cond.methodLink RX9 18 yX3_init, Cond.methodLink RX9 29 yX2_init, Cond.instanceMethod yX2_init, Cond.code yX2_init cX2_init 1 none, Cond.methodLink RX2 3 objectInit, Cond.constantLong RX2 9 (-2000000000), Cond.fieldLink RX2 11 "PaidBySigns$Fraction" "upper" "J", Cond.fieldLink RX2 17 "PaidBySigns$Fraction" "lower" "J", Cond.methodLink RX9 53 yX4_init, Cond.instanceMethod yX4_init, Cond.code yX4_init cX4_init 1 none, Cond.methodLink RX4 3 objectInit, Cond.fieldLink RX4 9 "PaidBySigns$LeastCost" "above" "[J"]
def wsX9_init_r5 : List Cond := [Cond.fieldLink RX4 15 "PaidBySigns$LeastCost" "aboveLower" "J", Cond.classLink RX4 19 RX8, Cond.instantiable RX8 7, Cond.initialized RX8, Cond.fieldLink RX4 22 "PaidBySigns$LeastCost" "table" "LPaidBySigns$Table;", Cond.fieldLink RX4 26 "PaidBySigns$LeastCost" "columnSign" "[I", Cond.fieldLink RX4 30 "PaidBySigns$LeastCost" "columnRate" "[I", Cond.fieldLink RX4 33 "PaidBySigns$LeastCost" "columnRoom" "[I", Cond.fieldLink RX4 36 "PaidBySigns$LeastCost" "columns" "I", Cond.fieldLink RX4 40 "PaidBySigns$LeastCost" "rooms" "I", Cond.classLink RX4 43 RX3, Cond.fieldLink RX4 46 "PaidBySigns$LeastCost" "hire" "LPaidBySigns$Hire;", Cond.fieldLink RX4 50 "PaidBySigns$LeastCost" "work" "I", Cond.fieldLink RX4 53 "PaidBySigns$LeastCost" "keptSign" "I", Cond.fieldLink RX4 56 "PaidBySigns$LeastCost" "joinedSign" "I", Cond.methodLink RX4 21 yX8_init, Cond.instanceMethod yX8_init, Cond.code yX8_init cX8_init 1 none, Cond.methodLink RX8 3 objectInit, Cond.classLink RX8 11 "[[J", Cond.fieldLink RX8 13 "PaidBySigns$Table" "entry" "[[J", Cond.fieldLink RX8 16 "PaidBySigns$Table" "lineName" "[I", Cond.fieldLink RX8 20 "PaidBySigns$Table" "columnName" "[I", Cond.methodLink RX4 45 yX3_init]
def wsX9_init_r6 : List Cond := [Cond.methodLink RX9 60 yX5_init, Cond.instanceMethod yX5_init, Cond.code yX5_init cX5_init 1 none, Cond.methodLink RX5 1 objectInit, Cond.methodLink RX9 67 yX0_init, Cond.instanceMethod yX0_init, Cond.code yX0_init cX0_init 1 none, Cond.methodLink RX0 3 objectInit, Cond.fieldLink RX0 9 "PaidBySigns$CoinSearch" "chosen" "[I", Cond.constant RX0 15 (1000000), Cond.fieldLink RX0 16 "PaidBySigns$CoinSearch" "bestCost" "I", Cond.fieldLink RX0 20 "PaidBySigns$CoinSearch" "felt" "[I", Cond.fieldLink RX0 23 "PaidBySigns$CoinSearch" "own" "[I", Cond.classLink RX0 26 "[[I", Cond.fieldLink RX0 28 "PaidBySigns$CoinSearch" "share" "[[I", Cond.fieldLink RX0 31 "PaidBySigns$CoinSearch" "rest" "[[I", Cond.fieldLink RX0 34 "PaidBySigns$CoinSearch" "left" "[[I", Cond.fieldLink RX0 37 "PaidBySigns$CoinSearch" "tried" "[I", Cond.methodLink RX9 74 yX6_init, Cond.instanceMethod yX6_init, Cond.code yX6_init cX6_init 1 none, Cond.methodLink RX6 3 objectInit, Cond.fieldLink RX6 9 "PaidBySigns$Proofs" "lowerNumber" "I", Cond.fieldLink RX6 15 "PaidBySigns$Proofs" "press" "[I"]
def wsX9_init_r7 : List Cond := [Cond.fieldLink RX6 19 "PaidBySigns$Proofs" "pressOfElse" "I", Cond.fieldLink RX6 22 "PaidBySigns$Proofs" "mixed" "[I", Cond.methodLink RX9 81 yX1_init, Cond.instanceMethod yX1_init, Cond.code yX1_init cX1_init 1 none, Cond.methodLink RX1 3 objectInit, Cond.fieldLink RX1 9 "PaidBySigns$Diary" "seen" "I", Cond.fieldLink RX1 15 "PaidBySigns$Diary" "rights" "I", Cond.fieldLink RX1 18 "PaidBySigns$Diary" "latestStep" "I", Cond.fieldLink RX1 21 "PaidBySigns$Diary" "seenStep" "[I", Cond.fieldLink RX1 25 "PaidBySigns$Diary" "seenSign" "[I", Cond.fieldLink RX1 28 "PaidBySigns$Diary" "timesRight" "[I", Cond.fieldLink RX1 31 "PaidBySigns$Diary" "rightStep" "[I", Cond.fieldLink RX1 34 "PaidBySigns$Diary" "rightOf" "[I", Cond.fieldLink RX1 37 "PaidBySigns$Diary" "rightSign" "[I"]
def wsX9_init : List Cond := .code yX9_init cX9_init 1 none :: ((wsX9_init_r1 ++ (wsX9_init_r2 ++ (wsX9_init_r3 ++ (wsX9_init_r4 ++ (wsX9_init_r5 ++ (wsX9_init_r6 ++ wsX9_init_r7)))))) ++ wsX70 ++ wsX90 ++ wsX30 ++ wsX20 ++ wsX40 ++ wsX50 ++ wsX00 ++ wsX60 ++ wsX10 ++ wsX80)
def wsX10_init_r1 : List Cond := [Cond.methodLink RX10 1 objectInit, Cond.instanceMethod objectInit, Cond.code objectInit ⟨#[0xb1]⟩ 1 none, Cond.arrayClass .byte, Cond.fieldLink RX10 7 "PaidBySignsModel" "tape" "[B", Cond.fieldLink RX10 13 "PaidBySignsModel" "faultPlace" "I", Cond.arrayClass .int, Cond.fieldLink RX10 17 "PaidBySignsModel" "num" "[I", Cond.arrayClass .long, Cond.fieldLink RX10 21 "PaidBySignsModel" "signName" "[J", Cond.fieldLink RX10 25 "PaidBySignsModel" "workName" "[J", Cond.fieldLink RX10 28 "PaidBySignsModel" "brings" "[I", Cond.fieldLink RX10 31 "PaidBySignsModel" "costs" "[I", Cond.fieldLink RX10 34 "PaidBySignsModel" "chances" "[I", Cond.fieldLink RX10 37 "PaidBySignsModel" "rates" "[I", Cond.fieldLink RX10 40 "PaidBySignsModel" "marks" "[I", Cond.fieldLink RX10 43 "PaidBySignsModel" "hand" "[I", Cond.fieldLink RX10 46 "PaidBySignsModel" "groupOf" "[I", Cond.fieldLink RX10 49 "PaidBySignsModel" "row" "[J", Cond.fieldLink RX10 52 "PaidBySignsModel" "least" "[J", Cond.fieldLink RX10 55 "PaidBySignsModel" "chosen" "[I", Cond.fieldLink RX10 58 "PaidBySignsModel" "matrix" "[J", Cond.fieldLink RX10 61 "PaidBySignsModel" "x" "[J", Cond.fieldLink RX10 64 "PaidBySignsModel" "wageUp" "[J"]
def wsX10_init_r2 : List Cond := [Cond.fieldLink RX10 67 "PaidBySignsModel" "wageLow" "[J", Cond.fieldLink RX10 70 "PaidBySignsModel" "bestUp" "[J", Cond.fieldLink RX10 73 "PaidBySignsModel" "bestLow" "[J", Cond.fieldLink RX10 76 "PaidBySignsModel" "toldUp" "[J", Cond.fieldLink RX10 79 "PaidBySignsModel" "toldLow" "[J", Cond.fieldLink RX10 82 "PaidBySignsModel" "coin" "[I", Cond.fieldLink RX10 85 "PaidBySignsModel" "presses" "[I", Cond.fieldLink RX10 88 "PaidBySignsModel" "mixes" "[I", Cond.fieldLink RX10 91 "PaidBySignsModel" "sTold" "[I", Cond.fieldLink RX10 94 "PaidBySignsModel" "sSign" "[I", Cond.fieldLink RX10 97 "PaidBySignsModel" "rOf" "[I", Cond.fieldLink RX10 100 "PaidBySignsModel" "rTold" "[I", Cond.fieldLink RX10 103 "PaidBySignsModel" "rSign" "[I", Cond.methodLink RX10 106 yX10_begin, Cond.instanceMethod yX10_begin, Cond.selects RX10 yX10_begin yX10_begin, Cond.initialized RX10, Cond.code yX10_begin cX10_begin 1 none, Cond.fieldLink RX10 187 "PaidBySignsModel" "seen" "I", Cond.methodLink RX10 109 yX10_settle, Cond.instanceMethod yX10_settle, Cond.selects RX10 yX10_settle yX10_settle, Cond.code yX10_settle cX10_settle 2 none, Cond.fieldLink RX10 190 "PaidBySignsModel" "lowerPress" "I"]
def wsX10_init_r3 : List Cond := [Cond.fieldLink RX10 193 "PaidBySignsModel" "seenMany" "I", Cond.fieldLink RX10 196 "PaidBySignsModel" "rightMany" "I", Cond.fieldLink RX10 199 "PaidBySignsModel" "lastTold" "I", Cond.fieldLink RX10 202 "PaidBySignsModel" "hasFraction" "Z", Cond.fieldLink RX10 206 "PaidBySignsModel" "hasWages" "Z"]
def wsX10_init : List Cond := .code yX10_init cX10_init 1 none :: ((wsX10_init_r1 ++ (wsX10_init_r2 ++ wsX10_init_r3)) ++ wsX100)
theorem bX1_init_0 : ((bys cX1_init).drop 0).take 16 = [42, 183, 0, 3, 42, 3, 181, 0, 9, 42, 3, 181, 0, 15, 42, 3] := by decide +kernel
theorem dX1_init_0 : decode cX1_init 0 = .ok (.aload_n 0, 1) := do_42 (byt_at bX1_init_0 (j := 0) rfl)
theorem dX1_init_1 : decode cX1_init 1 = .ok (.invokespecial 3, 3) := do_183 0 3 (byt_at bX1_init_0 (j := 1) rfl) (byt_at bX1_init_0 (j := 2) rfl) (byt_at bX1_init_0 (j := 3) rfl)
theorem dX1_init_4 : decode cX1_init 4 = .ok (.aload_n 0, 1) := do_42 (byt_at bX1_init_0 (j := 4) rfl)
theorem dX1_init_5 : decode cX1_init 5 = .ok (.iconst 0, 1) := do_3 (byt_at bX1_init_0 (j := 5) rfl)
theorem dX1_init_6 : decode cX1_init 6 = .ok (.putfield 9, 3) := do_181 0 9 (byt_at bX1_init_0 (j := 6) rfl) (byt_at bX1_init_0 (j := 7) rfl) (byt_at bX1_init_0 (j := 8) rfl)
theorem dX1_init_9 : decode cX1_init 9 = .ok (.aload_n 0, 1) := do_42 (byt_at bX1_init_0 (j := 9) rfl)
theorem dX1_init_10 : decode cX1_init 10 = .ok (.iconst 0, 1) := do_3 (byt_at bX1_init_0 (j := 10) rfl)
theorem dX1_init_11 : decode cX1_init 11 = .ok (.putfield 15, 3) := do_181 0 15 (byt_at bX1_init_0 (j := 11) rfl) (byt_at bX1_init_0 (j := 12) rfl) (byt_at bX1_init_0 (j := 13) rfl)
theorem dX1_init_14 : decode cX1_init 14 = .ok (.aload_n 0, 1) := do_42 (byt_at bX1_init_0 (j := 14) rfl)
theorem dX1_init_15 : decode cX1_init 15 = .ok (.iconst 0, 1) := do_3 (byt_at bX1_init_0 (j := 15) rfl)
theorem bX1_init_1 : ((bys cX1_init).drop 16).take 16 = [181, 0, 18, 42, 16, 8, 188, 10, 181, 0, 21, 42, 16, 8, 188, 10] := by decide +kernel
theorem dX1_init_16 : decode cX1_init 16 = .ok (.putfield 18, 3) := do_181 0 18 (byt_at bX1_init_1 (j := 0) rfl) (byt_at bX1_init_1 (j := 1) rfl) (byt_at bX1_init_1 (j := 2) rfl)
theorem dX1_init_19 : decode cX1_init 19 = .ok (.aload_n 0, 1) := do_42 (byt_at bX1_init_1 (j := 3) rfl)
theorem dX1_init_20 : decode cX1_init 20 = .ok (.bipush 8, 2) := do_16 8 (byt_at bX1_init_1 (j := 4) rfl) (byt_at bX1_init_1 (j := 5) rfl) (by decide)
theorem dX1_init_22 : decode cX1_init 22 = .ok (.newarray .int, 2) := by decide +kernel
theorem dX1_init_24 : decode cX1_init 24 = .ok (.putfield 21, 3) := do_181 0 21 (byt_at bX1_init_1 (j := 8) rfl) (byt_at bX1_init_1 (j := 9) rfl) (byt_at bX1_init_1 (j := 10) rfl)
theorem dX1_init_27 : decode cX1_init 27 = .ok (.aload_n 0, 1) := do_42 (byt_at bX1_init_1 (j := 11) rfl)
theorem dX1_init_28 : decode cX1_init 28 = .ok (.bipush 8, 2) := do_16 8 (byt_at bX1_init_1 (j := 12) rfl) (byt_at bX1_init_1 (j := 13) rfl) (by decide)
theorem dX1_init_30 : decode cX1_init 30 = .ok (.newarray .int, 2) := by decide +kernel
theorem bX1_init_2 : ((bys cX1_init).drop 32).take 16 = [181, 0, 25, 42, 16, 8, 188, 10, 181, 0, 28, 42, 16, 20, 188, 10] := by decide +kernel
theorem dX1_init_32 : decode cX1_init 32 = .ok (.putfield 25, 3) := do_181 0 25 (byt_at bX1_init_2 (j := 0) rfl) (byt_at bX1_init_2 (j := 1) rfl) (byt_at bX1_init_2 (j := 2) rfl)
theorem dX1_init_35 : decode cX1_init 35 = .ok (.aload_n 0, 1) := do_42 (byt_at bX1_init_2 (j := 3) rfl)
theorem dX1_init_36 : decode cX1_init 36 = .ok (.bipush 8, 2) := do_16 8 (byt_at bX1_init_2 (j := 4) rfl) (byt_at bX1_init_2 (j := 5) rfl) (by decide)
theorem dX1_init_38 : decode cX1_init 38 = .ok (.newarray .int, 2) := by decide +kernel
theorem dX1_init_40 : decode cX1_init 40 = .ok (.putfield 28, 3) := do_181 0 28 (byt_at bX1_init_2 (j := 8) rfl) (byt_at bX1_init_2 (j := 9) rfl) (byt_at bX1_init_2 (j := 10) rfl)
theorem dX1_init_43 : decode cX1_init 43 = .ok (.aload_n 0, 1) := do_42 (byt_at bX1_init_2 (j := 11) rfl)
theorem dX1_init_44 : decode cX1_init 44 = .ok (.bipush 20, 2) := do_16 20 (byt_at bX1_init_2 (j := 12) rfl) (byt_at bX1_init_2 (j := 13) rfl) (by decide)
theorem dX1_init_46 : decode cX1_init 46 = .ok (.newarray .int, 2) := by decide +kernel
theorem bX1_init_3 : ((bys cX1_init).drop 48).take 16 = [181, 0, 31, 42, 16, 20, 188, 10, 181, 0, 34, 42, 16, 20, 188, 10] := by decide +kernel
theorem dX1_init_48 : decode cX1_init 48 = .ok (.putfield 31, 3) := do_181 0 31 (byt_at bX1_init_3 (j := 0) rfl) (byt_at bX1_init_3 (j := 1) rfl) (byt_at bX1_init_3 (j := 2) rfl)
theorem dX1_init_51 : decode cX1_init 51 = .ok (.aload_n 0, 1) := do_42 (byt_at bX1_init_3 (j := 3) rfl)
theorem dX1_init_52 : decode cX1_init 52 = .ok (.bipush 20, 2) := do_16 20 (byt_at bX1_init_3 (j := 4) rfl) (byt_at bX1_init_3 (j := 5) rfl) (by decide)
theorem dX1_init_54 : decode cX1_init 54 = .ok (.newarray .int, 2) := by decide +kernel
theorem dX1_init_56 : decode cX1_init 56 = .ok (.putfield 34, 3) := do_181 0 34 (byt_at bX1_init_3 (j := 8) rfl) (byt_at bX1_init_3 (j := 9) rfl) (byt_at bX1_init_3 (j := 10) rfl)
theorem dX1_init_59 : decode cX1_init 59 = .ok (.aload_n 0, 1) := do_42 (byt_at bX1_init_3 (j := 11) rfl)
theorem dX1_init_60 : decode cX1_init 60 = .ok (.bipush 20, 2) := do_16 20 (byt_at bX1_init_3 (j := 12) rfl) (byt_at bX1_init_3 (j := 13) rfl) (by decide)
theorem dX1_init_62 : decode cX1_init 62 = .ok (.newarray .int, 2) := by decide +kernel
theorem bX1_init_4 : ((bys cX1_init).drop 64).take 16 = [181, 0, 37, 177] := by decide +kernel
theorem dX1_init_64 : decode cX1_init 64 = .ok (.putfield 37, 3) := do_181 0 37 (byt_at bX1_init_4 (j := 0) rfl) (byt_at bX1_init_4 (j := 1) rfl) (byt_at bX1_init_4 (j := 2) rfl)
theorem dX1_init_67 : decode cX1_init 67 = .ok (.return_, 1) := do_177 (byt_at bX1_init_4 (j := 3) rfl)
theorem pm_X9_init_r1 : ∀ w ∈ wsX9_init_r1, w ∈ wsX9_init := fun _ h => List.mem_cons_of_mem _ (List.mem_append_left _ (List.mem_append_left _ (List.mem_append_left _ (List.mem_append_left _ (List.mem_append_left _ (List.mem_append_left _ (List.mem_append_left _ (List.mem_append_left _ (List.mem_append_left _ (List.mem_append_left _ (List.mem_append_left _ h)))))))))))
theorem pm_X9_init_r2 : ∀ w ∈ wsX9_init_r2, w ∈ wsX9_init := fun _ h => List.mem_cons_of_mem _ (List.mem_append_left _ (List.mem_append_left _ (List.mem_append_left _ (List.mem_append_left _ (List.mem_append_left _ (List.mem_append_left _ (List.mem_append_left _ (List.mem_append_left _ (List.mem_append_left _ (List.mem_append_left _ (List.mem_append_right _ (List.mem_append_left _ h))))))))))))
theorem pm_X9_init_r3 : ∀ w ∈ wsX9_init_r3, w ∈ wsX9_init := fun _ h => List.mem_cons_of_mem _ (List.mem_append_left _ (List.mem_append_left _ (List.mem_append_left _ (List.mem_append_left _ (List.mem_append_left _ (List.mem_append_left _ (List.mem_append_left _ (List.mem_append_left _ (List.mem_append_left _ (List.mem_append_left _ (List.mem_append_right _ (List.mem_append_right _ (List.mem_append_left _ h)))))))))))))
theorem pm_X9_init_r4 : ∀ w ∈ wsX9_init_r4, w ∈ wsX9_init := fun _ h => List.mem_cons_of_mem _ (List.mem_append_left _ (List.mem_append_left _ (List.mem_append_left _ (List.mem_append_left _ (List.mem_append_left _ (List.mem_append_left _ (List.mem_append_left _ (List.mem_append_left _ (List.mem_append_left _ (List.mem_append_left _ (List.mem_append_right _ (List.mem_append_right _ (List.mem_append_right _ (List.mem_append_left _ h))))))))))))))
theorem pm_X9_init_r5 : ∀ w ∈ wsX9_init_r5, w ∈ wsX9_init := fun _ h => List.mem_cons_of_mem _ (List.mem_append_left _ (List.mem_append_left _ (List.mem_append_left _ (List.mem_append_left _ (List.mem_append_left _ (List.mem_append_left _ (List.mem_append_left _ (List.mem_append_left _ (List.mem_append_left _ (List.mem_append_left _ (List.mem_append_right _ (List.mem_append_right _ (List.mem_append_right _ (List.mem_append_right _ (List.mem_append_left _ h)))))))))))))))
theorem pm_X9_init_r6 : ∀ w ∈ wsX9_init_r6, w ∈ wsX9_init := fun _ h => List.mem_cons_of_mem _ (List.mem_append_left _ (List.mem_append_left _ (List.mem_append_left _ (List.mem_append_left _ (List.mem_append_left _ (List.mem_append_left _ (List.mem_append_left _ (List.mem_append_left _ (List.mem_append_left _ (List.mem_append_left _ (List.mem_append_right _ (List.mem_append_right _ (List.mem_append_right _ (List.mem_append_right _ (List.mem_append_right _ (List.mem_append_left _ h))))))))))))))))
theorem pm_X9_init_r7 : ∀ w ∈ wsX9_init_r7, w ∈ wsX9_init := fun _ h => List.mem_cons_of_mem _ (List.mem_append_left _ (List.mem_append_left _ (List.mem_append_left _ (List.mem_append_left _ (List.mem_append_left _ (List.mem_append_left _ (List.mem_append_left _ (List.mem_append_left _ (List.mem_append_left _ (List.mem_append_left _ (List.mem_append_right _ (List.mem_append_right _ (List.mem_append_right _ (List.mem_append_right _ (List.mem_append_right _ (List.mem_append_right _ (h)))))))))))))))))
theorem pw_X9_init_X7 : ∀ w ∈ wsX70, w ∈ wsX9_init := fun _ h => List.mem_cons_of_mem _ (List.mem_append_left _ (List.mem_append_left _ (List.mem_append_left _ (List.mem_append_left _ (List.mem_append_left _ (List.mem_append_left _ (List.mem_append_left _ (List.mem_append_left _ (List.mem_append_left _ (List.mem_append_right _ h))))))))))
theorem pw_X9_init_X9 : ∀ w ∈ wsX90, w ∈ wsX9_init := fun _ h => List.mem_cons_of_mem _ (List.mem_append_left _ (List.mem_append_left _ (List.mem_append_left _ (List.mem_append_left _ (List.mem_append_left _ (List.mem_append_left _ (List.mem_append_left _ (List.mem_append_left _ (List.mem_append_right _ h)))))))))
theorem pw_X9_init_X3 : ∀ w ∈ wsX30, w ∈ wsX9_init := fun _ h => List.mem_cons_of_mem _ (List.mem_append_left _ (List.mem_append_left _ (List.mem_append_left _ (List.mem_append_left _ (List.mem_append_left _ (List.mem_append_left _ (List.mem_append_left _ (List.mem_append_right _ h))))))))
theorem pw_X9_init_X2 : ∀ w ∈ wsX20, w ∈ wsX9_init := fun _ h => List.mem_cons_of_mem _ (List.mem_append_left _ (List.mem_append_left _ (List.mem_append_left _ (List.mem_append_left _ (List.mem_append_left _ (List.mem_append_left _ (List.mem_append_right _ h)))))))
theorem pw_X9_init_X4 : ∀ w ∈ wsX40, w ∈ wsX9_init := fun _ h => List.mem_cons_of_mem _ (List.mem_append_left _ (List.mem_append_left _ (List.mem_append_left _ (List.mem_append_left _ (List.mem_append_left _ (List.mem_append_right _ h))))))
theorem pw_X9_init_X5 : ∀ w ∈ wsX50, w ∈ wsX9_init := fun _ h => List.mem_cons_of_mem _ (List.mem_append_left _ (List.mem_append_left _ (List.mem_append_left _ (List.mem_append_left _ (List.mem_append_right _ h)))))
theorem pw_X9_init_X0 : ∀ w ∈ wsX00, w ∈ wsX9_init := fun _ h => List.mem_cons_of_mem _ (List.mem_append_left _ (List.mem_append_left _ (List.mem_append_left _ (List.mem_append_right _ h))))
theorem pw_X9_init_X6 : ∀ w ∈ wsX60, w ∈ wsX9_init := fun _ h => List.mem_cons_of_mem _ (List.mem_append_left _ (List.mem_append_left _ (List.mem_append_right _ h)))
theorem pw_X9_init_X1 : ∀ w ∈ wsX10, w ∈ wsX9_init := fun _ h => List.mem_cons_of_mem _ (List.mem_append_left _ (List.mem_append_right _ h))
theorem pw_X9_init_X8 : ∀ w ∈ wsX80, w ∈ wsX9_init := fun _ h => List.mem_cons_of_mem _ (List.mem_append_right _ h)
set_option maxRecDepth 20000 in
theorem pq_X9_init_X7_init_r1 : ∀ w ∈ wsX7_init_r1, w ∈ wsX9_init := List.forall_mem_cons.mpr ⟨pm_X9_init_r2 _ (List.mem_of_getElem? (i := 22) rfl), List.forall_mem_cons.mpr ⟨pm_X9_init_r1 _ (List.mem_of_getElem? (i := 1) rfl), List.forall_mem_cons.mpr ⟨pm_X9_init_r1 _ (List.mem_of_getElem? (i := 2) rfl), List.forall_mem_cons.mpr ⟨pm_X9_init_r2 _ (List.mem_of_getElem? (i := 23) rfl), List.forall_mem_cons.mpr ⟨pm_X9_init_r3 _ (List.mem_of_getElem? (i := 0) rfl), List.forall_mem_cons.mpr ⟨pm_X9_init_r3 _ (List.mem_of_getElem? (i := 1) rfl), List.forall_mem_cons.mpr ⟨pm_X9_init_r3 _ (List.mem_of_getElem? (i := 2) rfl), List.forall_mem_cons.mpr ⟨pm_X9_init_r1 _ (List.mem_of_getElem? (i := 8) rfl), List.forall_mem_cons.mpr ⟨pm_X9_init_r1 _ (List.mem_of_getElem? (i := 9) rfl), List.forall_mem_cons.mpr ⟨pm_X9_init_r3 _ (List.mem_of_getElem? (i := 3) rfl), List.forall_mem_cons.mpr ⟨pm_X9_init_r3 _ (List.mem_of_getElem? (i := 4) rfl), List.forall_mem_cons.mpr ⟨pm_X9_init_r3 _ (List.mem_of_getElem? (i := 5) rfl), List.forall_mem_cons.mpr ⟨pm_X9_init_r3 _ (List.mem_of_getElem? (i := 6) rfl), List.forall_mem_cons.mpr ⟨pm_X9_init_r3 _ (List.mem_of_getElem? (i := 7) rfl), List.forall_mem_cons.mpr ⟨pm_X9_init_r3 _ (List.mem_of_getElem? (i := 8) rfl), List.forall_mem_cons.mpr ⟨pm_X9_init_r3 _ (List.mem_of_getElem? (i := 9) rfl), List.forall_mem_cons.mpr ⟨pm_X9_init_r1 _ (List.mem_of_getElem? (i := 11) rfl), List.forall_mem_cons.mpr ⟨pm_X9_init_r3 _ (List.mem_of_getElem? (i := 10) rfl), List.forall_mem_cons.mpr ⟨pm_X9_init_r3 _ (List.mem_of_getElem? (i := 11) rfl), List.forall_mem_cons.mpr ⟨pm_X9_init_r3 _ (List.mem_of_getElem? (i := 12) rfl), List.forall_mem_cons.mpr ⟨pm_X9_init_r3 _ (List.mem_of_getElem? (i := 13) rfl), List.forall_mem_cons.mpr ⟨pm_X9_init_r3 _ (List.mem_of_getElem? (i := 14) rfl), List.forall_mem_cons.mpr ⟨pm_X9_init_r3 _ (List.mem_of_getElem? (i := 15) rfl), List.forall_mem_cons.mpr ⟨pm_X9_init_r3 _ (List.mem_of_getElem? (i := 16) rfl), fun _ h => absurd h List.not_mem_nil⟩⟩⟩⟩⟩⟩⟩⟩⟩⟩⟩⟩⟩⟩⟩⟩⟩⟩⟩⟩⟩⟩⟩⟩
set_option maxRecDepth 20000 in
theorem pq_X9_init_X7_init_r2 : ∀ w ∈ wsX7_init_r2, w ∈ wsX9_init := List.forall_mem_cons.mpr ⟨pm_X9_init_r3 _ (List.mem_of_getElem? (i := 17) rfl), List.forall_mem_cons.mpr ⟨pm_X9_init_r3 _ (List.mem_of_getElem? (i := 18) rfl), List.forall_mem_cons.mpr ⟨pm_X9_init_r3 _ (List.mem_of_getElem? (i := 19) rfl), List.forall_mem_cons.mpr ⟨pm_X9_init_r3 _ (List.mem_of_getElem? (i := 20) rfl), List.forall_mem_cons.mpr ⟨pm_X9_init_r3 _ (List.mem_of_getElem? (i := 21) rfl), List.forall_mem_cons.mpr ⟨pm_X9_init_r3 _ (List.mem_of_getElem? (i := 22) rfl), List.forall_mem_cons.mpr ⟨pm_X9_init_r3 _ (List.mem_of_getElem? (i := 23) rfl), List.forall_mem_cons.mpr ⟨pm_X9_init_r4 _ (List.mem_of_getElem? (i := 0) rfl), List.forall_mem_cons.mpr ⟨pm_X9_init_r4 _ (List.mem_of_getElem? (i := 1) rfl), List.forall_mem_cons.mpr ⟨pm_X9_init_r4 _ (List.mem_of_getElem? (i := 2) rfl), List.forall_mem_cons.mpr ⟨pm_X9_init_r4 _ (List.mem_of_getElem? (i := 3) rfl), List.forall_mem_cons.mpr ⟨pm_X9_init_r4 _ (List.mem_of_getElem? (i := 4) rfl), List.forall_mem_cons.mpr ⟨pm_X9_init_r4 _ (List.mem_of_getElem? (i := 5) rfl), List.forall_mem_cons.mpr ⟨pm_X9_init_r4 _ (List.mem_of_getElem? (i := 6) rfl), List.forall_mem_cons.mpr ⟨pm_X9_init_r4 _ (List.mem_of_getElem? (i := 7) rfl), List.forall_mem_cons.mpr ⟨pm_X9_init_r4 _ (List.mem_of_getElem? (i := 8) rfl), List.forall_mem_cons.mpr ⟨pm_X9_init_r4 _ (List.mem_of_getElem? (i := 9) rfl), List.forall_mem_cons.mpr ⟨pm_X9_init_r4 _ (List.mem_of_getElem? (i := 10) rfl), fun _ h => absurd h List.not_mem_nil⟩⟩⟩⟩⟩⟩⟩⟩⟩⟩⟩⟩⟩⟩⟩⟩⟩⟩
set_option maxRecDepth 20000 in
theorem ggX9_init_X7_init : GoodIn wsX9_init wsX7_init := goodIn_sub (List.forall_mem_cons.mpr ⟨pm_X9_init_r2 _ (List.mem_of_getElem? (i := 21) rfl), List.forall_mem_append.mpr ⟨List.forall_mem_append.mpr ⟨List.forall_mem_append.mpr ⟨pq_X9_init_X7_init_r1, pq_X9_init_X7_init_r2⟩, pw_X9_init_X7⟩, pw_X9_init_X3⟩⟩) (by decide +kernel)
set_option maxRecDepth 20000 in
theorem gX9_init_X7_init : GoodIn wsX9_init (wsX7_init) := ggX9_init_X7_init
set_option maxRecDepth 20000 in
theorem ggX9_init_X3_init : GoodIn wsX9_init wsX3_init := goodIn_sub (List.forall_mem_cons.mpr ⟨pm_X9_init_r3 _ (List.mem_of_getElem? (i := 17) rfl), List.forall_mem_append.mpr ⟨List.forall_mem_cons.mpr ⟨pm_X9_init_r3 _ (List.mem_of_getElem? (i := 18) rfl), List.forall_mem_cons.mpr ⟨pm_X9_init_r1 _ (List.mem_of_getElem? (i := 1) rfl), List.forall_mem_cons.mpr ⟨pm_X9_init_r1 _ (List.mem_of_getElem? (i := 2) rfl), List.forall_mem_cons.mpr ⟨pm_X9_init_r1 _ (List.mem_of_getElem? (i := 11) rfl), List.forall_mem_cons.mpr ⟨pm_X9_init_r3 _ (List.mem_of_getElem? (i := 19) rfl), List.forall_mem_cons.mpr ⟨pm_X9_init_r3 _ (List.mem_of_getElem? (i := 20) rfl), List.forall_mem_cons.mpr ⟨pm_X9_init_r3 _ (List.mem_of_getElem? (i := 21) rfl), List.forall_mem_cons.mpr ⟨pm_X9_init_r3 _ (List.mem_of_getElem? (i := 22) rfl), List.forall_mem_cons.mpr ⟨pm_X9_init_r3 _ (List.mem_of_getElem? (i := 23) rfl), List.forall_mem_cons.mpr ⟨pm_X9_init_r4 _ (List.mem_of_getElem? (i := 0) rfl), List.forall_mem_cons.mpr ⟨pm_X9_init_r4 _ (List.mem_of_getElem? (i := 1) rfl), List.forall_mem_cons.mpr ⟨pm_X9_init_r4 _ (List.mem_of_getElem? (i := 2) rfl), List.forall_mem_cons.mpr ⟨pm_X9_init_r4 _ (List.mem_of_getElem? (i := 3) rfl), List.forall_mem_cons.mpr ⟨pm_X9_init_r1 _ (List.mem_of_getElem? (i := 9) rfl), List.forall_mem_cons.mpr ⟨pm_X9_init_r4 _ (List.mem_of_getElem? (i := 4) rfl), List.forall_mem_cons.mpr ⟨pm_X9_init_r4 _ (List.mem_of_getElem? (i := 5) rfl), List.forall_mem_cons.mpr ⟨pm_X9_init_r4 _ (List.mem_of_getElem? (i := 6) rfl), List.forall_mem_cons.mpr ⟨pm_X9_init_r4 _ (List.mem_of_getElem? (i := 7) rfl), List.forall_mem_cons.mpr ⟨pm_X9_init_r4 _ (List.mem_of_getElem? (i := 8) rfl), List.forall_mem_cons.mpr ⟨pm_X9_init_r4 _ (List.mem_of_getElem? (i := 9) rfl), List.forall_mem_cons.mpr ⟨pm_X9_init_r4 _ (List.mem_of_getElem? (i := 10) rfl), fun _ h => absurd h List.not_mem_nil⟩⟩⟩⟩⟩⟩⟩⟩⟩⟩⟩⟩⟩⟩⟩⟩⟩⟩⟩⟩⟩, pw_X9_init_X3⟩⟩) (by decide +kernel)
set_option maxRecDepth 20000 in
theorem gX9_init_X3_init : GoodIn wsX9_init (wsX3_init) := ggX9_init_X3_init
set_option maxRecDepth 20000 in
theorem ggX9_init_X2_init : GoodIn wsX9_init wsX2_init := goodIn_sub (List.forall_mem_cons.mpr ⟨pm_X9_init_r4 _ (List.mem_of_getElem? (i := 14) rfl), List.forall_mem_append.mpr ⟨List.forall_mem_cons.mpr ⟨pm_X9_init_r4 _ (List.mem_of_getElem? (i := 15) rfl), List.forall_mem_cons.mpr ⟨pm_X9_init_r1 _ (List.mem_of_getElem? (i := 1) rfl), List.forall_mem_cons.mpr ⟨pm_X9_init_r1 _ (List.mem_of_getElem? (i := 2) rfl), List.forall_mem_cons.mpr ⟨pm_X9_init_r4 _ (List.mem_of_getElem? (i := 16) rfl), List.forall_mem_cons.mpr ⟨pm_X9_init_r4 _ (List.mem_of_getElem? (i := 17) rfl), List.forall_mem_cons.mpr ⟨pm_X9_init_r4 _ (List.mem_of_getElem? (i := 18) rfl), fun _ h => absurd h List.not_mem_nil⟩⟩⟩⟩⟩⟩, pw_X9_init_X2⟩⟩) (by decide +kernel)
set_option maxRecDepth 20000 in
theorem gX9_init_X2_init : GoodIn wsX9_init (wsX2_init) := ggX9_init_X2_init
set_option maxRecDepth 20000 in
theorem pq_X9_init_X4_init_r1 : ∀ w ∈ wsX4_init_r1, w ∈ wsX9_init := List.forall_mem_cons.mpr ⟨pm_X9_init_r4 _ (List.mem_of_getElem? (i := 22) rfl), List.forall_mem_cons.mpr ⟨pm_X9_init_r1 _ (List.mem_of_getElem? (i := 1) rfl), List.forall_mem_cons.mpr ⟨pm_X9_init_r1 _ (List.mem_of_getElem? (i := 2) rfl), List.forall_mem_cons.mpr ⟨pm_X9_init_r1 _ (List.mem_of_getElem? (i := 19) rfl), List.forall_mem_cons.mpr ⟨pm_X9_init_r4 _ (List.mem_of_getElem? (i := 23) rfl), List.forall_mem_cons.mpr ⟨pm_X9_init_r5 _ (List.mem_of_getElem? (i := 0) rfl), List.forall_mem_cons.mpr ⟨pm_X9_init_r5 _ (List.mem_of_getElem? (i := 1) rfl), List.forall_mem_cons.mpr ⟨pm_X9_init_r5 _ (List.mem_of_getElem? (i := 2) rfl), List.forall_mem_cons.mpr ⟨pm_X9_init_r5 _ (List.mem_of_getElem? (i := 3) rfl), List.forall_mem_cons.mpr ⟨pm_X9_init_r5 _ (List.mem_of_getElem? (i := 4) rfl), List.forall_mem_cons.mpr ⟨pm_X9_init_r1 _ (List.mem_of_getElem? (i := 11) rfl), List.forall_mem_cons.mpr ⟨pm_X9_init_r5 _ (List.mem_of_getElem? (i := 5) rfl), List.forall_mem_cons.mpr ⟨pm_X9_init_r5 _ (List.mem_of_getElem? (i := 6) rfl), List.forall_mem_cons.mpr ⟨pm_X9_init_r5 _ (List.mem_of_getElem? (i := 7) rfl), List.forall_mem_cons.mpr ⟨pm_X9_init_r5 _ (List.mem_of_getElem? (i := 8) rfl), List.forall_mem_cons.mpr ⟨pm_X9_init_r5 _ (List.mem_of_getElem? (i := 9) rfl), List.forall_mem_cons.mpr ⟨pm_X9_init_r5 _ (List.mem_of_getElem? (i := 10) rfl), List.forall_mem_cons.mpr ⟨pm_X9_init_r1 _ (List.mem_of_getElem? (i := 8) rfl), List.forall_mem_cons.mpr ⟨pm_X9_init_r1 _ (List.mem_of_getElem? (i := 9) rfl), List.forall_mem_cons.mpr ⟨pm_X9_init_r5 _ (List.mem_of_getElem? (i := 11) rfl), List.forall_mem_cons.mpr ⟨pm_X9_init_r5 _ (List.mem_of_getElem? (i := 12) rfl), List.forall_mem_cons.mpr ⟨pm_X9_init_r5 _ (List.mem_of_getElem? (i := 13) rfl), List.forall_mem_cons.mpr ⟨pm_X9_init_r5 _ (List.mem_of_getElem? (i := 14) rfl), List.forall_mem_cons.mpr ⟨pm_X9_init_r5 _ (List.mem_of_getElem? (i := 15) rfl), fun _ h => absurd h List.not_mem_nil⟩⟩⟩⟩⟩⟩⟩⟩⟩⟩⟩⟩⟩⟩⟩⟩⟩⟩⟩⟩⟩⟩⟩⟩
set_option maxRecDepth 20000 in
theorem pq_X9_init_X4_init_r2 : ∀ w ∈ wsX4_init_r2, w ∈ wsX9_init := List.forall_mem_cons.mpr ⟨pm_X9_init_r5 _ (List.mem_of_getElem? (i := 16) rfl), List.forall_mem_cons.mpr ⟨pm_X9_init_r5 _ (List.mem_of_getElem? (i := 17) rfl), List.forall_mem_cons.mpr ⟨pm_X9_init_r5 _ (List.mem_of_getElem? (i := 18) rfl), List.forall_mem_cons.mpr ⟨pm_X9_init_r5 _ (List.mem_of_getElem? (i := 19) rfl), List.forall_mem_cons.mpr ⟨pm_X9_init_r5 _ (List.mem_of_getElem? (i := 20) rfl), List.forall_mem_cons.mpr ⟨pm_X9_init_r5 _ (List.mem_of_getElem? (i := 21) rfl), List.forall_mem_cons.mpr ⟨pm_X9_init_r5 _ (List.mem_of_getElem? (i := 22) rfl), List.forall_mem_cons.mpr ⟨pm_X9_init_r5 _ (List.mem_of_getElem? (i := 23) rfl), List.forall_mem_cons.mpr ⟨pm_X9_init_r3 _ (List.mem_of_getElem? (i := 16) rfl), List.forall_mem_cons.mpr ⟨pm_X9_init_r3 _ (List.mem_of_getElem? (i := 17) rfl), List.forall_mem_cons.mpr ⟨pm_X9_init_r3 _ (List.mem_of_getElem? (i := 18) rfl), List.forall_mem_cons.mpr ⟨pm_X9_init_r3 _ (List.mem_of_getElem? (i := 19) rfl), List.forall_mem_cons.mpr ⟨pm_X9_init_r3 _ (List.mem_of_getElem? (i := 20) rfl), List.forall_mem_cons.mpr ⟨pm_X9_init_r3 _ (List.mem_of_getElem? (i := 21) rfl), List.forall_mem_cons.mpr ⟨pm_X9_init_r3 _ (List.mem_of_getElem? (i := 22) rfl), List.forall_mem_cons.mpr ⟨pm_X9_init_r3 _ (List.mem_of_getElem? (i := 23) rfl), List.forall_mem_cons.mpr ⟨pm_X9_init_r4 _ (List.mem_of_getElem? (i := 0) rfl), List.forall_mem_cons.mpr ⟨pm_X9_init_r4 _ (List.mem_of_getElem? (i := 1) rfl), List.forall_mem_cons.mpr ⟨pm_X9_init_r4 _ (List.mem_of_getElem? (i := 2) rfl), List.forall_mem_cons.mpr ⟨pm_X9_init_r4 _ (List.mem_of_getElem? (i := 3) rfl), List.forall_mem_cons.mpr ⟨pm_X9_init_r4 _ (List.mem_of_getElem? (i := 4) rfl), List.forall_mem_cons.mpr ⟨pm_X9_init_r4 _ (List.mem_of_getElem? (i := 5) rfl), List.forall_mem_cons.mpr ⟨pm_X9_init_r4 _ (List.mem_of_getElem? (i := 6) rfl), List.forall_mem_cons.mpr ⟨pm_X9_init_r4 _ (List.mem_of_getElem? (i := 7) rfl), fun _ h => absurd h List.not_mem_nil⟩⟩⟩⟩⟩⟩⟩⟩⟩⟩⟩⟩⟩⟩⟩⟩⟩⟩⟩⟩⟩⟩⟩⟩
set_option maxRecDepth 20000 in
theorem pq_X9_init_X4_init_r3 : ∀ w ∈ wsX4_init_r3, w ∈ wsX9_init := List.forall_mem_cons.mpr ⟨pm_X9_init_r4 _ (List.mem_of_getElem? (i := 8) rfl), List.forall_mem_cons.mpr ⟨pm_X9_init_r4 _ (List.mem_of_getElem? (i := 9) rfl), List.forall_mem_cons.mpr ⟨pm_X9_init_r4 _ (List.mem_of_getElem? (i := 10) rfl), fun _ h => absurd h List.not_mem_nil⟩⟩⟩
set_option maxRecDepth 20000 in
theorem ggX9_init_X4_init : GoodIn wsX9_init wsX4_init := goodIn_sub (List.forall_mem_cons.mpr ⟨pm_X9_init_r4 _ (List.mem_of_getElem? (i := 21) rfl), List.forall_mem_append.mpr ⟨List.forall_mem_append.mpr ⟨List.forall_mem_append.mpr ⟨List.forall_mem_append.mpr ⟨pq_X9_init_X4_init_r1, List.forall_mem_append.mpr ⟨pq_X9_init_X4_init_r2, pq_X9_init_X4_init_r3⟩⟩, pw_X9_init_X4⟩, pw_X9_init_X8⟩, pw_X9_init_X3⟩⟩) (by decide +kernel)
set_option maxRecDepth 20000 in
theorem gX9_init_X4_init : GoodIn wsX9_init (wsX4_init) := ggX9_init_X4_init
set_option maxRecDepth 20000 in
theorem ggX9_init_X5_init : GoodIn wsX9_init wsX5_init := goodIn_sub (List.forall_mem_cons.mpr ⟨pm_X9_init_r6 _ (List.mem_of_getElem? (i := 2) rfl), List.forall_mem_cons.mpr ⟨pm_X9_init_r6 _ (List.mem_of_getElem? (i := 3) rfl), List.forall_mem_cons.mpr ⟨pm_X9_init_r1 _ (List.mem_of_getElem? (i := 1) rfl), List.forall_mem_cons.mpr ⟨pm_X9_init_r1 _ (List.mem_of_getElem? (i := 2) rfl), fun _ h => absurd h List.not_mem_nil⟩⟩⟩⟩) (by decide +kernel)
set_option maxRecDepth 20000 in
theorem gX9_init_X5_init : GoodIn wsX9_init (wsX5_init) := ggX9_init_X5_init
set_option maxRecDepth 20000 in
theorem ggX9_init_X0_init : GoodIn wsX9_init wsX0_init := goodIn_sub (List.forall_mem_cons.mpr ⟨pm_X9_init_r6 _ (List.mem_of_getElem? (i := 6) rfl), List.forall_mem_append.mpr ⟨List.forall_mem_cons.mpr ⟨pm_X9_init_r6 _ (List.mem_of_getElem? (i := 7) rfl), List.forall_mem_cons.mpr ⟨pm_X9_init_r1 _ (List.mem_of_getElem? (i := 1) rfl), List.forall_mem_cons.mpr ⟨pm_X9_init_r1 _ (List.mem_of_getElem? (i := 2) rfl), List.forall_mem_cons.mpr ⟨pm_X9_init_r1 _ (List.mem_of_getElem? (i := 11) rfl), List.forall_mem_cons.mpr ⟨pm_X9_init_r6 _ (List.mem_of_getElem? (i := 8) rfl), List.forall_mem_cons.mpr ⟨pm_X9_init_r6 _ (List.mem_of_getElem? (i := 9) rfl), List.forall_mem_cons.mpr ⟨pm_X9_init_r6 _ (List.mem_of_getElem? (i := 10) rfl), List.forall_mem_cons.mpr ⟨pm_X9_init_r6 _ (List.mem_of_getElem? (i := 11) rfl), List.forall_mem_cons.mpr ⟨pm_X9_init_r6 _ (List.mem_of_getElem? (i := 12) rfl), List.forall_mem_cons.mpr ⟨pm_X9_init_r6 _ (List.mem_of_getElem? (i := 13) rfl), List.forall_mem_cons.mpr ⟨pm_X9_init_r6 _ (List.mem_of_getElem? (i := 14) rfl), List.forall_mem_cons.mpr ⟨pm_X9_init_r6 _ (List.mem_of_getElem? (i := 15) rfl), List.forall_mem_cons.mpr ⟨pm_X9_init_r6 _ (List.mem_of_getElem? (i := 16) rfl), List.forall_mem_cons.mpr ⟨pm_X9_init_r6 _ (List.mem_of_getElem? (i := 17) rfl), fun _ h => absurd h List.not_mem_nil⟩⟩⟩⟩⟩⟩⟩⟩⟩⟩⟩⟩⟩⟩, pw_X9_init_X0⟩⟩) (by decide +kernel)
set_option maxRecDepth 20000 in
theorem gX9_init_X0_init : GoodIn wsX9_init (wsX0_init) := ggX9_init_X0_init
set_option maxRecDepth 20000 in
theorem ggX9_init_X6_init : GoodIn wsX9_init wsX6_init := goodIn_sub (List.forall_mem_cons.mpr ⟨pm_X9_init_r6 _ (List.mem_of_getElem? (i := 20) rfl), List.forall_mem_append.mpr ⟨List.forall_mem_cons.mpr ⟨pm_X9_init_r6 _ (List.mem_of_getElem? (i := 21) rfl), List.forall_mem_cons.mpr ⟨pm_X9_init_r1 _ (List.mem_of_getElem? (i := 1) rfl), List.forall_mem_cons.mpr ⟨pm_X9_init_r1 _ (List.mem_of_getElem? (i := 2) rfl), List.forall_mem_cons.mpr ⟨pm_X9_init_r6 _ (List.mem_of_getElem? (i := 22) rfl), List.forall_mem_cons.mpr ⟨pm_X9_init_r1 _ (List.mem_of_getElem? (i := 11) rfl), List.forall_mem_cons.mpr ⟨pm_X9_init_r6 _ (List.mem_of_getElem? (i := 23) rfl), List.forall_mem_cons.mpr ⟨pm_X9_init_r7 _ (List.mem_of_getElem? (i := 0) rfl), List.forall_mem_cons.mpr ⟨pm_X9_init_r7 _ (List.mem_of_getElem? (i := 1) rfl), fun _ h => absurd h List.not_mem_nil⟩⟩⟩⟩⟩⟩⟩⟩, pw_X9_init_X6⟩⟩) (by decide +kernel)
set_option maxRecDepth 20000 in
theorem gX9_init_X6_init : GoodIn wsX9_init (wsX6_init) := ggX9_init_X6_init
set_option maxRecDepth 20000 in
theorem ggX9_init_X1_init : GoodIn wsX9_init wsX1_init := goodIn_sub (List.forall_mem_cons.mpr ⟨pm_X9_init_r7 _ (List.mem_of_getElem? (i := 4) rfl), List.forall_mem_append.mpr ⟨List.forall_mem_cons.mpr ⟨pm_X9_init_r7 _ (List.mem_of_getElem? (i := 5) rfl), List.forall_mem_cons.mpr ⟨pm_X9_init_r1 _ (List.mem_of_getElem? (i := 1) rfl), List.forall_mem_cons.mpr ⟨pm_X9_init_r1 _ (List.mem_of_getElem? (i := 2) rfl), List.forall_mem_cons.mpr ⟨pm_X9_init_r7 _ (List.mem_of_getElem? (i := 6) rfl), List.forall_mem_cons.mpr ⟨pm_X9_init_r7 _ (List.mem_of_getElem? (i := 7) rfl), List.forall_mem_cons.mpr ⟨pm_X9_init_r7 _ (List.mem_of_getElem? (i := 8) rfl), List.forall_mem_cons.mpr ⟨pm_X9_init_r1 _ (List.mem_of_getElem? (i := 11) rfl), List.forall_mem_cons.mpr ⟨pm_X9_init_r7 _ (List.mem_of_getElem? (i := 9) rfl), List.forall_mem_cons.mpr ⟨pm_X9_init_r7 _ (List.mem_of_getElem? (i := 10) rfl), List.forall_mem_cons.mpr ⟨pm_X9_init_r7 _ (List.mem_of_getElem? (i := 11) rfl), List.forall_mem_cons.mpr ⟨pm_X9_init_r7 _ (List.mem_of_getElem? (i := 12) rfl), List.forall_mem_cons.mpr ⟨pm_X9_init_r7 _ (List.mem_of_getElem? (i := 13) rfl), List.forall_mem_cons.mpr ⟨pm_X9_init_r7 _ (List.mem_of_getElem? (i := 14) rfl), fun _ h => absurd h List.not_mem_nil⟩⟩⟩⟩⟩⟩⟩⟩⟩⟩⟩⟩⟩, pw_X9_init_X1⟩⟩) (by decide +kernel)
set_option maxRecDepth 20000 in
theorem gX9_init_X1_init : GoodIn wsX9_init (wsX1_init) := ggX9_init_X1_init
theorem bX9_init_0 : ((bys cX9_init).drop 0).take 16 = [42, 183, 0, 1, 42, 187, 0, 7, 89, 183, 0, 9, 181, 0, 10, 42] := by decide +kernel
theorem dX9_init_0 : decode cX9_init 0 = .ok (.aload_n 0, 1) := do_42 (byt_at bX9_init_0 (j := 0) rfl)
theorem dX9_init_1 : decode cX9_init 1 = .ok (.invokespecial 1, 3) := do_183 0 1 (byt_at bX9_init_0 (j := 1) rfl) (byt_at bX9_init_0 (j := 2) rfl) (byt_at bX9_init_0 (j := 3) rfl)
theorem dX9_init_4 : decode cX9_init 4 = .ok (.aload_n 0, 1) := do_42 (byt_at bX9_init_0 (j := 4) rfl)
theorem dX9_init_5 : decode cX9_init 5 = .ok (.new 7, 3) := do_187 0 7 (byt_at bX9_init_0 (j := 5) rfl) (byt_at bX9_init_0 (j := 6) rfl) (byt_at bX9_init_0 (j := 7) rfl)
theorem dX9_init_8 : decode cX9_init 8 = .ok (.dup, 1) := do_89 (byt_at bX9_init_0 (j := 8) rfl)
theorem dX9_init_9 : decode cX9_init 9 = .ok (.invokespecial 9, 3) := do_183 0 9 (byt_at bX9_init_0 (j := 9) rfl) (byt_at bX9_init_0 (j := 10) rfl) (byt_at bX9_init_0 (j := 11) rfl)
theorem dX9_init_12 : decode cX9_init 12 = .ok (.putfield 10, 3) := do_181 0 10 (byt_at bX9_init_0 (j := 12) rfl) (byt_at bX9_init_0 (j := 13) rfl) (byt_at bX9_init_0 (j := 14) rfl)
theorem dX9_init_15 : decode cX9_init 15 = .ok (.aload_n 0, 1) := do_42 (byt_at bX9_init_0 (j := 15) rfl)
theorem bX9_init_1 : ((bys cX9_init).drop 16).take 16 = [187, 0, 16, 89, 183, 0, 18, 181, 0, 19, 42, 7, 188, 10, 181, 0] := by decide +kernel
theorem dX9_init_16 : decode cX9_init 16 = .ok (.new 16, 3) := do_187 0 16 (byt_at bX9_init_1 (j := 0) rfl) (byt_at bX9_init_1 (j := 1) rfl) (byt_at bX9_init_1 (j := 2) rfl)
theorem dX9_init_19 : decode cX9_init 19 = .ok (.dup, 1) := do_89 (byt_at bX9_init_1 (j := 3) rfl)
theorem dX9_init_20 : decode cX9_init 20 = .ok (.invokespecial 18, 3) := do_183 0 18 (byt_at bX9_init_1 (j := 4) rfl) (byt_at bX9_init_1 (j := 5) rfl) (byt_at bX9_init_1 (j := 6) rfl)
theorem dX9_init_23 : decode cX9_init 23 = .ok (.putfield 19, 3) := do_181 0 19 (byt_at bX9_init_1 (j := 7) rfl) (byt_at bX9_init_1 (j := 8) rfl) (byt_at bX9_init_1 (j := 9) rfl)
theorem dX9_init_26 : decode cX9_init 26 = .ok (.aload_n 0, 1) := do_42 (byt_at bX9_init_1 (j := 10) rfl)
theorem dX9_init_27 : decode cX9_init 27 = .ok (.iconst 4, 1) := do_7 (byt_at bX9_init_1 (j := 11) rfl)
theorem dX9_init_28 : decode cX9_init 28 = .ok (.newarray .int, 2) := by decide +kernel
theorem bX9_init_2 : ((bys cX9_init).drop 32).take 16 = [23, 42, 187, 0, 27, 89, 183, 0, 29, 181, 0, 30, 42, 187, 0, 27] := by decide +kernel
theorem dX9_init_30 : decode cX9_init 30 = .ok (.putfield 23, 3) := do_181 0 23 (byt_at bX9_init_1 (j := 14) rfl) (byt_at bX9_init_1 (j := 15) rfl) (byt_at bX9_init_2 (j := 0) rfl)
theorem dX9_init_33 : decode cX9_init 33 = .ok (.aload_n 0, 1) := do_42 (byt_at bX9_init_2 (j := 1) rfl)
theorem dX9_init_34 : decode cX9_init 34 = .ok (.new 27, 3) := do_187 0 27 (byt_at bX9_init_2 (j := 2) rfl) (byt_at bX9_init_2 (j := 3) rfl) (byt_at bX9_init_2 (j := 4) rfl)
theorem dX9_init_37 : decode cX9_init 37 = .ok (.dup, 1) := do_89 (byt_at bX9_init_2 (j := 5) rfl)
theorem dX9_init_38 : decode cX9_init 38 = .ok (.invokespecial 29, 3) := do_183 0 29 (byt_at bX9_init_2 (j := 6) rfl) (byt_at bX9_init_2 (j := 7) rfl) (byt_at bX9_init_2 (j := 8) rfl)
theorem dX9_init_41 : decode cX9_init 41 = .ok (.putfield 30, 3) := do_181 0 30 (byt_at bX9_init_2 (j := 9) rfl) (byt_at bX9_init_2 (j := 10) rfl) (byt_at bX9_init_2 (j := 11) rfl)
theorem dX9_init_44 : decode cX9_init 44 = .ok (.aload_n 0, 1) := do_42 (byt_at bX9_init_2 (j := 12) rfl)
theorem dX9_init_45 : decode cX9_init 45 = .ok (.new 27, 3) := do_187 0 27 (byt_at bX9_init_2 (j := 13) rfl) (byt_at bX9_init_2 (j := 14) rfl) (byt_at bX9_init_2 (j := 15) rfl)
theorem bX9_init_3 : ((bys cX9_init).drop 48).take 16 = [89, 183, 0, 29, 181, 0, 34, 42, 187, 0, 27, 89, 183, 0, 29, 181] := by decide +kernel
theorem dX9_init_48 : decode cX9_init 48 = .ok (.dup, 1) := do_89 (byt_at bX9_init_3 (j := 0) rfl)
theorem dX9_init_49 : decode cX9_init 49 = .ok (.invokespecial 29, 3) := do_183 0 29 (byt_at bX9_init_3 (j := 1) rfl) (byt_at bX9_init_3 (j := 2) rfl) (byt_at bX9_init_3 (j := 3) rfl)
theorem dX9_init_52 : decode cX9_init 52 = .ok (.putfield 34, 3) := do_181 0 34 (byt_at bX9_init_3 (j := 4) rfl) (byt_at bX9_init_3 (j := 5) rfl) (byt_at bX9_init_3 (j := 6) rfl)
theorem dX9_init_55 : decode cX9_init 55 = .ok (.aload_n 0, 1) := do_42 (byt_at bX9_init_3 (j := 7) rfl)
theorem dX9_init_56 : decode cX9_init 56 = .ok (.new 27, 3) := do_187 0 27 (byt_at bX9_init_3 (j := 8) rfl) (byt_at bX9_init_3 (j := 9) rfl) (byt_at bX9_init_3 (j := 10) rfl)
theorem dX9_init_59 : decode cX9_init 59 = .ok (.dup, 1) := do_89 (byt_at bX9_init_3 (j := 11) rfl)
theorem dX9_init_60 : decode cX9_init 60 = .ok (.invokespecial 29, 3) := do_183 0 29 (byt_at bX9_init_3 (j := 12) rfl) (byt_at bX9_init_3 (j := 13) rfl) (byt_at bX9_init_3 (j := 14) rfl)
theorem bX9_init_4 : ((bys cX9_init).drop 64).take 16 = [0, 37, 42, 7, 188, 11, 181, 0, 40, 42, 7, 188, 11, 181, 0, 44] := by decide +kernel
theorem dX9_init_63 : decode cX9_init 63 = .ok (.putfield 37, 3) := do_181 0 37 (byt_at bX9_init_3 (j := 15) rfl) (byt_at bX9_init_4 (j := 0) rfl) (byt_at bX9_init_4 (j := 1) rfl)
theorem dX9_init_66 : decode cX9_init 66 = .ok (.aload_n 0, 1) := do_42 (byt_at bX9_init_4 (j := 2) rfl)
theorem dX9_init_67 : decode cX9_init 67 = .ok (.iconst 4, 1) := do_7 (byt_at bX9_init_4 (j := 3) rfl)
theorem dX9_init_68 : decode cX9_init 68 = .ok (.newarray .long, 2) := by decide +kernel
theorem dX9_init_70 : decode cX9_init 70 = .ok (.putfield 40, 3) := do_181 0 40 (byt_at bX9_init_4 (j := 6) rfl) (byt_at bX9_init_4 (j := 7) rfl) (byt_at bX9_init_4 (j := 8) rfl)
theorem dX9_init_73 : decode cX9_init 73 = .ok (.aload_n 0, 1) := do_42 (byt_at bX9_init_4 (j := 9) rfl)
theorem dX9_init_74 : decode cX9_init 74 = .ok (.iconst 4, 1) := do_7 (byt_at bX9_init_4 (j := 10) rfl)
theorem dX9_init_75 : decode cX9_init 75 = .ok (.newarray .long, 2) := by decide +kernel
theorem dX9_init_77 : decode cX9_init 77 = .ok (.putfield 44, 3) := do_181 0 44 (byt_at bX9_init_4 (j := 13) rfl) (byt_at bX9_init_4 (j := 14) rfl) (byt_at bX9_init_4 (j := 15) rfl)
theorem bX9_init_5 : ((bys cX9_init).drop 80).take 16 = [42, 3, 181, 0, 47, 42, 187, 0, 51, 89, 183, 0, 53, 181, 0, 54] := by decide +kernel
theorem dX9_init_80 : decode cX9_init 80 = .ok (.aload_n 0, 1) := do_42 (byt_at bX9_init_5 (j := 0) rfl)
theorem dX9_init_81 : decode cX9_init 81 = .ok (.iconst 0, 1) := do_3 (byt_at bX9_init_5 (j := 1) rfl)
theorem dX9_init_82 : decode cX9_init 82 = .ok (.putfield 47, 3) := do_181 0 47 (byt_at bX9_init_5 (j := 2) rfl) (byt_at bX9_init_5 (j := 3) rfl) (byt_at bX9_init_5 (j := 4) rfl)
theorem dX9_init_85 : decode cX9_init 85 = .ok (.aload_n 0, 1) := do_42 (byt_at bX9_init_5 (j := 5) rfl)
theorem dX9_init_86 : decode cX9_init 86 = .ok (.new 51, 3) := do_187 0 51 (byt_at bX9_init_5 (j := 6) rfl) (byt_at bX9_init_5 (j := 7) rfl) (byt_at bX9_init_5 (j := 8) rfl)
theorem dX9_init_89 : decode cX9_init 89 = .ok (.dup, 1) := do_89 (byt_at bX9_init_5 (j := 9) rfl)
theorem dX9_init_90 : decode cX9_init 90 = .ok (.invokespecial 53, 3) := do_183 0 53 (byt_at bX9_init_5 (j := 10) rfl) (byt_at bX9_init_5 (j := 11) rfl) (byt_at bX9_init_5 (j := 12) rfl)
theorem dX9_init_93 : decode cX9_init 93 = .ok (.putfield 54, 3) := do_181 0 54 (byt_at bX9_init_5 (j := 13) rfl) (byt_at bX9_init_5 (j := 14) rfl) (byt_at bX9_init_5 (j := 15) rfl)
theorem bX9_init_6 : ((bys cX9_init).drop 96).take 16 = [42, 187, 0, 58, 89, 183, 0, 60, 181, 0, 61, 42, 187, 0, 65, 89] := by decide +kernel
theorem dX9_init_96 : decode cX9_init 96 = .ok (.aload_n 0, 1) := do_42 (byt_at bX9_init_6 (j := 0) rfl)
theorem dX9_init_97 : decode cX9_init 97 = .ok (.new 58, 3) := do_187 0 58 (byt_at bX9_init_6 (j := 1) rfl) (byt_at bX9_init_6 (j := 2) rfl) (byt_at bX9_init_6 (j := 3) rfl)
theorem dX9_init_100 : decode cX9_init 100 = .ok (.dup, 1) := do_89 (byt_at bX9_init_6 (j := 4) rfl)
theorem dX9_init_101 : decode cX9_init 101 = .ok (.invokespecial 60, 3) := do_183 0 60 (byt_at bX9_init_6 (j := 5) rfl) (byt_at bX9_init_6 (j := 6) rfl) (byt_at bX9_init_6 (j := 7) rfl)
theorem dX9_init_104 : decode cX9_init 104 = .ok (.putfield 61, 3) := do_181 0 61 (byt_at bX9_init_6 (j := 8) rfl) (byt_at bX9_init_6 (j := 9) rfl) (byt_at bX9_init_6 (j := 10) rfl)
theorem dX9_init_107 : decode cX9_init 107 = .ok (.aload_n 0, 1) := do_42 (byt_at bX9_init_6 (j := 11) rfl)
theorem dX9_init_108 : decode cX9_init 108 = .ok (.new 65, 3) := do_187 0 65 (byt_at bX9_init_6 (j := 12) rfl) (byt_at bX9_init_6 (j := 13) rfl) (byt_at bX9_init_6 (j := 14) rfl)
theorem dX9_init_111 : decode cX9_init 111 = .ok (.dup, 1) := do_89 (byt_at bX9_init_6 (j := 15) rfl)
theorem bX9_init_7 : ((bys cX9_init).drop 112).take 16 = [183, 0, 67, 181, 0, 68, 42, 187, 0, 72, 89, 183, 0, 74, 181, 0] := by decide +kernel
theorem dX9_init_112 : decode cX9_init 112 = .ok (.invokespecial 67, 3) := do_183 0 67 (byt_at bX9_init_7 (j := 0) rfl) (byt_at bX9_init_7 (j := 1) rfl) (byt_at bX9_init_7 (j := 2) rfl)
theorem dX9_init_115 : decode cX9_init 115 = .ok (.putfield 68, 3) := do_181 0 68 (byt_at bX9_init_7 (j := 3) rfl) (byt_at bX9_init_7 (j := 4) rfl) (byt_at bX9_init_7 (j := 5) rfl)
theorem dX9_init_118 : decode cX9_init 118 = .ok (.aload_n 0, 1) := do_42 (byt_at bX9_init_7 (j := 6) rfl)
theorem dX9_init_119 : decode cX9_init 119 = .ok (.new 72, 3) := do_187 0 72 (byt_at bX9_init_7 (j := 7) rfl) (byt_at bX9_init_7 (j := 8) rfl) (byt_at bX9_init_7 (j := 9) rfl)
theorem dX9_init_122 : decode cX9_init 122 = .ok (.dup, 1) := do_89 (byt_at bX9_init_7 (j := 10) rfl)
theorem dX9_init_123 : decode cX9_init 123 = .ok (.invokespecial 74, 3) := do_183 0 74 (byt_at bX9_init_7 (j := 11) rfl) (byt_at bX9_init_7 (j := 12) rfl) (byt_at bX9_init_7 (j := 13) rfl)
theorem bX9_init_8 : ((bys cX9_init).drop 128).take 16 = [75, 42, 187, 0, 79, 89, 183, 0, 81, 181, 0, 82, 177] := by decide +kernel
theorem dX9_init_126 : decode cX9_init 126 = .ok (.putfield 75, 3) := do_181 0 75 (byt_at bX9_init_7 (j := 14) rfl) (byt_at bX9_init_7 (j := 15) rfl) (byt_at bX9_init_8 (j := 0) rfl)
theorem dX9_init_129 : decode cX9_init 129 = .ok (.aload_n 0, 1) := do_42 (byt_at bX9_init_8 (j := 1) rfl)
theorem dX9_init_130 : decode cX9_init 130 = .ok (.new 79, 3) := do_187 0 79 (byt_at bX9_init_8 (j := 2) rfl) (byt_at bX9_init_8 (j := 3) rfl) (byt_at bX9_init_8 (j := 4) rfl)
theorem dX9_init_133 : decode cX9_init 133 = .ok (.dup, 1) := do_89 (byt_at bX9_init_8 (j := 5) rfl)
theorem dX9_init_134 : decode cX9_init 134 = .ok (.invokespecial 81, 3) := do_183 0 81 (byt_at bX9_init_8 (j := 6) rfl) (byt_at bX9_init_8 (j := 7) rfl) (byt_at bX9_init_8 (j := 8) rfl)
theorem dX9_init_137 : decode cX9_init 137 = .ok (.putfield 82, 3) := do_181 0 82 (byt_at bX9_init_8 (j := 9) rfl) (byt_at bX9_init_8 (j := 10) rfl) (byt_at bX9_init_8 (j := 11) rfl)
theorem dX9_init_140 : decode cX9_init 140 = .ok (.return_, 1) := do_177 (byt_at bX9_init_8 (j := 12) rfl)
theorem pm_X10_init_r1 : ∀ w ∈ wsX10_init_r1, w ∈ wsX10_init := fun _ h => List.mem_cons_of_mem _ (List.mem_append_left _ (List.mem_append_left _ h))
theorem pm_X10_init_r2 : ∀ w ∈ wsX10_init_r2, w ∈ wsX10_init := fun _ h => List.mem_cons_of_mem _ (List.mem_append_left _ (List.mem_append_right _ (List.mem_append_left _ h)))
theorem pm_X10_init_r3 : ∀ w ∈ wsX10_init_r3, w ∈ wsX10_init := fun _ h => List.mem_cons_of_mem _ (List.mem_append_left _ (List.mem_append_right _ (List.mem_append_right _ (h))))
theorem pw_X10_init_X10 : ∀ w ∈ wsX100, w ∈ wsX10_init := fun _ h => List.mem_cons_of_mem _ (List.mem_append_right _ h)
set_option maxRecDepth 20000 in
theorem ggX10_init_X10_begin : GoodIn wsX10_init wsX10_begin := goodIn_sub (List.forall_mem_cons.mpr ⟨pm_X10_init_r2 _ (List.mem_of_getElem? (i := 17) rfl), List.forall_mem_append.mpr ⟨List.forall_mem_cons.mpr ⟨pm_X10_init_r1 _ (List.mem_of_getElem? (i := 7) rfl), List.forall_mem_cons.mpr ⟨pm_X10_init_r1 _ (List.mem_of_getElem? (i := 14) rfl), List.forall_mem_cons.mpr ⟨pm_X10_init_r2 _ (List.mem_of_getElem? (i := 18) rfl), fun _ h => absurd h List.not_mem_nil⟩⟩⟩, pw_X10_init_X10⟩⟩) (by decide +kernel)
set_option maxRecDepth 20000 in
theorem gX10_init_X10_begin : GoodIn wsX10_init (wsV RX10 106 RX10 yX10_begin wsX10_begin) := goodIn_app (goodIn_sub (List.forall_mem_cons.mpr ⟨pm_X10_init_r2 _ (List.mem_of_getElem? (i := 13) rfl), List.forall_mem_cons.mpr ⟨pm_X10_init_r2 _ (List.mem_of_getElem? (i := 14) rfl), List.forall_mem_cons.mpr ⟨pm_X10_init_r2 _ (List.mem_of_getElem? (i := 15) rfl), List.forall_mem_cons.mpr ⟨pm_X10_init_r2 _ (List.mem_of_getElem? (i := 16) rfl), fun _ h => absurd h List.not_mem_nil⟩⟩⟩⟩) (by decide +kernel)) ggX10_init_X10_begin
set_option maxRecDepth 20000 in
theorem ggX10_init_X10_settle : GoodIn wsX10_init wsX10_settle := goodIn_sub (List.forall_mem_cons.mpr ⟨pm_X10_init_r2 _ (List.mem_of_getElem? (i := 22) rfl), List.forall_mem_append.mpr ⟨List.forall_mem_cons.mpr ⟨pm_X10_init_r1 _ (List.mem_of_getElem? (i := 7) rfl), List.forall_mem_cons.mpr ⟨pm_X10_init_r1 _ (List.mem_of_getElem? (i := 11) rfl), List.forall_mem_cons.mpr ⟨pm_X10_init_r1 _ (List.mem_of_getElem? (i := 12) rfl), List.forall_mem_cons.mpr ⟨pm_X10_init_r1 _ (List.mem_of_getElem? (i := 13) rfl), List.forall_mem_cons.mpr ⟨pm_X10_init_r1 _ (List.mem_of_getElem? (i := 14) rfl), List.forall_mem_cons.mpr ⟨pm_X10_init_r1 _ (List.mem_of_getElem? (i := 15) rfl), List.forall_mem_cons.mpr ⟨pm_X10_init_r1 _ (List.mem_of_getElem? (i := 16) rfl), List.forall_mem_cons.mpr ⟨pm_X10_init_r2 _ (List.mem_of_getElem? (i := 6) rfl), List.forall_mem_cons.mpr ⟨pm_X10_init_r2 _ (List.mem_of_getElem? (i := 7) rfl), List.forall_mem_cons.mpr ⟨pm_X10_init_r2 _ (List.mem_of_getElem? (i := 23) rfl), List.forall_mem_cons.mpr ⟨pm_X10_init_r3 _ (List.mem_of_getElem? (i := 0) rfl), List.forall_mem_cons.mpr ⟨pm_X10_init_r3 _ (List.mem_of_getElem? (i := 1) rfl), List.forall_mem_cons.mpr ⟨pm_X10_init_r3 _ (List.mem_of_getElem? (i := 2) rfl), List.forall_mem_cons.mpr ⟨pm_X10_init_r3 _ (List.mem_of_getElem? (i := 3) rfl), List.forall_mem_cons.mpr ⟨pm_X10_init_r3 _ (List.mem_of_getElem? (i := 4) rfl), fun _ h => absurd h List.not_mem_nil⟩⟩⟩⟩⟩⟩⟩⟩⟩⟩⟩⟩⟩⟩⟩, pw_X10_init_X10⟩⟩) (by decide +kernel)
set_option maxRecDepth 20000 in
theorem gX10_init_X10_settle : GoodIn wsX10_init (wsV RX10 109 RX10 yX10_settle wsX10_settle) := goodIn_app (goodIn_sub (List.forall_mem_cons.mpr ⟨pm_X10_init_r2 _ (List.mem_of_getElem? (i := 19) rfl), List.forall_mem_cons.mpr ⟨pm_X10_init_r2 _ (List.mem_of_getElem? (i := 20) rfl), List.forall_mem_cons.mpr ⟨pm_X10_init_r2 _ (List.mem_of_getElem? (i := 21) rfl), List.forall_mem_cons.mpr ⟨pm_X10_init_r2 _ (List.mem_of_getElem? (i := 16) rfl), fun _ h => absurd h List.not_mem_nil⟩⟩⟩⟩) (by decide +kernel)) ggX10_init_X10_settle
theorem bX10_init_0 : ((bys cX10_init).drop 0).take 16 = [42, 183, 0, 1, 42, 17, 3, 132, 188, 8, 181, 0, 7, 42, 2, 181] := by decide +kernel
theorem dX10_init_0 : decode cX10_init 0 = .ok (.aload_n 0, 1) := do_42 (byt_at bX10_init_0 (j := 0) rfl)
theorem dX10_init_1 : decode cX10_init 1 = .ok (.invokespecial 1, 3) := do_183 0 1 (byt_at bX10_init_0 (j := 1) rfl) (byt_at bX10_init_0 (j := 2) rfl) (byt_at bX10_init_0 (j := 3) rfl)
theorem dX10_init_4 : decode cX10_init 4 = .ok (.aload_n 0, 1) := do_42 (byt_at bX10_init_0 (j := 4) rfl)
theorem dX10_init_5 : decode cX10_init 5 = .ok (.sipush 900, 3) := do_17 3 132 (byt_at bX10_init_0 (j := 5) rfl) (byt_at bX10_init_0 (j := 6) rfl) (byt_at bX10_init_0 (j := 7) rfl) (by decide)
theorem dX10_init_8 : decode cX10_init 8 = .ok (.newarray .byte, 2) := by decide +kernel
theorem dX10_init_10 : decode cX10_init 10 = .ok (.putfield 7, 3) := do_181 0 7 (byt_at bX10_init_0 (j := 10) rfl) (byt_at bX10_init_0 (j := 11) rfl) (byt_at bX10_init_0 (j := 12) rfl)
theorem dX10_init_13 : decode cX10_init 13 = .ok (.aload_n 0, 1) := do_42 (byt_at bX10_init_0 (j := 13) rfl)
theorem dX10_init_14 : decode cX10_init 14 = .ok (.iconst (-1), 1) := do_2 (byt_at bX10_init_0 (j := 14) rfl)
theorem bX10_init_1 : ((bys cX10_init).drop 16).take 16 = [0, 13, 42, 16, 12, 188, 10, 181, 0, 17, 42, 7, 188, 11, 181, 0] := by decide +kernel
theorem dX10_init_15 : decode cX10_init 15 = .ok (.putfield 13, 3) := do_181 0 13 (byt_at bX10_init_0 (j := 15) rfl) (byt_at bX10_init_1 (j := 0) rfl) (byt_at bX10_init_1 (j := 1) rfl)
theorem dX10_init_18 : decode cX10_init 18 = .ok (.aload_n 0, 1) := do_42 (byt_at bX10_init_1 (j := 2) rfl)
theorem dX10_init_19 : decode cX10_init 19 = .ok (.bipush 12, 2) := do_16 12 (byt_at bX10_init_1 (j := 3) rfl) (byt_at bX10_init_1 (j := 4) rfl) (by decide)
theorem dX10_init_21 : decode cX10_init 21 = .ok (.newarray .int, 2) := by decide +kernel
theorem dX10_init_23 : decode cX10_init 23 = .ok (.putfield 17, 3) := do_181 0 17 (byt_at bX10_init_1 (j := 7) rfl) (byt_at bX10_init_1 (j := 8) rfl) (byt_at bX10_init_1 (j := 9) rfl)
theorem dX10_init_26 : decode cX10_init 26 = .ok (.aload_n 0, 1) := do_42 (byt_at bX10_init_1 (j := 10) rfl)
theorem dX10_init_27 : decode cX10_init 27 = .ok (.iconst 4, 1) := do_7 (byt_at bX10_init_1 (j := 11) rfl)
theorem dX10_init_28 : decode cX10_init 28 = .ok (.newarray .long, 2) := by decide +kernel
theorem bX10_init_2 : ((bys cX10_init).drop 32).take 16 = [21, 42, 8, 188, 11, 181, 0, 25, 42, 16, 8, 188, 10, 181, 0, 28] := by decide +kernel
theorem dX10_init_30 : decode cX10_init 30 = .ok (.putfield 21, 3) := do_181 0 21 (byt_at bX10_init_1 (j := 14) rfl) (byt_at bX10_init_1 (j := 15) rfl) (byt_at bX10_init_2 (j := 0) rfl)
theorem dX10_init_33 : decode cX10_init 33 = .ok (.aload_n 0, 1) := do_42 (byt_at bX10_init_2 (j := 1) rfl)
theorem dX10_init_34 : decode cX10_init 34 = .ok (.iconst 5, 1) := do_8 (byt_at bX10_init_2 (j := 2) rfl)
theorem dX10_init_35 : decode cX10_init 35 = .ok (.newarray .long, 2) := by decide +kernel
theorem dX10_init_37 : decode cX10_init 37 = .ok (.putfield 25, 3) := do_181 0 25 (byt_at bX10_init_2 (j := 5) rfl) (byt_at bX10_init_2 (j := 6) rfl) (byt_at bX10_init_2 (j := 7) rfl)
theorem dX10_init_40 : decode cX10_init 40 = .ok (.aload_n 0, 1) := do_42 (byt_at bX10_init_2 (j := 8) rfl)
theorem dX10_init_41 : decode cX10_init 41 = .ok (.bipush 8, 2) := do_16 8 (byt_at bX10_init_2 (j := 9) rfl) (byt_at bX10_init_2 (j := 10) rfl) (by decide)
theorem dX10_init_43 : decode cX10_init 43 = .ok (.newarray .int, 2) := by decide +kernel
theorem dX10_init_45 : decode cX10_init 45 = .ok (.putfield 28, 3) := do_181 0 28 (byt_at bX10_init_2 (j := 13) rfl) (byt_at bX10_init_2 (j := 14) rfl) (byt_at bX10_init_2 (j := 15) rfl)
theorem bX10_init_3 : ((bys cX10_init).drop 48).take 16 = [42, 16, 10, 188, 10, 181, 0, 31, 42, 16, 40, 188, 10, 181, 0, 34] := by decide +kernel
theorem dX10_init_48 : decode cX10_init 48 = .ok (.aload_n 0, 1) := do_42 (byt_at bX10_init_3 (j := 0) rfl)
theorem dX10_init_49 : decode cX10_init 49 = .ok (.bipush 10, 2) := do_16 10 (byt_at bX10_init_3 (j := 1) rfl) (byt_at bX10_init_3 (j := 2) rfl) (by decide)
theorem dX10_init_51 : decode cX10_init 51 = .ok (.newarray .int, 2) := by decide +kernel
theorem dX10_init_53 : decode cX10_init 53 = .ok (.putfield 31, 3) := do_181 0 31 (byt_at bX10_init_3 (j := 5) rfl) (byt_at bX10_init_3 (j := 6) rfl) (byt_at bX10_init_3 (j := 7) rfl)
theorem dX10_init_56 : decode cX10_init 56 = .ok (.aload_n 0, 1) := do_42 (byt_at bX10_init_3 (j := 8) rfl)
theorem dX10_init_57 : decode cX10_init 57 = .ok (.bipush 40, 2) := do_16 40 (byt_at bX10_init_3 (j := 9) rfl) (byt_at bX10_init_3 (j := 10) rfl) (by decide)
theorem dX10_init_59 : decode cX10_init 59 = .ok (.newarray .int, 2) := by decide +kernel
theorem dX10_init_61 : decode cX10_init 61 = .ok (.putfield 34, 3) := do_181 0 34 (byt_at bX10_init_3 (j := 13) rfl) (byt_at bX10_init_3 (j := 14) rfl) (byt_at bX10_init_3 (j := 15) rfl)
theorem bX10_init_4 : ((bys cX10_init).drop 64).take 16 = [42, 16, 6, 188, 10, 181, 0, 37, 42, 7, 188, 10, 181, 0, 40, 42] := by decide +kernel
theorem dX10_init_64 : decode cX10_init 64 = .ok (.aload_n 0, 1) := do_42 (byt_at bX10_init_4 (j := 0) rfl)
theorem dX10_init_65 : decode cX10_init 65 = .ok (.bipush 6, 2) := do_16 6 (byt_at bX10_init_4 (j := 1) rfl) (byt_at bX10_init_4 (j := 2) rfl) (by decide)
theorem dX10_init_67 : decode cX10_init 67 = .ok (.newarray .int, 2) := by decide +kernel
theorem dX10_init_69 : decode cX10_init 69 = .ok (.putfield 37, 3) := do_181 0 37 (byt_at bX10_init_4 (j := 5) rfl) (byt_at bX10_init_4 (j := 6) rfl) (byt_at bX10_init_4 (j := 7) rfl)
theorem dX10_init_72 : decode cX10_init 72 = .ok (.aload_n 0, 1) := do_42 (byt_at bX10_init_4 (j := 8) rfl)
theorem dX10_init_73 : decode cX10_init 73 = .ok (.iconst 4, 1) := do_7 (byt_at bX10_init_4 (j := 9) rfl)
theorem dX10_init_74 : decode cX10_init 74 = .ok (.newarray .int, 2) := by decide +kernel
theorem dX10_init_76 : decode cX10_init 76 = .ok (.putfield 40, 3) := do_181 0 40 (byt_at bX10_init_4 (j := 12) rfl) (byt_at bX10_init_4 (j := 13) rfl) (byt_at bX10_init_4 (j := 14) rfl)
theorem dX10_init_79 : decode cX10_init 79 = .ok (.aload_n 0, 1) := do_42 (byt_at bX10_init_4 (j := 15) rfl)
theorem bX10_init_5 : ((bys cX10_init).drop 80).take 16 = [7, 188, 10, 181, 0, 43, 42, 7, 188, 10, 181, 0, 46, 42, 16, 80] := by decide +kernel
theorem dX10_init_80 : decode cX10_init 80 = .ok (.iconst 4, 1) := do_7 (byt_at bX10_init_5 (j := 0) rfl)
theorem dX10_init_81 : decode cX10_init 81 = .ok (.newarray .int, 2) := by decide +kernel
theorem dX10_init_83 : decode cX10_init 83 = .ok (.putfield 43, 3) := do_181 0 43 (byt_at bX10_init_5 (j := 3) rfl) (byt_at bX10_init_5 (j := 4) rfl) (byt_at bX10_init_5 (j := 5) rfl)
theorem dX10_init_86 : decode cX10_init 86 = .ok (.aload_n 0, 1) := do_42 (byt_at bX10_init_5 (j := 6) rfl)
theorem dX10_init_87 : decode cX10_init 87 = .ok (.iconst 4, 1) := do_7 (byt_at bX10_init_5 (j := 7) rfl)
theorem dX10_init_88 : decode cX10_init 88 = .ok (.newarray .int, 2) := by decide +kernel
theorem dX10_init_90 : decode cX10_init 90 = .ok (.putfield 46, 3) := do_181 0 46 (byt_at bX10_init_5 (j := 10) rfl) (byt_at bX10_init_5 (j := 11) rfl) (byt_at bX10_init_5 (j := 12) rfl)
theorem dX10_init_93 : decode cX10_init 93 = .ok (.aload_n 0, 1) := do_42 (byt_at bX10_init_5 (j := 13) rfl)
theorem dX10_init_94 : decode cX10_init 94 = .ok (.bipush 80, 2) := do_16 80 (byt_at bX10_init_5 (j := 14) rfl) (byt_at bX10_init_5 (j := 15) rfl) (by decide)
theorem dX10_init_96 : decode cX10_init 96 = .ok (.newarray .long, 2) := by decide +kernel
theorem bX10_init_6 : ((bys cX10_init).drop 96).take 16 = [188, 11, 181, 0, 49, 42, 16, 20, 188, 11, 181, 0, 52, 42, 7, 188] := by decide +kernel
theorem dX10_init_98 : decode cX10_init 98 = .ok (.putfield 49, 3) := do_181 0 49 (byt_at bX10_init_6 (j := 2) rfl) (byt_at bX10_init_6 (j := 3) rfl) (byt_at bX10_init_6 (j := 4) rfl)
theorem dX10_init_101 : decode cX10_init 101 = .ok (.aload_n 0, 1) := do_42 (byt_at bX10_init_6 (j := 5) rfl)
theorem dX10_init_102 : decode cX10_init 102 = .ok (.bipush 20, 2) := do_16 20 (byt_at bX10_init_6 (j := 6) rfl) (byt_at bX10_init_6 (j := 7) rfl) (by decide)
theorem dX10_init_104 : decode cX10_init 104 = .ok (.newarray .long, 2) := by decide +kernel
theorem dX10_init_106 : decode cX10_init 106 = .ok (.putfield 52, 3) := do_181 0 52 (byt_at bX10_init_6 (j := 10) rfl) (byt_at bX10_init_6 (j := 11) rfl) (byt_at bX10_init_6 (j := 12) rfl)
theorem dX10_init_109 : decode cX10_init 109 = .ok (.aload_n 0, 1) := do_42 (byt_at bX10_init_6 (j := 13) rfl)
theorem dX10_init_110 : decode cX10_init 110 = .ok (.iconst 4, 1) := do_7 (byt_at bX10_init_6 (j := 14) rfl)
theorem dX10_init_111 : decode cX10_init 111 = .ok (.newarray .int, 2) := by decide +kernel
theorem bX10_init_7 : ((bys cX10_init).drop 112).take 16 = [10, 181, 0, 55, 42, 16, 20, 188, 11, 181, 0, 58, 42, 7, 188, 11] := by decide +kernel
theorem dX10_init_113 : decode cX10_init 113 = .ok (.putfield 55, 3) := do_181 0 55 (byt_at bX10_init_7 (j := 1) rfl) (byt_at bX10_init_7 (j := 2) rfl) (byt_at bX10_init_7 (j := 3) rfl)
theorem dX10_init_116 : decode cX10_init 116 = .ok (.aload_n 0, 1) := do_42 (byt_at bX10_init_7 (j := 4) rfl)
theorem dX10_init_117 : decode cX10_init 117 = .ok (.bipush 20, 2) := do_16 20 (byt_at bX10_init_7 (j := 5) rfl) (byt_at bX10_init_7 (j := 6) rfl) (by decide)
theorem dX10_init_119 : decode cX10_init 119 = .ok (.newarray .long, 2) := by decide +kernel
theorem dX10_init_121 : decode cX10_init 121 = .ok (.putfield 58, 3) := do_181 0 58 (byt_at bX10_init_7 (j := 9) rfl) (byt_at bX10_init_7 (j := 10) rfl) (byt_at bX10_init_7 (j := 11) rfl)
theorem dX10_init_124 : decode cX10_init 124 = .ok (.aload_n 0, 1) := do_42 (byt_at bX10_init_7 (j := 12) rfl)
theorem dX10_init_125 : decode cX10_init 125 = .ok (.iconst 4, 1) := do_7 (byt_at bX10_init_7 (j := 13) rfl)
theorem dX10_init_126 : decode cX10_init 126 = .ok (.newarray .long, 2) := by decide +kernel
theorem bX10_init_8 : ((bys cX10_init).drop 128).take 16 = [181, 0, 61, 42, 7, 188, 11, 181, 0, 64, 42, 7, 188, 11, 181, 0] := by decide +kernel
theorem dX10_init_128 : decode cX10_init 128 = .ok (.putfield 61, 3) := do_181 0 61 (byt_at bX10_init_8 (j := 0) rfl) (byt_at bX10_init_8 (j := 1) rfl) (byt_at bX10_init_8 (j := 2) rfl)
theorem dX10_init_131 : decode cX10_init 131 = .ok (.aload_n 0, 1) := do_42 (byt_at bX10_init_8 (j := 3) rfl)
theorem dX10_init_132 : decode cX10_init 132 = .ok (.iconst 4, 1) := do_7 (byt_at bX10_init_8 (j := 4) rfl)
theorem dX10_init_133 : decode cX10_init 133 = .ok (.newarray .long, 2) := by decide +kernel
theorem dX10_init_135 : decode cX10_init 135 = .ok (.putfield 64, 3) := do_181 0 64 (byt_at bX10_init_8 (j := 7) rfl) (byt_at bX10_init_8 (j := 8) rfl) (byt_at bX10_init_8 (j := 9) rfl)
theorem dX10_init_138 : decode cX10_init 138 = .ok (.aload_n 0, 1) := do_42 (byt_at bX10_init_8 (j := 10) rfl)
theorem dX10_init_139 : decode cX10_init 139 = .ok (.iconst 4, 1) := do_7 (byt_at bX10_init_8 (j := 11) rfl)
theorem dX10_init_140 : decode cX10_init 140 = .ok (.newarray .long, 2) := by decide +kernel
theorem bX10_init_9 : ((bys cX10_init).drop 144).take 16 = [67, 42, 7, 188, 11, 181, 0, 70, 42, 7, 188, 11, 181, 0, 73, 42] := by decide +kernel
theorem dX10_init_142 : decode cX10_init 142 = .ok (.putfield 67, 3) := do_181 0 67 (byt_at bX10_init_8 (j := 14) rfl) (byt_at bX10_init_8 (j := 15) rfl) (byt_at bX10_init_9 (j := 0) rfl)
theorem dX10_init_145 : decode cX10_init 145 = .ok (.aload_n 0, 1) := do_42 (byt_at bX10_init_9 (j := 1) rfl)
theorem dX10_init_146 : decode cX10_init 146 = .ok (.iconst 4, 1) := do_7 (byt_at bX10_init_9 (j := 2) rfl)
theorem dX10_init_147 : decode cX10_init 147 = .ok (.newarray .long, 2) := by decide +kernel
theorem dX10_init_149 : decode cX10_init 149 = .ok (.putfield 70, 3) := do_181 0 70 (byt_at bX10_init_9 (j := 5) rfl) (byt_at bX10_init_9 (j := 6) rfl) (byt_at bX10_init_9 (j := 7) rfl)
theorem dX10_init_152 : decode cX10_init 152 = .ok (.aload_n 0, 1) := do_42 (byt_at bX10_init_9 (j := 8) rfl)
theorem dX10_init_153 : decode cX10_init 153 = .ok (.iconst 4, 1) := do_7 (byt_at bX10_init_9 (j := 9) rfl)
theorem dX10_init_154 : decode cX10_init 154 = .ok (.newarray .long, 2) := by decide +kernel
theorem dX10_init_156 : decode cX10_init 156 = .ok (.putfield 73, 3) := do_181 0 73 (byt_at bX10_init_9 (j := 12) rfl) (byt_at bX10_init_9 (j := 13) rfl) (byt_at bX10_init_9 (j := 14) rfl)
theorem dX10_init_159 : decode cX10_init 159 = .ok (.aload_n 0, 1) := do_42 (byt_at bX10_init_9 (j := 15) rfl)
theorem bX10_init_10 : ((bys cX10_init).drop 160).take 16 = [7, 188, 11, 181, 0, 76, 42, 7, 188, 11, 181, 0, 79, 42, 7, 188] := by decide +kernel
theorem dX10_init_160 : decode cX10_init 160 = .ok (.iconst 4, 1) := do_7 (byt_at bX10_init_10 (j := 0) rfl)
theorem dX10_init_161 : decode cX10_init 161 = .ok (.newarray .long, 2) := by decide +kernel
theorem dX10_init_163 : decode cX10_init 163 = .ok (.putfield 76, 3) := do_181 0 76 (byt_at bX10_init_10 (j := 3) rfl) (byt_at bX10_init_10 (j := 4) rfl) (byt_at bX10_init_10 (j := 5) rfl)
theorem dX10_init_166 : decode cX10_init 166 = .ok (.aload_n 0, 1) := do_42 (byt_at bX10_init_10 (j := 6) rfl)
theorem dX10_init_167 : decode cX10_init 167 = .ok (.iconst 4, 1) := do_7 (byt_at bX10_init_10 (j := 7) rfl)
theorem dX10_init_168 : decode cX10_init 168 = .ok (.newarray .long, 2) := by decide +kernel
theorem dX10_init_170 : decode cX10_init 170 = .ok (.putfield 79, 3) := do_181 0 79 (byt_at bX10_init_10 (j := 10) rfl) (byt_at bX10_init_10 (j := 11) rfl) (byt_at bX10_init_10 (j := 12) rfl)
theorem dX10_init_173 : decode cX10_init 173 = .ok (.aload_n 0, 1) := do_42 (byt_at bX10_init_10 (j := 13) rfl)
theorem dX10_init_174 : decode cX10_init 174 = .ok (.iconst 4, 1) := do_7 (byt_at bX10_init_10 (j := 14) rfl)
theorem dX10_init_175 : decode cX10_init 175 = .ok (.newarray .int, 2) := by decide +kernel
theorem bX10_init_11 : ((bys cX10_init).drop 176).take 16 = [10, 181, 0, 82, 42, 16, 6, 188, 10, 181, 0, 85, 42, 8, 188, 10] := by decide +kernel
theorem dX10_init_177 : decode cX10_init 177 = .ok (.putfield 82, 3) := do_181 0 82 (byt_at bX10_init_11 (j := 1) rfl) (byt_at bX10_init_11 (j := 2) rfl) (byt_at bX10_init_11 (j := 3) rfl)
theorem dX10_init_180 : decode cX10_init 180 = .ok (.aload_n 0, 1) := do_42 (byt_at bX10_init_11 (j := 4) rfl)
theorem dX10_init_181 : decode cX10_init 181 = .ok (.bipush 6, 2) := do_16 6 (byt_at bX10_init_11 (j := 5) rfl) (byt_at bX10_init_11 (j := 6) rfl) (by decide)
theorem dX10_init_183 : decode cX10_init 183 = .ok (.newarray .int, 2) := by decide +kernel
theorem dX10_init_185 : decode cX10_init 185 = .ok (.putfield 85, 3) := do_181 0 85 (byt_at bX10_init_11 (j := 9) rfl) (byt_at bX10_init_11 (j := 10) rfl) (byt_at bX10_init_11 (j := 11) rfl)
theorem dX10_init_188 : decode cX10_init 188 = .ok (.aload_n 0, 1) := do_42 (byt_at bX10_init_11 (j := 12) rfl)
theorem dX10_init_189 : decode cX10_init 189 = .ok (.iconst 5, 1) := do_8 (byt_at bX10_init_11 (j := 13) rfl)
theorem dX10_init_190 : decode cX10_init 190 = .ok (.newarray .int, 2) := by decide +kernel
theorem bX10_init_12 : ((bys cX10_init).drop 192).take 16 = [181, 0, 88, 42, 16, 8, 188, 10, 181, 0, 91, 42, 16, 8, 188, 10] := by decide +kernel
theorem dX10_init_192 : decode cX10_init 192 = .ok (.putfield 88, 3) := do_181 0 88 (byt_at bX10_init_12 (j := 0) rfl) (byt_at bX10_init_12 (j := 1) rfl) (byt_at bX10_init_12 (j := 2) rfl)
theorem dX10_init_195 : decode cX10_init 195 = .ok (.aload_n 0, 1) := do_42 (byt_at bX10_init_12 (j := 3) rfl)
theorem dX10_init_196 : decode cX10_init 196 = .ok (.bipush 8, 2) := do_16 8 (byt_at bX10_init_12 (j := 4) rfl) (byt_at bX10_init_12 (j := 5) rfl) (by decide)
theorem dX10_init_198 : decode cX10_init 198 = .ok (.newarray .int, 2) := by decide +kernel
theorem dX10_init_200 : decode cX10_init 200 = .ok (.putfield 91, 3) := do_181 0 91 (byt_at bX10_init_12 (j := 8) rfl) (byt_at bX10_init_12 (j := 9) rfl) (byt_at bX10_init_12 (j := 10) rfl)
theorem dX10_init_203 : decode cX10_init 203 = .ok (.aload_n 0, 1) := do_42 (byt_at bX10_init_12 (j := 11) rfl)
theorem dX10_init_204 : decode cX10_init 204 = .ok (.bipush 8, 2) := do_16 8 (byt_at bX10_init_12 (j := 12) rfl) (byt_at bX10_init_12 (j := 13) rfl) (by decide)
theorem dX10_init_206 : decode cX10_init 206 = .ok (.newarray .int, 2) := by decide +kernel
theorem bX10_init_13 : ((bys cX10_init).drop 208).take 16 = [181, 0, 94, 42, 16, 20, 188, 10, 181, 0, 97, 42, 16, 20, 188, 10] := by decide +kernel
theorem dX10_init_208 : decode cX10_init 208 = .ok (.putfield 94, 3) := do_181 0 94 (byt_at bX10_init_13 (j := 0) rfl) (byt_at bX10_init_13 (j := 1) rfl) (byt_at bX10_init_13 (j := 2) rfl)
theorem dX10_init_211 : decode cX10_init 211 = .ok (.aload_n 0, 1) := do_42 (byt_at bX10_init_13 (j := 3) rfl)
theorem dX10_init_212 : decode cX10_init 212 = .ok (.bipush 20, 2) := do_16 20 (byt_at bX10_init_13 (j := 4) rfl) (byt_at bX10_init_13 (j := 5) rfl) (by decide)
theorem dX10_init_214 : decode cX10_init 214 = .ok (.newarray .int, 2) := by decide +kernel
theorem dX10_init_216 : decode cX10_init 216 = .ok (.putfield 97, 3) := do_181 0 97 (byt_at bX10_init_13 (j := 8) rfl) (byt_at bX10_init_13 (j := 9) rfl) (byt_at bX10_init_13 (j := 10) rfl)
theorem dX10_init_219 : decode cX10_init 219 = .ok (.aload_n 0, 1) := do_42 (byt_at bX10_init_13 (j := 11) rfl)
theorem dX10_init_220 : decode cX10_init 220 = .ok (.bipush 20, 2) := do_16 20 (byt_at bX10_init_13 (j := 12) rfl) (byt_at bX10_init_13 (j := 13) rfl) (by decide)
theorem dX10_init_222 : decode cX10_init 222 = .ok (.newarray .int, 2) := by decide +kernel
theorem bX10_init_14 : ((bys cX10_init).drop 224).take 16 = [181, 0, 100, 42, 16, 20, 188, 10, 181, 0, 103, 42, 182, 0, 106, 42] := by decide +kernel
theorem dX10_init_224 : decode cX10_init 224 = .ok (.putfield 100, 3) := do_181 0 100 (byt_at bX10_init_14 (j := 0) rfl) (byt_at bX10_init_14 (j := 1) rfl) (byt_at bX10_init_14 (j := 2) rfl)
theorem dX10_init_227 : decode cX10_init 227 = .ok (.aload_n 0, 1) := do_42 (byt_at bX10_init_14 (j := 3) rfl)
theorem dX10_init_228 : decode cX10_init 228 = .ok (.bipush 20, 2) := do_16 20 (byt_at bX10_init_14 (j := 4) rfl) (byt_at bX10_init_14 (j := 5) rfl) (by decide)
theorem dX10_init_230 : decode cX10_init 230 = .ok (.newarray .int, 2) := by decide +kernel
theorem dX10_init_232 : decode cX10_init 232 = .ok (.putfield 103, 3) := do_181 0 103 (byt_at bX10_init_14 (j := 8) rfl) (byt_at bX10_init_14 (j := 9) rfl) (byt_at bX10_init_14 (j := 10) rfl)
theorem dX10_init_235 : decode cX10_init 235 = .ok (.aload_n 0, 1) := do_42 (byt_at bX10_init_14 (j := 11) rfl)
theorem dX10_init_236 : decode cX10_init 236 = .ok (.invokevirtual 106, 3) := do_182 0 106 (byt_at bX10_init_14 (j := 12) rfl) (byt_at bX10_init_14 (j := 13) rfl) (byt_at bX10_init_14 (j := 14) rfl)
theorem dX10_init_239 : decode cX10_init 239 = .ok (.aload_n 0, 1) := do_42 (byt_at bX10_init_14 (j := 15) rfl)
theorem bX10_init_15 : ((bys cX10_init).drop 240).take 16 = [182, 0, 109, 177] := by decide +kernel
theorem dX10_init_240 : decode cX10_init 240 = .ok (.invokevirtual 109, 3) := do_182 0 109 (byt_at bX10_init_15 (j := 0) rfl) (byt_at bX10_init_15 (j := 1) rfl) (byt_at bX10_init_15 (j := 2) rfl)
theorem dX10_init_243 : decode cX10_init 243 = .ok (.return_, 1) := do_177 (byt_at bX10_init_15 (j := 3) rfl)
theorem kk_X9_init_0 : Cond.methodLink RX9 1 objectInit ∈ wsX9_init := pm_X9_init_r1 _ (List.mem_of_getElem? (i := 0) rfl)
theorem kk_X9_init_1 : Cond.instanceMethod objectInit ∈ wsX9_init := pm_X9_init_r1 _ (List.mem_of_getElem? (i := 1) rfl)
theorem kk_X9_init_2 : Cond.code objectInit ⟨#[0xb1]⟩ 1 none ∈ wsX9_init := pm_X9_init_r1 _ (List.mem_of_getElem? (i := 2) rfl)
theorem kk_X9_init_3 : Cond.classLink RX9 7 RX7 ∈ wsX9_init := pm_X9_init_r1 _ (List.mem_of_getElem? (i := 3) rfl)
theorem kk_X9_init_4 : Cond.instantiable RX7 14 ∈ wsX9_init := pm_X9_init_r1 _ (List.mem_of_getElem? (i := 4) rfl)
theorem kk_X9_init_5 : Cond.initialized RX7 ∈ wsX9_init := pm_X9_init_r1 _ (List.mem_of_getElem? (i := 5) rfl)
theorem kk_X9_init_6 : Cond.methodLink RX9 9 yX7_init ∈ wsX9_init := pm_X9_init_r2 _ (List.mem_of_getElem? (i := 19) rfl)
theorem kk_X9_init_7 : Cond.instanceMethod yX7_init ∈ wsX9_init := pm_X9_init_r2 _ (List.mem_of_getElem? (i := 20) rfl)
theorem kk_X9_init_8 : Cond.fieldLink RX9 10 "PaidBySigns" "reader" "LPaidBySigns$Reader;" ∈ wsX9_init := pm_X9_init_r1 _ (List.mem_of_getElem? (i := 6) rfl)
theorem kk_X9_init_9 : Cond.classLink RX9 16 RX3 ∈ wsX9_init := pm_X9_init_r1 _ (List.mem_of_getElem? (i := 7) rfl)
theorem kk_X9_init_10 : Cond.instantiable RX3 11 ∈ wsX9_init := pm_X9_init_r1 _ (List.mem_of_getElem? (i := 8) rfl)
theorem kk_X9_init_11 : Cond.initialized RX3 ∈ wsX9_init := pm_X9_init_r1 _ (List.mem_of_getElem? (i := 9) rfl)
theorem kk_X9_init_12 : Cond.methodLink RX9 18 yX3_init ∈ wsX9_init := pm_X9_init_r4 _ (List.mem_of_getElem? (i := 11) rfl)
theorem kk_X9_init_13 : Cond.instanceMethod yX3_init ∈ wsX9_init := pm_X9_init_r3 _ (List.mem_of_getElem? (i := 16) rfl)
theorem kk_X9_init_14 : Cond.fieldLink RX9 19 "PaidBySigns" "hire" "LPaidBySigns$Hire;" ∈ wsX9_init := pm_X9_init_r1 _ (List.mem_of_getElem? (i := 10) rfl)
theorem kk_X9_init_15 : Cond.arrayClass .int ∈ wsX9_init := pm_X9_init_r1 _ (List.mem_of_getElem? (i := 11) rfl)
theorem kk_X9_init_16 : Cond.fieldLink RX9 23 "PaidBySigns" "hand" "[I" ∈ wsX9_init := pm_X9_init_r1 _ (List.mem_of_getElem? (i := 12) rfl)
theorem kk_X9_init_17 : Cond.classLink RX9 27 RX2 ∈ wsX9_init := pm_X9_init_r1 _ (List.mem_of_getElem? (i := 13) rfl)
theorem kk_X9_init_18 : Cond.instantiable RX2 2 ∈ wsX9_init := pm_X9_init_r1 _ (List.mem_of_getElem? (i := 14) rfl)
theorem kk_X9_init_19 : Cond.initialized RX2 ∈ wsX9_init := pm_X9_init_r1 _ (List.mem_of_getElem? (i := 15) rfl)
theorem kk_X9_init_20 : Cond.methodLink RX9 29 yX2_init ∈ wsX9_init := pm_X9_init_r4 _ (List.mem_of_getElem? (i := 12) rfl)
theorem kk_X9_init_21 : Cond.instanceMethod yX2_init ∈ wsX9_init := pm_X9_init_r4 _ (List.mem_of_getElem? (i := 13) rfl)
theorem kk_X9_init_22 : Cond.fieldLink RX9 30 "PaidBySigns" "latest" "LPaidBySigns$Fraction;" ∈ wsX9_init := pm_X9_init_r1 _ (List.mem_of_getElem? (i := 16) rfl)
theorem kk_X9_init_23 : Cond.fieldLink RX9 34 "PaidBySigns" "trial" "LPaidBySigns$Fraction;" ∈ wsX9_init := pm_X9_init_r1 _ (List.mem_of_getElem? (i := 17) rfl)
theorem kk_X9_init_24 : Cond.fieldLink RX9 37 "PaidBySigns" "champion" "LPaidBySigns$Fraction;" ∈ wsX9_init := pm_X9_init_r1 _ (List.mem_of_getElem? (i := 18) rfl)
theorem kk_X9_init_25 : Cond.arrayClass .long ∈ wsX9_init := pm_X9_init_r1 _ (List.mem_of_getElem? (i := 19) rfl)
theorem kk_X9_init_26 : Cond.fieldLink RX9 40 "PaidBySigns" "wageUpper" "[J" ∈ wsX9_init := pm_X9_init_r1 _ (List.mem_of_getElem? (i := 20) rfl)
theorem kk_X9_init_27 : Cond.fieldLink RX9 44 "PaidBySigns" "wageLower" "[J" ∈ wsX9_init := pm_X9_init_r1 _ (List.mem_of_getElem? (i := 21) rfl)
theorem kk_X9_init_28 : Cond.fieldLink RX9 47 "PaidBySigns" "hasWages" "Z" ∈ wsX9_init := pm_X9_init_r1 _ (List.mem_of_getElem? (i := 22) rfl)
theorem kk_X9_init_29 : Cond.classLink RX9 51 RX4 ∈ wsX9_init := pm_X9_init_r1 _ (List.mem_of_getElem? (i := 23) rfl)
theorem kk_X9_init_30 : Cond.instantiable RX4 12 ∈ wsX9_init := pm_X9_init_r2 _ (List.mem_of_getElem? (i := 0) rfl)
theorem kk_X9_init_31 : Cond.initialized RX4 ∈ wsX9_init := pm_X9_init_r2 _ (List.mem_of_getElem? (i := 1) rfl)
theorem kk_X9_init_32 : Cond.methodLink RX9 53 yX4_init ∈ wsX9_init := pm_X9_init_r4 _ (List.mem_of_getElem? (i := 19) rfl)
theorem kk_X9_init_33 : Cond.instanceMethod yX4_init ∈ wsX9_init := pm_X9_init_r4 _ (List.mem_of_getElem? (i := 20) rfl)
theorem kk_X9_init_34 : Cond.fieldLink RX9 54 "PaidBySigns" "cheapest" "LPaidBySigns$LeastCost;" ∈ wsX9_init := pm_X9_init_r2 _ (List.mem_of_getElem? (i := 2) rfl)
theorem kk_X9_init_35 : Cond.classLink RX9 58 RX5 ∈ wsX9_init := pm_X9_init_r2 _ (List.mem_of_getElem? (i := 3) rfl)
theorem kk_X9_init_36 : Cond.instantiable RX5 5 ∈ wsX9_init := pm_X9_init_r2 _ (List.mem_of_getElem? (i := 4) rfl)
theorem kk_X9_init_37 : Cond.initialized RX5 ∈ wsX9_init := pm_X9_init_r2 _ (List.mem_of_getElem? (i := 5) rfl)
theorem kk_X9_init_38 : Cond.methodLink RX9 60 yX5_init ∈ wsX9_init := pm_X9_init_r6 _ (List.mem_of_getElem? (i := 0) rfl)
theorem kk_X9_init_39 : Cond.instanceMethod yX5_init ∈ wsX9_init := pm_X9_init_r6 _ (List.mem_of_getElem? (i := 1) rfl)
theorem kk_X9_init_40 : Cond.fieldLink RX9 61 "PaidBySigns" "oneSum" "LPaidBySigns$OneSum;" ∈ wsX9_init := pm_X9_init_r2 _ (List.mem_of_getElem? (i := 6) rfl)
theorem kk_X9_init_41 : Cond.classLink RX9 65 RX0 ∈ wsX9_init := pm_X9_init_r2 _ (List.mem_of_getElem? (i := 7) rfl)
theorem kk_X9_init_42 : Cond.instantiable RX0 11 ∈ wsX9_init := pm_X9_init_r2 _ (List.mem_of_getElem? (i := 8) rfl)
theorem kk_X9_init_43 : Cond.initialized RX0 ∈ wsX9_init := pm_X9_init_r2 _ (List.mem_of_getElem? (i := 9) rfl)
theorem kk_X9_init_44 : Cond.methodLink RX9 67 yX0_init ∈ wsX9_init := pm_X9_init_r6 _ (List.mem_of_getElem? (i := 4) rfl)
theorem kk_X9_init_45 : Cond.instanceMethod yX0_init ∈ wsX9_init := pm_X9_init_r6 _ (List.mem_of_getElem? (i := 5) rfl)
theorem kk_X9_init_46 : Cond.fieldLink RX9 68 "PaidBySigns" "coinSearch" "LPaidBySigns$CoinSearch;" ∈ wsX9_init := pm_X9_init_r2 _ (List.mem_of_getElem? (i := 10) rfl)
theorem kk_X9_init_47 : Cond.classLink RX9 72 RX6 ∈ wsX9_init := pm_X9_init_r2 _ (List.mem_of_getElem? (i := 11) rfl)
theorem kk_X9_init_48 : Cond.instantiable RX6 4 ∈ wsX9_init := pm_X9_init_r2 _ (List.mem_of_getElem? (i := 12) rfl)
theorem kk_X9_init_49 : Cond.initialized RX6 ∈ wsX9_init := pm_X9_init_r2 _ (List.mem_of_getElem? (i := 13) rfl)
theorem kk_X9_init_50 : Cond.methodLink RX9 74 yX6_init ∈ wsX9_init := pm_X9_init_r6 _ (List.mem_of_getElem? (i := 18) rfl)
theorem kk_X9_init_51 : Cond.instanceMethod yX6_init ∈ wsX9_init := pm_X9_init_r6 _ (List.mem_of_getElem? (i := 19) rfl)
theorem kk_X9_init_52 : Cond.fieldLink RX9 75 "PaidBySigns" "proofs" "LPaidBySigns$Proofs;" ∈ wsX9_init := pm_X9_init_r2 _ (List.mem_of_getElem? (i := 14) rfl)
theorem kk_X9_init_53 : Cond.classLink RX9 79 RX1 ∈ wsX9_init := pm_X9_init_r2 _ (List.mem_of_getElem? (i := 15) rfl)
theorem kk_X9_init_54 : Cond.instantiable RX1 9 ∈ wsX9_init := pm_X9_init_r2 _ (List.mem_of_getElem? (i := 16) rfl)
theorem kk_X9_init_55 : Cond.initialized RX1 ∈ wsX9_init := pm_X9_init_r2 _ (List.mem_of_getElem? (i := 17) rfl)
theorem kk_X1_init_0 : Cond.methodLink RX1 3 objectInit ∈ wsX1_init := List.mem_cons_of_mem _ (List.mem_append_left _ (List.mem_of_getElem? (i := 0) rfl))
theorem kk_X1_init_1 : Cond.instanceMethod objectInit ∈ wsX1_init := List.mem_cons_of_mem _ (List.mem_append_left _ (List.mem_of_getElem? (i := 1) rfl))
theorem kk_X1_init_2 : Cond.code objectInit ⟨#[0xb1]⟩ 1 none ∈ wsX1_init := List.mem_cons_of_mem _ (List.mem_append_left _ (List.mem_of_getElem? (i := 2) rfl))
theorem kk_X1_init_3 : Cond.fieldLink RX1 9 "PaidBySigns$Diary" "seen" "I" ∈ wsX1_init := List.mem_cons_of_mem _ (List.mem_append_left _ (List.mem_of_getElem? (i := 3) rfl))
theorem kk_X1_init_4 : Cond.fieldLink RX1 15 "PaidBySigns$Diary" "rights" "I" ∈ wsX1_init := List.mem_cons_of_mem _ (List.mem_append_left _ (List.mem_of_getElem? (i := 4) rfl))
theorem kk_X1_init_5 : Cond.fieldLink RX1 18 "PaidBySigns$Diary" "latestStep" "I" ∈ wsX1_init := List.mem_cons_of_mem _ (List.mem_append_left _ (List.mem_of_getElem? (i := 5) rfl))
theorem kk_X1_init_6 : Cond.arrayClass .int ∈ wsX1_init := List.mem_cons_of_mem _ (List.mem_append_left _ (List.mem_of_getElem? (i := 6) rfl))
theorem kk_X1_init_7 : Cond.fieldLink RX1 21 "PaidBySigns$Diary" "seenStep" "[I" ∈ wsX1_init := List.mem_cons_of_mem _ (List.mem_append_left _ (List.mem_of_getElem? (i := 7) rfl))
theorem kk_X1_init_8 : Cond.fieldLink RX1 25 "PaidBySigns$Diary" "seenSign" "[I" ∈ wsX1_init := List.mem_cons_of_mem _ (List.mem_append_left _ (List.mem_of_getElem? (i := 8) rfl))
theorem kk_X1_init_9 : Cond.fieldLink RX1 28 "PaidBySigns$Diary" "timesRight" "[I" ∈ wsX1_init := List.mem_cons_of_mem _ (List.mem_append_left _ (List.mem_of_getElem? (i := 9) rfl))
theorem kk_X1_init_10 : Cond.fieldLink RX1 31 "PaidBySigns$Diary" "rightStep" "[I" ∈ wsX1_init := List.mem_cons_of_mem _ (List.mem_append_left _ (List.mem_of_getElem? (i := 10) rfl))
theorem kk_X1_init_11 : Cond.fieldLink RX1 34 "PaidBySigns$Diary" "rightOf" "[I" ∈ wsX1_init := List.mem_cons_of_mem _ (List.mem_append_left _ (List.mem_of_getElem? (i := 11) rfl))
theorem kk_X1_init_12 : Cond.fieldLink RX1 37 "PaidBySigns$Diary" "rightSign" "[I" ∈ wsX1_init := List.mem_cons_of_mem _ (List.mem_append_left _ (List.mem_of_getElem? (i := 12) rfl))
theorem kk_X9_init_56 : Cond.methodLink RX9 81 yX1_init ∈ wsX9_init := pm_X9_init_r7 _ (List.mem_of_getElem? (i := 2) rfl)
theorem kk_X9_init_57 : Cond.instanceMethod yX1_init ∈ wsX9_init := pm_X9_init_r7 _ (List.mem_of_getElem? (i := 3) rfl)
theorem kk_X9_init_58 : Cond.fieldLink RX9 82 "PaidBySigns" "diary" "LPaidBySigns$Diary;" ∈ wsX9_init := pm_X9_init_r2 _ (List.mem_of_getElem? (i := 18) rfl)
theorem kk_X10_init_0 : Cond.methodLink RX10 1 objectInit ∈ wsX10_init := pm_X10_init_r1 _ (List.mem_of_getElem? (i := 0) rfl)
theorem kk_X10_init_1 : Cond.instanceMethod objectInit ∈ wsX10_init := pm_X10_init_r1 _ (List.mem_of_getElem? (i := 1) rfl)
theorem kk_X10_init_2 : Cond.code objectInit ⟨#[0xb1]⟩ 1 none ∈ wsX10_init := pm_X10_init_r1 _ (List.mem_of_getElem? (i := 2) rfl)
theorem kk_X10_init_3 : Cond.arrayClass .byte ∈ wsX10_init := pm_X10_init_r1 _ (List.mem_of_getElem? (i := 3) rfl)
theorem kk_X10_init_4 : Cond.fieldLink RX10 7 "PaidBySignsModel" "tape" "[B" ∈ wsX10_init := pm_X10_init_r1 _ (List.mem_of_getElem? (i := 4) rfl)
theorem kk_X10_init_5 : Cond.fieldLink RX10 13 "PaidBySignsModel" "faultPlace" "I" ∈ wsX10_init := pm_X10_init_r1 _ (List.mem_of_getElem? (i := 5) rfl)
theorem kk_X10_init_6 : Cond.arrayClass .int ∈ wsX10_init := pm_X10_init_r1 _ (List.mem_of_getElem? (i := 6) rfl)
theorem kk_X10_init_7 : Cond.fieldLink RX10 17 "PaidBySignsModel" "num" "[I" ∈ wsX10_init := pm_X10_init_r1 _ (List.mem_of_getElem? (i := 7) rfl)
theorem kk_X10_init_8 : Cond.arrayClass .long ∈ wsX10_init := pm_X10_init_r1 _ (List.mem_of_getElem? (i := 8) rfl)
theorem kk_X10_init_9 : Cond.fieldLink RX10 21 "PaidBySignsModel" "signName" "[J" ∈ wsX10_init := pm_X10_init_r1 _ (List.mem_of_getElem? (i := 9) rfl)
theorem kk_X10_init_10 : Cond.fieldLink RX10 25 "PaidBySignsModel" "workName" "[J" ∈ wsX10_init := pm_X10_init_r1 _ (List.mem_of_getElem? (i := 10) rfl)
theorem kk_X10_init_11 : Cond.fieldLink RX10 28 "PaidBySignsModel" "brings" "[I" ∈ wsX10_init := pm_X10_init_r1 _ (List.mem_of_getElem? (i := 11) rfl)
theorem kk_X10_init_12 : Cond.fieldLink RX10 31 "PaidBySignsModel" "costs" "[I" ∈ wsX10_init := pm_X10_init_r1 _ (List.mem_of_getElem? (i := 12) rfl)
theorem kk_X10_init_13 : Cond.fieldLink RX10 34 "PaidBySignsModel" "chances" "[I" ∈ wsX10_init := pm_X10_init_r1 _ (List.mem_of_getElem? (i := 13) rfl)
theorem kk_X10_init_14 : Cond.fieldLink RX10 37 "PaidBySignsModel" "rates" "[I" ∈ wsX10_init := pm_X10_init_r1 _ (List.mem_of_getElem? (i := 14) rfl)
theorem kk_X10_init_15 : Cond.fieldLink RX10 40 "PaidBySignsModel" "marks" "[I" ∈ wsX10_init := pm_X10_init_r1 _ (List.mem_of_getElem? (i := 15) rfl)
theorem kk_X10_init_16 : Cond.fieldLink RX10 43 "PaidBySignsModel" "hand" "[I" ∈ wsX10_init := pm_X10_init_r1 _ (List.mem_of_getElem? (i := 16) rfl)
theorem kk_X10_init_17 : Cond.fieldLink RX10 46 "PaidBySignsModel" "groupOf" "[I" ∈ wsX10_init := pm_X10_init_r1 _ (List.mem_of_getElem? (i := 17) rfl)
theorem kk_X10_init_18 : Cond.fieldLink RX10 49 "PaidBySignsModel" "row" "[J" ∈ wsX10_init := pm_X10_init_r1 _ (List.mem_of_getElem? (i := 18) rfl)
theorem kk_X10_init_19 : Cond.fieldLink RX10 52 "PaidBySignsModel" "least" "[J" ∈ wsX10_init := pm_X10_init_r1 _ (List.mem_of_getElem? (i := 19) rfl)
theorem kk_X10_init_20 : Cond.fieldLink RX10 55 "PaidBySignsModel" "chosen" "[I" ∈ wsX10_init := pm_X10_init_r1 _ (List.mem_of_getElem? (i := 20) rfl)
theorem kk_X10_init_21 : Cond.fieldLink RX10 58 "PaidBySignsModel" "matrix" "[J" ∈ wsX10_init := pm_X10_init_r1 _ (List.mem_of_getElem? (i := 21) rfl)
theorem kk_X10_init_22 : Cond.fieldLink RX10 61 "PaidBySignsModel" "x" "[J" ∈ wsX10_init := pm_X10_init_r1 _ (List.mem_of_getElem? (i := 22) rfl)
theorem kk_X10_init_23 : Cond.fieldLink RX10 64 "PaidBySignsModel" "wageUp" "[J" ∈ wsX10_init := pm_X10_init_r1 _ (List.mem_of_getElem? (i := 23) rfl)
theorem kk_X10_init_24 : Cond.fieldLink RX10 67 "PaidBySignsModel" "wageLow" "[J" ∈ wsX10_init := pm_X10_init_r2 _ (List.mem_of_getElem? (i := 0) rfl)
theorem kk_X10_init_25 : Cond.fieldLink RX10 70 "PaidBySignsModel" "bestUp" "[J" ∈ wsX10_init := pm_X10_init_r2 _ (List.mem_of_getElem? (i := 1) rfl)
theorem kk_X10_init_26 : Cond.fieldLink RX10 73 "PaidBySignsModel" "bestLow" "[J" ∈ wsX10_init := pm_X10_init_r2 _ (List.mem_of_getElem? (i := 2) rfl)
theorem kk_X10_init_27 : Cond.fieldLink RX10 76 "PaidBySignsModel" "toldUp" "[J" ∈ wsX10_init := pm_X10_init_r2 _ (List.mem_of_getElem? (i := 3) rfl)
theorem kk_X10_init_28 : Cond.fieldLink RX10 79 "PaidBySignsModel" "toldLow" "[J" ∈ wsX10_init := pm_X10_init_r2 _ (List.mem_of_getElem? (i := 4) rfl)
theorem kk_X10_init_29 : Cond.fieldLink RX10 82 "PaidBySignsModel" "coin" "[I" ∈ wsX10_init := pm_X10_init_r2 _ (List.mem_of_getElem? (i := 5) rfl)
theorem kk_X10_init_30 : Cond.fieldLink RX10 85 "PaidBySignsModel" "presses" "[I" ∈ wsX10_init := pm_X10_init_r2 _ (List.mem_of_getElem? (i := 6) rfl)
theorem kk_X10_init_31 : Cond.fieldLink RX10 88 "PaidBySignsModel" "mixes" "[I" ∈ wsX10_init := pm_X10_init_r2 _ (List.mem_of_getElem? (i := 7) rfl)
theorem kk_X10_init_32 : Cond.fieldLink RX10 91 "PaidBySignsModel" "sTold" "[I" ∈ wsX10_init := pm_X10_init_r2 _ (List.mem_of_getElem? (i := 8) rfl)
theorem kk_X10_init_33 : Cond.fieldLink RX10 94 "PaidBySignsModel" "sSign" "[I" ∈ wsX10_init := pm_X10_init_r2 _ (List.mem_of_getElem? (i := 9) rfl)
theorem kk_X10_init_34 : Cond.fieldLink RX10 97 "PaidBySignsModel" "rOf" "[I" ∈ wsX10_init := pm_X10_init_r2 _ (List.mem_of_getElem? (i := 10) rfl)
theorem kk_X10_init_35 : Cond.fieldLink RX10 100 "PaidBySignsModel" "rTold" "[I" ∈ wsX10_init := pm_X10_init_r2 _ (List.mem_of_getElem? (i := 11) rfl)
theorem kk_X10_init_36 : Cond.fieldLink RX10 103 "PaidBySignsModel" "rSign" "[I" ∈ wsX10_init := pm_X10_init_r2 _ (List.mem_of_getElem? (i := 12) rfl)
theorem iw_X9_init_X7 : ∀ w ∈ wsX70, w ∈ wsX9_init := pw_X9_init_X7
theorem iw_X9_init_X9 : ∀ w ∈ wsX90, w ∈ wsX9_init := pw_X9_init_X9
theorem iw_X9_init_X3 : ∀ w ∈ wsX30, w ∈ wsX9_init := pw_X9_init_X3
theorem iw_X9_init_X2 : ∀ w ∈ wsX20, w ∈ wsX9_init := pw_X9_init_X2
theorem iw_X9_init_X4 : ∀ w ∈ wsX40, w ∈ wsX9_init := pw_X9_init_X4
theorem iw_X9_init_X5 : ∀ w ∈ wsX50, w ∈ wsX9_init := pw_X9_init_X5
theorem iw_X9_init_X0 : ∀ w ∈ wsX00, w ∈ wsX9_init := pw_X9_init_X0
theorem iw_X9_init_X6 : ∀ w ∈ wsX60, w ∈ wsX9_init := pw_X9_init_X6
theorem iw_X9_init_X1 : ∀ w ∈ wsX10, w ∈ wsX9_init := pw_X9_init_X1
theorem iw_X1_init_X1 : ∀ w ∈ wsX10, w ∈ wsX1_init := fun _ h => List.mem_cons_of_mem _ (List.mem_append_right _ h)
theorem iw_X10_init_X10 : ∀ w ∈ wsX100, w ∈ wsX10_init := pw_X10_init_X10
