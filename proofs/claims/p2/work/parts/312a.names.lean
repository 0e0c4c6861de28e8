abbrev cX10_isHad : ByteArray := prog_12_method_53_code
def yX10_isHad : MethodName := ⟨RX10, "isHad", "(I)Z"⟩
abbrev cX10_eachAlone : ByteArray := prog_12_method_54_code
def yX10_eachAlone : MethodName := ⟨RX10, "eachAlone", "()V"⟩
abbrev cX10_tellWages : ByteArray := prog_12_method_55_code
def yX10_tellWages : MethodName := ⟨RX10, "tellWages", "()V"⟩
abbrev cX10_make : ByteArray := prog_12_method_56_code
def yX10_make : MethodName := ⟨RX10, "make", "(I)I"⟩
abbrev cX10_wages : ByteArray := prog_12_method_57_code
def yX10_wages : MethodName := ⟨RX10, "wages", "(IZ)J"⟩
def wsX10_isHad_r1 : List Cond := [Cond.fieldLink RX10 322 "PaidBySignsModel" "isFound" "Z", Cond.methodLink RX10 343 yX10_makeBounds, Cond.instanceMethod yX10_makeBounds, Cond.selects RX10 yX10_makeBounds yX10_makeBounds, Cond.initialized RX10, Cond.code yX10_makeBounds cX10_makeBounds 5 none, Cond.fieldLink RX10 292 "PaidBySignsModel" "bounds" "I", Cond.fieldLink RX10 17 "PaidBySignsModel" "num" "[I", Cond.fieldLink RX10 31 "PaidBySignsModel" "costs" "[I", Cond.fieldLink RX10 49 "PaidBySignsModel" "row" "[J", Cond.fieldLink RX10 46 "PaidBySignsModel" "groupOf" "[I", Cond.fieldLink RX10 289 "PaidBySignsModel" "groups" "I", Cond.fieldLink RX10 299 "PaidBySignsModel" "asked" "I", Cond.fieldLink RX10 40 "PaidBySignsModel" "marks" "[I", Cond.methodLink RX10 295 yX10_addBound, Cond.instanceMethod yX10_addBound, Cond.selects RX10 yX10_addBound yX10_addBound, Cond.code yX10_addBound cX10_addBound 4 (some .int), Cond.fieldLink RX10 52 "PaidBySignsModel" "least" "[J", Cond.methodLink RX10 259 yX10_chanceOf, Cond.instanceMethod yX10_chanceOf, Cond.selects RX10 yX10_chanceOf yX10_chanceOf, Cond.code yX10_chanceOf cX10_chanceOf 3 (some .int), Cond.fieldLink RX10 34 "PaidBySignsModel" "chances" "[I"]
def wsX10_isHad_r2 : List Cond := [Cond.methodLink RX10 264 yX10_feel, Cond.instanceMethod yX10_feel, Cond.selects RX10 yX10_feel yX10_feel, Cond.code yX10_feel cX10_feel 6 (some .int), Cond.fieldLink RX10 37 "PaidBySignsModel" "rates" "[I", Cond.methodLink RX10 339 yX10_choose, Cond.instanceMethod yX10_choose, Cond.selects RX10 yX10_choose yX10_choose, Cond.code yX10_choose cX10_choose 5 none, Cond.fieldLink RX10 55 "PaidBySignsModel" "chosen" "[I", Cond.methodLink RX10 335 yX10_look, Cond.instanceMethod yX10_look, Cond.selects RX10 yX10_look yX10_look, Cond.code yX10_look cX10_look 10 none, Cond.fieldLink RX10 61 "PaidBySignsModel" "x" "[J", Cond.fieldLink RX10 310 "PaidBySignsModel" "det" "J", Cond.fieldLink RX10 67 "PaidBySignsModel" "wageLow" "[J", Cond.fieldLink RX10 64 "PaidBySignsModel" "wageUp" "[J", Cond.fieldLink RX10 325 "PaidBySignsModel" "costUp" "J", Cond.fieldLink RX10 328 "PaidBySignsModel" "costLow" "J", Cond.constantLong RX10 313 (-1), Cond.fieldLink RX10 70 "PaidBySignsModel" "bestUp" "[J", Cond.fieldLink RX10 73 "PaidBySignsModel" "bestLow" "[J", Cond.methodLink RX10 315 yX10_isCorner]
def wsX10_isHad_r3 : List Cond := [Cond.instanceMethod yX10_isCorner, Cond.selects RX10 yX10_isCorner yX10_isCorner, Cond.code yX10_isCorner cX10_isCorner 7 (some .boolean), Cond.methodLink RX10 306 yX10_determinant, Cond.instanceMethod yX10_determinant, Cond.selects RX10 yX10_determinant yX10_determinant, Cond.code yX10_determinant cX10_determinant 4 (some .long), Cond.fieldLink RX10 58 "PaidBySignsModel" "matrix" "[J", Cond.methodLink RX10 302 yX10_minor, Cond.instanceMethod yX10_minor, Cond.selects RX10 yX10_minor yX10_minor, Cond.code yX10_minor cX10_minor 7 (some .long), Cond.methodLink RX10 318 yX10_wageOf, Cond.instanceMethod yX10_wageOf, Cond.selects RX10 yX10_wageOf yX10_wageOf, Cond.code yX10_wageOf cX10_wageOf 13 none, Cond.methodLink RX10 277 yX10_common, Cond.static yX10_common, Cond.code yX10_common cX10_common 10 (some .long), Cond.methodLink RX10 331 yX10_apart, Cond.static yX10_apart, Cond.code yX10_apart cX10_apart 8 (some .long)]
def wsX10_isHad : List Cond := .code yX10_isHad cX10_isHad 2 (some .boolean) :: ((wsX10_isHad_r1 ++ (wsX10_isHad_r2 ++ wsX10_isHad_r3)) ++ wsX100)
def wsX10_eachAlone : List Cond := .code yX10_eachAlone cX10_eachAlone 2 none :: ([.fieldLink RX10 17 "PaidBySignsModel" "num" "[I", .fieldLink RX10 289 "PaidBySignsModel" "groups" "I", .fieldLink RX10 46 "PaidBySignsModel" "groupOf" "[I"] ++ wsX100)
def wsX10_tellWages : List Cond := .code yX10_tellWages cX10_tellWages 2 none :: ([.fieldLink RX10 206 "PaidBySignsModel" "hasWages" "Z", .fieldLink RX10 17 "PaidBySignsModel" "num" "[I", .fieldLink RX10 346 "PaidBySignsModel" "wageMany" "I", .fieldLink RX10 76 "PaidBySignsModel" "toldUp" "[J", .fieldLink RX10 70 "PaidBySignsModel" "bestUp" "[J", .fieldLink RX10 79 "PaidBySignsModel" "toldLow" "[J", .fieldLink RX10 73 "PaidBySignsModel" "bestLow" "[J"] ++ wsX100)
def wsX10_make_r1 : List Cond := [Cond.fieldLink RX10 325 "PaidBySignsModel" "costUp" "J", Cond.fieldLink RX10 328 "PaidBySignsModel" "costLow" "J", Cond.methodLink RX10 253 yX10_isWork, Cond.instanceMethod yX10_isWork, Cond.selects RX10 yX10_isWork yX10_isWork, Cond.initialized RX10, Cond.code yX10_isWork cX10_isWork 2 (some .boolean), Cond.fieldLink RX10 17 "PaidBySignsModel" "num" "[I", Cond.methodLink RX10 174 yX10_in, Cond.static yX10_in, Cond.code yX10_in cX10_in 6 (some .boolean), Cond.methodLink RX10 349 yX10_eachAlone, Cond.instanceMethod yX10_eachAlone, Cond.selects RX10 yX10_eachAlone yX10_eachAlone, Cond.code yX10_eachAlone cX10_eachAlone 2 none, Cond.fieldLink RX10 289 "PaidBySignsModel" "groups" "I", Cond.fieldLink RX10 46 "PaidBySignsModel" "groupOf" "[I", Cond.methodLink RX10 352 yX10_isHad, Cond.instanceMethod yX10_isHad, Cond.selects RX10 yX10_isHad yX10_isHad, Cond.code yX10_isHad cX10_isHad 2 (some .boolean), Cond.fieldLink RX10 322 "PaidBySignsModel" "isFound" "Z", Cond.methodLink RX10 343 yX10_makeBounds, Cond.instanceMethod yX10_makeBounds]
def wsX10_make_r2 : List Cond := [Cond.selects RX10 yX10_makeBounds yX10_makeBounds, Cond.code yX10_makeBounds cX10_makeBounds 5 none, Cond.fieldLink RX10 292 "PaidBySignsModel" "bounds" "I", Cond.fieldLink RX10 31 "PaidBySignsModel" "costs" "[I", Cond.fieldLink RX10 49 "PaidBySignsModel" "row" "[J", Cond.fieldLink RX10 299 "PaidBySignsModel" "asked" "I", Cond.fieldLink RX10 40 "PaidBySignsModel" "marks" "[I", Cond.methodLink RX10 295 yX10_addBound, Cond.instanceMethod yX10_addBound, Cond.selects RX10 yX10_addBound yX10_addBound, Cond.code yX10_addBound cX10_addBound 4 (some .int), Cond.fieldLink RX10 52 "PaidBySignsModel" "least" "[J", Cond.methodLink RX10 259 yX10_chanceOf, Cond.instanceMethod yX10_chanceOf, Cond.selects RX10 yX10_chanceOf yX10_chanceOf, Cond.code yX10_chanceOf cX10_chanceOf 3 (some .int), Cond.fieldLink RX10 34 "PaidBySignsModel" "chances" "[I", Cond.methodLink RX10 264 yX10_feel, Cond.instanceMethod yX10_feel, Cond.selects RX10 yX10_feel yX10_feel, Cond.code yX10_feel cX10_feel 6 (some .int), Cond.fieldLink RX10 37 "PaidBySignsModel" "rates" "[I", Cond.methodLink RX10 339 yX10_choose, Cond.instanceMethod yX10_choose]
def wsX10_make_r3 : List Cond := [Cond.selects RX10 yX10_choose yX10_choose, Cond.code yX10_choose cX10_choose 5 none, Cond.fieldLink RX10 55 "PaidBySignsModel" "chosen" "[I", Cond.methodLink RX10 335 yX10_look, Cond.instanceMethod yX10_look, Cond.selects RX10 yX10_look yX10_look, Cond.code yX10_look cX10_look 10 none, Cond.fieldLink RX10 61 "PaidBySignsModel" "x" "[J", Cond.fieldLink RX10 310 "PaidBySignsModel" "det" "J", Cond.fieldLink RX10 67 "PaidBySignsModel" "wageLow" "[J", Cond.fieldLink RX10 64 "PaidBySignsModel" "wageUp" "[J", Cond.constantLong RX10 313 (-1), Cond.fieldLink RX10 70 "PaidBySignsModel" "bestUp" "[J", Cond.fieldLink RX10 73 "PaidBySignsModel" "bestLow" "[J", Cond.methodLink RX10 315 yX10_isCorner, Cond.instanceMethod yX10_isCorner, Cond.selects RX10 yX10_isCorner yX10_isCorner, Cond.code yX10_isCorner cX10_isCorner 7 (some .boolean), Cond.methodLink RX10 306 yX10_determinant, Cond.instanceMethod yX10_determinant, Cond.selects RX10 yX10_determinant yX10_determinant, Cond.code yX10_determinant cX10_determinant 4 (some .long), Cond.fieldLink RX10 58 "PaidBySignsModel" "matrix" "[J", Cond.methodLink RX10 302 yX10_minor]
def wsX10_make_r4 : List Cond := [Cond.instanceMethod yX10_minor, Cond.selects RX10 yX10_minor yX10_minor, Cond.code yX10_minor cX10_minor 7 (some .long), Cond.methodLink RX10 318 yX10_wageOf, Cond.instanceMethod yX10_wageOf, Cond.selects RX10 yX10_wageOf yX10_wageOf, Cond.code yX10_wageOf cX10_wageOf 13 none, Cond.methodLink RX10 277 yX10_common, Cond.static yX10_common, Cond.code yX10_common cX10_common 10 (some .long), Cond.methodLink RX10 331 yX10_apart, Cond.static yX10_apart, Cond.code yX10_apart cX10_apart 8 (some .long), Cond.methodLink RX10 355 yX10_tell, Cond.instanceMethod yX10_tell, Cond.selects RX10 yX10_tell yX10_tell, Cond.code yX10_tell cX10_tell 7 none, Cond.fieldLink RX10 281 "PaidBySignsModel" "upper" "J", Cond.fieldLink RX10 284 "PaidBySignsModel" "lower" "J", Cond.fieldLink RX10 202 "PaidBySignsModel" "hasFraction" "Z", Cond.methodLink RX10 359 yX10_tellWages, Cond.instanceMethod yX10_tellWages, Cond.selects RX10 yX10_tellWages yX10_tellWages, Cond.code yX10_tellWages cX10_tellWages 2 none]
def wsX10_make_r5 : List Cond := [Cond.fieldLink RX10 206 "PaidBySignsModel" "hasWages" "Z", Cond.fieldLink RX10 346 "PaidBySignsModel" "wageMany" "I", Cond.fieldLink RX10 76 "PaidBySignsModel" "toldUp" "[J", Cond.fieldLink RX10 79 "PaidBySignsModel" "toldLow" "[J"]
def wsX10_make : List Cond := .code yX10_make cX10_make 2 (some .int) :: ((wsX10_make_r1 ++ (wsX10_make_r2 ++ (wsX10_make_r3 ++ (wsX10_make_r4 ++ wsX10_make_r5)))) ++ wsX100)
def wsX10_wages : List Cond := .code yX10_wages cX10_wages 3 (some .long) :: ([.fieldLink RX10 206 "PaidBySignsModel" "hasWages" "Z", .fieldLink RX10 346 "PaidBySignsModel" "wageMany" "I", .constantLong RX10 313 (-1), .fieldLink RX10 79 "PaidBySignsModel" "toldLow" "[J", .fieldLink RX10 76 "PaidBySignsModel" "toldUp" "[J", .methodLink RX10 174 yX10_in, .static yX10_in, .initialized RX10, .code yX10_in cX10_in 6 (some .boolean)] ++ wsX100)
set_option maxRecDepth 20000 in
theorem ggX10_isHad_X10_makeBounds : GoodIn wsX10_isHad wsX10_makeBounds := goodIn_r _ [6, 7, 8, 9, 10, 11, 12, 13, 14, 15, 16, 17, 5, 18, 19, 20, 21, 22, 23, 24, 25, 26, 27, 28, 29, 71, 72, 73, 74, 75, 76, 77, 78, 79, 80, 81, 82, 83, 84, 85, 86, 87, 88, 89, 90, 91, 92, 93, 94, 95, 96, 97, 98, 99, 100, 101, 102, 103, 104, 105, 106, 107, 108, 109, 110, 111, 112, 113, 114, 115, 116, 117, 118, 119, 120, 121, 122, 123, 124, 125, 126, 127, 128, 129, 130, 131, 132, 133, 134, 135] (by decide +kernel) (by decide +kernel)
set_option maxRecDepth 20000 in
theorem gX10_isHad_X10_makeBounds : GoodIn wsX10_isHad (wsV RX10 343 RX10 yX10_makeBounds wsX10_makeBounds) := goodIn_app (goodIn_of _ (by decide +kernel)) ggX10_isHad_X10_makeBounds
set_option maxRecDepth 20000 in
theorem ggX10_isHad_X10_choose : GoodIn wsX10_isHad wsX10_choose := goodIn_r _ [33, 12, 7, 34, 35, 36, 37, 5, 38, 39, 40, 8, 11, 41, 42, 1, 43, 44, 45, 46, 47, 48, 49, 50, 51, 13, 10, 19, 52, 53, 54, 55, 56, 57, 58, 59, 60, 61, 62, 63, 64, 14, 29, 25, 26, 27, 28, 65, 66, 67, 20, 21, 22, 23, 24, 68, 69, 70, 30, 31, 32, 71, 72, 73, 74, 75, 76, 77, 78, 79, 80, 81, 82, 83, 84, 85, 86, 87, 88, 89, 90, 91, 92, 93, 94, 95, 96, 97, 98, 99, 100, 101, 102, 103, 104, 105, 106, 107, 108, 109, 110, 111, 112, 113, 114, 115, 116, 117, 118, 119, 120, 121, 122, 123, 124, 125, 126, 127, 128, 129, 130, 131, 132, 133, 134, 135] (by decide +kernel) (by decide +kernel)
set_option maxRecDepth 20000 in
theorem gX10_isHad_X10_choose : GoodIn wsX10_isHad (wsV RX10 339 RX10 yX10_choose wsX10_choose) := goodIn_app (goodIn_of _ (by decide +kernel)) ggX10_isHad_X10_choose
theorem dX10_isHad_0 : decode cX10_isHad 0 = .ok (.aload_n 0, 1) := by decide +kernel
theorem dX10_isHad_1 : decode cX10_isHad 1 = .ok (.iload_n 1, 1) := by decide +kernel
theorem dX10_isHad_2 : decode cX10_isHad 2 = .ok (.invokevirtual 343, 3) := by decide +kernel
theorem dX10_isHad_5 : decode cX10_isHad 5 = .ok (.aload_n 0, 1) := by decide +kernel
theorem dX10_isHad_6 : decode cX10_isHad 6 = .ok (.iconst 0, 1) := by decide +kernel
theorem dX10_isHad_7 : decode cX10_isHad 7 = .ok (.putfield 322, 3) := by decide +kernel
theorem dX10_isHad_10 : decode cX10_isHad 10 = .ok (.aload_n 0, 1) := by decide +kernel
theorem dX10_isHad_11 : decode cX10_isHad 11 = .ok (.iload_n 1, 1) := by decide +kernel
theorem dX10_isHad_12 : decode cX10_isHad 12 = .ok (.iconst 0, 1) := by decide +kernel
theorem dX10_isHad_13 : decode cX10_isHad 13 = .ok (.iconst 0, 1) := by decide +kernel
theorem dX10_isHad_14 : decode cX10_isHad 14 = .ok (.invokevirtual 339, 3) := by decide +kernel
theorem dX10_isHad_17 : decode cX10_isHad 17 = .ok (.aload_n 0, 1) := by decide +kernel
theorem dX10_isHad_18 : decode cX10_isHad 18 = .ok (.getfield 322, 3) := by decide +kernel
theorem dX10_isHad_21 : decode cX10_isHad 21 = .ok (.ireturn, 1) := by decide +kernel
theorem dX10_eachAlone_0 : decode cX10_eachAlone 0 = .ok (.aload_n 0, 1) := by decide +kernel
theorem dX10_eachAlone_1 : decode cX10_eachAlone 1 = .ok (.aload_n 0, 1) := by decide +kernel
theorem dX10_eachAlone_2 : decode cX10_eachAlone 2 = .ok (.getfield 17, 3) := by decide +kernel
theorem dX10_eachAlone_5 : decode cX10_eachAlone 5 = .ok (.iconst 3, 1) := by decide +kernel
theorem dX10_eachAlone_6 : decode cX10_eachAlone 6 = .ok (.iaload, 1) := by decide +kernel
theorem dX10_eachAlone_7 : decode cX10_eachAlone 7 = .ok (.putfield 289, 3) := by decide +kernel
theorem dX10_eachAlone_10 : decode cX10_eachAlone 10 = .ok (.iconst 0, 1) := by decide +kernel
theorem dX10_eachAlone_11 : decode cX10_eachAlone 11 = .ok (.istore_n 1, 1) := by decide +kernel
theorem dX10_eachAlone_12 : decode cX10_eachAlone 12 = .ok (.iload_n 1, 1) := by decide +kernel
theorem dX10_eachAlone_13 : decode cX10_eachAlone 13 = .ok (.aload_n 0, 1) := by decide +kernel
theorem dX10_eachAlone_14 : decode cX10_eachAlone 14 = .ok (.getfield 289, 3) := by decide +kernel
theorem dX10_eachAlone_17 : decode cX10_eachAlone 17 = .ok (.if_icmp .ge 16, 3) := by decide +kernel
theorem dX10_eachAlone_20 : decode cX10_eachAlone 20 = .ok (.aload_n 0, 1) := by decide +kernel
theorem dX10_eachAlone_21 : decode cX10_eachAlone 21 = .ok (.getfield 46, 3) := by decide +kernel
theorem dX10_eachAlone_24 : decode cX10_eachAlone 24 = .ok (.iload_n 1, 1) := by decide +kernel
theorem dX10_eachAlone_25 : decode cX10_eachAlone 25 = .ok (.iload_n 1, 1) := by decide +kernel
theorem dX10_eachAlone_26 : decode cX10_eachAlone 26 = .ok (.iastore, 1) := by decide +kernel
theorem dX10_eachAlone_27 : decode cX10_eachAlone 27 = .ok (.iinc 1 1, 3) := by decide +kernel
theorem dX10_eachAlone_30 : decode cX10_eachAlone 30 = .ok (.goto (-18), 3) := by decide +kernel
theorem dX10_eachAlone_33 : decode cX10_eachAlone 33 = .ok (.return_, 1) := by decide +kernel
theorem dX10_tellWages_0 : decode cX10_tellWages 0 = .ok (.aload_n 0, 1) := by decide +kernel
theorem dX10_tellWages_1 : decode cX10_tellWages 1 = .ok (.iconst 1, 1) := by decide +kernel
theorem dX10_tellWages_2 : decode cX10_tellWages 2 = .ok (.putfield 206, 3) := by decide +kernel
theorem dX10_tellWages_5 : decode cX10_tellWages 5 = .ok (.aload_n 0, 1) := by decide +kernel
theorem dX10_tellWages_6 : decode cX10_tellWages 6 = .ok (.aload_n 0, 1) := by decide +kernel
theorem dX10_tellWages_7 : decode cX10_tellWages 7 = .ok (.getfield 17, 3) := by decide +kernel
theorem dX10_tellWages_10 : decode cX10_tellWages 10 = .ok (.iconst 3, 1) := by decide +kernel
theorem dX10_tellWages_11 : decode cX10_tellWages 11 = .ok (.iaload, 1) := by decide +kernel
theorem dX10_tellWages_12 : decode cX10_tellWages 12 = .ok (.putfield 346, 3) := by decide +kernel
theorem dX10_tellWages_15 : decode cX10_tellWages 15 = .ok (.iconst 0, 1) := by decide +kernel
theorem dX10_tellWages_16 : decode cX10_tellWages 16 = .ok (.istore_n 1, 1) := by decide +kernel
theorem dX10_tellWages_17 : decode cX10_tellWages 17 = .ok (.iload_n 1, 1) := by decide +kernel
theorem dX10_tellWages_18 : decode cX10_tellWages 18 = .ok (.aload_n 0, 1) := by decide +kernel
theorem dX10_tellWages_19 : decode cX10_tellWages 19 = .ok (.getfield 346, 3) := by decide +kernel
theorem dX10_tellWages_22 : decode cX10_tellWages 22 = .ok (.if_icmp .ge 33, 3) := by decide +kernel
theorem dX10_tellWages_25 : decode cX10_tellWages 25 = .ok (.aload_n 0, 1) := by decide +kernel
theorem dX10_tellWages_26 : decode cX10_tellWages 26 = .ok (.getfield 76, 3) := by decide +kernel
theorem dX10_tellWages_29 : decode cX10_tellWages 29 = .ok (.iload_n 1, 1) := by decide +kernel
theorem dX10_tellWages_30 : decode cX10_tellWages 30 = .ok (.aload_n 0, 1) := by decide +kernel
theorem dX10_tellWages_31 : decode cX10_tellWages 31 = .ok (.getfield 70, 3) := by decide +kernel
theorem dX10_tellWages_34 : decode cX10_tellWages 34 = .ok (.iload_n 1, 1) := by decide +kernel
theorem dX10_tellWages_35 : decode cX10_tellWages 35 = .ok (.laload, 1) := by decide +kernel
theorem dX10_tellWages_36 : decode cX10_tellWages 36 = .ok (.lastore, 1) := by decide +kernel
theorem dX10_tellWages_37 : decode cX10_tellWages 37 = .ok (.aload_n 0, 1) := by decide +kernel
theorem dX10_tellWages_38 : decode cX10_tellWages 38 = .ok (.getfield 79, 3) := by decide +kernel
theorem dX10_tellWages_41 : decode cX10_tellWages 41 = .ok (.iload_n 1, 1) := by decide +kernel
theorem dX10_tellWages_42 : decode cX10_tellWages 42 = .ok (.aload_n 0, 1) := by decide +kernel
theorem dX10_tellWages_43 : decode cX10_tellWages 43 = .ok (.getfield 73, 3) := by decide +kernel
theorem dX10_tellWages_46 : decode cX10_tellWages 46 = .ok (.iload_n 1, 1) := by decide +kernel
theorem dX10_tellWages_47 : decode cX10_tellWages 47 = .ok (.laload, 1) := by decide +kernel
theorem dX10_tellWages_48 : decode cX10_tellWages 48 = .ok (.lastore, 1) := by decide +kernel
theorem dX10_tellWages_49 : decode cX10_tellWages 49 = .ok (.iinc 1 1, 3) := by decide +kernel
theorem dX10_tellWages_52 : decode cX10_tellWages 52 = .ok (.goto (-35), 3) := by decide +kernel
theorem dX10_tellWages_55 : decode cX10_tellWages 55 = .ok (.return_, 1) := by decide +kernel
set_option maxRecDepth 20000 in
theorem ggX10_make_X10_isWork : GoodIn wsX10_make wsX10_isWork := goodIn_r _ [7, 8, 9, 10, 6, 11, 101, 102, 103, 104, 105, 106, 107, 108, 109, 110, 111, 112, 113, 114, 115, 116, 117, 118, 119, 120, 121, 122, 123, 124, 125, 126, 127, 128, 129, 130, 131, 132, 133, 134, 135, 136, 137, 138, 139, 140, 141, 142, 143, 144, 145, 146, 147, 148, 149, 150, 151, 152, 153, 154, 155, 156, 157, 158, 159, 160, 161, 162, 163, 164, 165] (by decide +kernel) (by decide +kernel)
set_option maxRecDepth 20000 in
theorem gX10_make_X10_isWork : GoodIn wsX10_make (wsV RX10 253 RX10 yX10_isWork wsX10_isWork) := goodIn_app (goodIn_of _ (by decide +kernel)) ggX10_make_X10_isWork
set_option maxRecDepth 20000 in
theorem ggX10_make_X10_eachAlone : GoodIn wsX10_make wsX10_eachAlone := goodIn_r _ [15, 8, 16, 17, 101, 102, 103, 104, 105, 106, 107, 108, 109, 110, 111, 112, 113, 114, 115, 116, 117, 118, 119, 120, 121, 122, 123, 124, 125, 126, 127, 128, 129, 130, 131, 132, 133, 134, 135, 136, 137, 138, 139, 140, 141, 142, 143, 144, 145, 146, 147, 148, 149, 150, 151, 152, 153, 154, 155, 156, 157, 158, 159, 160, 161, 162, 163, 164, 165] (by decide +kernel) (by decide +kernel)
set_option maxRecDepth 20000 in
theorem gX10_make_X10_eachAlone : GoodIn wsX10_make (wsV RX10 349 RX10 yX10_eachAlone wsX10_eachAlone) := goodIn_app (goodIn_of _ (by decide +kernel)) ggX10_make_X10_eachAlone
set_option maxRecDepth 20000 in
theorem ggX10_make_X10_isHad : GoodIn wsX10_make wsX10_isHad := goodIn_r _ [21, 22, 23, 24, 25, 6, 26, 27, 8, 28, 29, 17, 16, 30, 31, 32, 33, 34, 35, 36, 37, 38, 39, 40, 41, 42, 43, 44, 45, 46, 47, 48, 49, 50, 51, 52, 53, 54, 55, 56, 57, 58, 59, 1, 2, 60, 61, 62, 63, 64, 65, 66, 67, 68, 69, 70, 71, 72, 73, 74, 75, 76, 77, 78, 79, 80, 81, 82, 83, 84, 85, 101, 102, 103, 104, 105, 106, 107, 108, 109, 110, 111, 112, 113, 114, 115, 116, 117, 118, 119, 120, 121, 122, 123, 124, 125, 126, 127, 128, 129, 130, 131, 132, 133, 134, 135, 136, 137, 138, 139, 140, 141, 142, 143, 144, 145, 146, 147, 148, 149, 150, 151, 152, 153, 154, 155, 156, 157, 158, 159, 160, 161, 162, 163, 164, 165] (by decide +kernel) (by decide +kernel)
set_option maxRecDepth 20000 in
theorem gX10_make_X10_isHad : GoodIn wsX10_make (wsV RX10 352 RX10 yX10_isHad wsX10_isHad) := goodIn_app (goodIn_of _ (by decide +kernel)) ggX10_make_X10_isHad
set_option maxRecDepth 20000 in
theorem ggX10_make_X10_tell : GoodIn wsX10_make wsX10_tell := goodIn_r _ [89, 90, 91, 92, 80, 81, 6, 82, 101, 102, 103, 104, 105, 106, 107, 108, 109, 110, 111, 112, 113, 114, 115, 116, 117, 118, 119, 120, 121, 122, 123, 124, 125, 126, 127, 128, 129, 130, 131, 132, 133, 134, 135, 136, 137, 138, 139, 140, 141, 142, 143, 144, 145, 146, 147, 148, 149, 150, 151, 152, 153, 154, 155, 156, 157, 158, 159, 160, 161, 162, 163, 164, 165] (by decide +kernel) (by decide +kernel)
set_option maxRecDepth 20000 in
theorem gX10_make_X10_tell : GoodIn wsX10_make (wsV RX10 355 RX10 yX10_tell wsX10_tell) := goodIn_app (goodIn_of _ (by decide +kernel)) ggX10_make_X10_tell
set_option maxRecDepth 20000 in
theorem ggX10_make_X10_tellWages : GoodIn wsX10_make wsX10_tellWages := goodIn_r _ [96, 97, 8, 98, 99, 61, 100, 62, 101, 102, 103, 104, 105, 106, 107, 108, 109, 110, 111, 112, 113, 114, 115, 116, 117, 118, 119, 120, 121, 122, 123, 124, 125, 126, 127, 128, 129, 130, 131, 132, 133, 134, 135, 136, 137, 138, 139, 140, 141, 142, 143, 144, 145, 146, 147, 148, 149, 150, 151, 152, 153, 154, 155, 156, 157, 158, 159, 160, 161, 162, 163, 164, 165] (by decide +kernel) (by decide +kernel)
set_option maxRecDepth 20000 in
theorem gX10_make_X10_tellWages : GoodIn wsX10_make (wsV RX10 359 RX10 yX10_tellWages wsX10_tellWages) := goodIn_app (goodIn_of _ (by decide +kernel)) ggX10_make_X10_tellWages
theorem dX10_make_0 : decode cX10_make 0 = .ok (.aload_n 0, 1) := by decide +kernel
theorem dX10_make_1 : decode cX10_make 1 = .ok (.iload_n 1, 1) := by decide +kernel
theorem dX10_make_2 : decode cX10_make 2 = .ok (.invokevirtual 253, 3) := by decide +kernel
theorem dX10_make_5 : decode cX10_make 5 = .ok (.ifCond .ne 6, 3) := by decide +kernel
theorem dX10_make_8 : decode cX10_make 8 = .ok (.bipush (-2), 2) := by decide +kernel
theorem dX10_make_10 : decode cX10_make 10 = .ok (.ireturn, 1) := by decide +kernel
theorem dX10_make_11 : decode cX10_make 11 = .ok (.aload_n 0, 1) := by decide +kernel
theorem dX10_make_12 : decode cX10_make 12 = .ok (.invokevirtual 349, 3) := by decide +kernel
theorem dX10_make_15 : decode cX10_make 15 = .ok (.aload_n 0, 1) := by decide +kernel
theorem dX10_make_16 : decode cX10_make 16 = .ok (.iload_n 1, 1) := by decide +kernel
theorem dX10_make_17 : decode cX10_make 17 = .ok (.invokevirtual 352, 3) := by decide +kernel
theorem dX10_make_20 : decode cX10_make 20 = .ok (.ifCond .ne 5, 3) := by decide +kernel
theorem dX10_make_23 : decode cX10_make 23 = .ok (.iconst (-1), 1) := by decide +kernel
theorem dX10_make_24 : decode cX10_make 24 = .ok (.ireturn, 1) := by decide +kernel
theorem dX10_make_25 : decode cX10_make 25 = .ok (.aload_n 0, 1) := by decide +kernel
theorem dX10_make_26 : decode cX10_make 26 = .ok (.aload_n 0, 1) := by decide +kernel
theorem dX10_make_27 : decode cX10_make 27 = .ok (.getfield 325, 3) := by decide +kernel
theorem dX10_make_30 : decode cX10_make 30 = .ok (.aload_n 0, 1) := by decide +kernel
theorem dX10_make_31 : decode cX10_make 31 = .ok (.getfield 328, 3) := by decide +kernel
theorem dX10_make_34 : decode cX10_make 34 = .ok (.invokevirtual 355, 3) := by decide +kernel
theorem dX10_make_37 : decode cX10_make 37 = .ok (.aload_n 0, 1) := by decide +kernel
theorem dX10_make_38 : decode cX10_make 38 = .ok (.invokevirtual 359, 3) := by decide +kernel
theorem dX10_make_41 : decode cX10_make 41 = .ok (.iconst 1, 1) := by decide +kernel
theorem dX10_make_42 : decode cX10_make 42 = .ok (.ireturn, 1) := by decide +kernel
set_option maxRecDepth 20000 in
theorem ggX10_wages_X10_in : GoodIn wsX10_wages wsX10_in := goodIn_r _ [9] (by decide +kernel) (by decide +kernel)
set_option maxRecDepth 20000 in
theorem gX10_wages_X10_in : GoodIn wsX10_wages (va_wsS RX10 174 yX10_in wsX10_in) := goodIn_app (goodIn_of _ (by decide +kernel)) ggX10_wages_X10_in
theorem dX10_wages_0 : decode cX10_wages 0 = .ok (.aload_n 0, 1) := by decide +kernel
theorem dX10_wages_1 : decode cX10_wages 1 = .ok (.getfield 206, 3) := by decide +kernel
theorem dX10_wages_4 : decode cX10_wages 4 = .ok (.ifCond .eq 19, 3) := by decide +kernel
theorem dX10_wages_7 : decode cX10_wages 7 = .ok (.iload_n 1, 1) := by decide +kernel
theorem dX10_wages_8 : decode cX10_wages 8 = .ok (.i2l, 1) := by decide +kernel
theorem dX10_wages_9 : decode cX10_wages 9 = .ok (.lconst 0, 1) := by decide +kernel
theorem dX10_wages_10 : decode cX10_wages 10 = .ok (.aload_n 0, 1) := by decide +kernel
theorem dX10_wages_11 : decode cX10_wages 11 = .ok (.getfield 346, 3) := by decide +kernel
theorem dX10_wages_14 : decode cX10_wages 14 = .ok (.iconst 1, 1) := by decide +kernel
theorem dX10_wages_15 : decode cX10_wages 15 = .ok (.isub, 1) := by decide +kernel
theorem dX10_wages_16 : decode cX10_wages 16 = .ok (.i2l, 1) := by decide +kernel
theorem dX10_wages_17 : decode cX10_wages 17 = .ok (.invokestatic 174, 3) := by decide +kernel
theorem dX10_wages_20 : decode cX10_wages 20 = .ok (.ifCond .ne 9, 3) := by decide +kernel
theorem dX10_wages_23 : decode cX10_wages 23 = .ok (.ldc2_w 313, 3) := by decide +kernel
theorem dX10_wages_26 : decode cX10_wages 26 = .ok (.goto 22, 3) := by decide +kernel
theorem dX10_wages_29 : decode cX10_wages 29 = .ok (.iload_n 2, 1) := by decide +kernel
theorem dX10_wages_30 : decode cX10_wages 30 = .ok (.ifCond .eq 12, 3) := by decide +kernel
theorem dX10_wages_33 : decode cX10_wages 33 = .ok (.aload_n 0, 1) := by decide +kernel
theorem dX10_wages_34 : decode cX10_wages 34 = .ok (.getfield 79, 3) := by decide +kernel
theorem dX10_wages_37 : decode cX10_wages 37 = .ok (.iload_n 1, 1) := by decide +kernel
theorem dX10_wages_38 : decode cX10_wages 38 = .ok (.laload, 1) := by decide +kernel
theorem dX10_wages_39 : decode cX10_wages 39 = .ok (.goto 9, 3) := by decide +kernel
theorem dX10_wages_42 : decode cX10_wages 42 = .ok (.aload_n 0, 1) := by decide +kernel
theorem dX10_wages_43 : decode cX10_wages 43 = .ok (.getfield 76, 3) := by decide +kernel
theorem dX10_wages_46 : decode cX10_wages 46 = .ok (.iload_n 1, 1) := by decide +kernel
theorem dX10_wages_47 : decode cX10_wages 47 = .ok (.laload, 1) := by decide +kernel
theorem dX10_wages_48 : decode cX10_wages 48 = .ok (.lreturn, 1) := by decide +kernel
theorem kk_X10_isHad_0 : Cond.fieldLink RX10 322 "PaidBySignsModel" "isFound" "Z" ∈ wsX10_isHad := by decide +kernel
theorem kk_X10_eachAlone_0 : Cond.fieldLink RX10 17 "PaidBySignsModel" "num" "[I" ∈ wsX10_eachAlone := by decide +kernel
theorem kk_X10_eachAlone_1 : Cond.fieldLink RX10 289 "PaidBySignsModel" "groups" "I" ∈ wsX10_eachAlone := by decide +kernel
theorem kk_X10_eachAlone_2 : Cond.fieldLink RX10 46 "PaidBySignsModel" "groupOf" "[I" ∈ wsX10_eachAlone := by decide +kernel
theorem kk_X10_tellWages_0 : Cond.fieldLink RX10 206 "PaidBySignsModel" "hasWages" "Z" ∈ wsX10_tellWages := by decide +kernel
theorem kk_X10_tellWages_1 : Cond.fieldLink RX10 17 "PaidBySignsModel" "num" "[I" ∈ wsX10_tellWages := by decide +kernel
theorem kk_X10_tellWages_2 : Cond.fieldLink RX10 346 "PaidBySignsModel" "wageMany" "I" ∈ wsX10_tellWages := by decide +kernel
theorem kk_X10_tellWages_3 : Cond.fieldLink RX10 76 "PaidBySignsModel" "toldUp" "[J" ∈ wsX10_tellWages := by decide +kernel
theorem kk_X10_tellWages_4 : Cond.fieldLink RX10 70 "PaidBySignsModel" "bestUp" "[J" ∈ wsX10_tellWages := by decide +kernel
theorem kk_X10_tellWages_5 : Cond.fieldLink RX10 79 "PaidBySignsModel" "toldLow" "[J" ∈ wsX10_tellWages := by decide +kernel
theorem kk_X10_tellWages_6 : Cond.fieldLink RX10 73 "PaidBySignsModel" "bestLow" "[J" ∈ wsX10_tellWages := by decide +kernel
theorem kk_X10_make_0 : Cond.fieldLink RX10 325 "PaidBySignsModel" "costUp" "J" ∈ wsX10_make := by decide +kernel
theorem kk_X10_make_1 : Cond.fieldLink RX10 328 "PaidBySignsModel" "costLow" "J" ∈ wsX10_make := by decide +kernel
theorem kk_X10_wages_0 : Cond.fieldLink RX10 206 "PaidBySignsModel" "hasWages" "Z" ∈ wsX10_wages := by decide +kernel
theorem kk_X10_wages_1 : Cond.constantLong RX10 313 (-1) ∈ wsX10_wages := by decide +kernel
theorem kk_X10_wages_2 : Cond.fieldLink RX10 346 "PaidBySignsModel" "wageMany" "I" ∈ wsX10_wages := by decide +kernel
theorem kk_X10_wages_3 : Cond.fieldLink RX10 76 "PaidBySignsModel" "toldUp" "[J" ∈ wsX10_wages := by decide +kernel
theorem kk_X10_wages_4 : Cond.fieldLink RX10 79 "PaidBySignsModel" "toldLow" "[J" ∈ wsX10_wages := by decide +kernel
theorem iw_X10_isHad_X10 : ∀ w ∈ wsX100, w ∈ wsX10_isHad := by decide +kernel
theorem iw_X10_eachAlone_X10 : ∀ w ∈ wsX100, w ∈ wsX10_eachAlone := by decide +kernel
theorem iw_X10_tellWages_X10 : ∀ w ∈ wsX100, w ∈ wsX10_tellWages := by decide +kernel
theorem iw_X10_make_X10 : ∀ w ∈ wsX100, w ∈ wsX10_make := by decide +kernel
theorem iw_X10_wages_X10 : ∀ w ∈ wsX100, w ∈ wsX10_wages := by decide +kernel
