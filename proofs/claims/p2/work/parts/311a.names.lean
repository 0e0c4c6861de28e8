abbrev cX10_choose : ByteArray := prog_12_method_52_code
def yX10_choose : MethodName := ⟨RX10, "choose", "(III)V"⟩
def wsX10_choose_r1 : List Cond := [Cond.fieldLink RX10 289 "PaidBySignsModel" "groups" "I", Cond.fieldLink RX10 292 "PaidBySignsModel" "bounds" "I", Cond.fieldLink RX10 55 "PaidBySignsModel" "chosen" "[I", Cond.methodLink RX10 335 yX10_look, Cond.instanceMethod yX10_look, Cond.selects RX10 yX10_look yX10_look, Cond.initialized RX10, Cond.code yX10_look cX10_look 10 none, Cond.fieldLink RX10 61 "PaidBySignsModel" "x" "[J", Cond.fieldLink RX10 310 "PaidBySignsModel" "det" "J", Cond.fieldLink RX10 17 "PaidBySignsModel" "num" "[I", Cond.fieldLink RX10 46 "PaidBySignsModel" "groupOf" "[I", Cond.fieldLink RX10 67 "PaidBySignsModel" "wageLow" "[J", Cond.fieldLink RX10 64 "PaidBySignsModel" "wageUp" "[J", Cond.fieldLink RX10 322 "PaidBySignsModel" "isFound" "Z", Cond.fieldLink RX10 325 "PaidBySignsModel" "costUp" "J", Cond.fieldLink RX10 328 "PaidBySignsModel" "costLow" "J", Cond.constantLong RX10 313 (-1), Cond.fieldLink RX10 70 "PaidBySignsModel" "bestUp" "[J", Cond.fieldLink RX10 73 "PaidBySignsModel" "bestLow" "[J", Cond.methodLink RX10 315 yX10_isCorner, Cond.instanceMethod yX10_isCorner, Cond.selects RX10 yX10_isCorner yX10_isCorner, Cond.code yX10_isCorner cX10_isCorner 7 (some .boolean)]
def wsX10_choose_r2 : List Cond := [Cond.fieldLink RX10 299 "PaidBySignsModel" "asked" "I", Cond.fieldLink RX10 49 "PaidBySignsModel" "row" "[J", Cond.fieldLink RX10 52 "PaidBySignsModel" "least" "[J", Cond.methodLink RX10 306 yX10_determinant, Cond.instanceMethod yX10_determinant, Cond.selects RX10 yX10_determinant yX10_determinant, Cond.code yX10_determinant cX10_determinant 4 (some .long), Cond.fieldLink RX10 58 "PaidBySignsModel" "matrix" "[J", Cond.methodLink RX10 302 yX10_minor, Cond.instanceMethod yX10_minor, Cond.selects RX10 yX10_minor yX10_minor, Cond.code yX10_minor cX10_minor 7 (some .long), Cond.methodLink RX10 318 yX10_wageOf, Cond.instanceMethod yX10_wageOf, Cond.selects RX10 yX10_wageOf yX10_wageOf, Cond.code yX10_wageOf cX10_wageOf 13 none, Cond.fieldLink RX10 40 "PaidBySignsModel" "marks" "[I", Cond.fieldLink RX10 37 "PaidBySignsModel" "rates" "[I", Cond.methodLink RX10 264 yX10_feel, Cond.instanceMethod yX10_feel, Cond.selects RX10 yX10_feel yX10_feel, Cond.code yX10_feel cX10_feel 6 (some .int), Cond.methodLink RX10 277 yX10_common, Cond.static yX10_common]
def wsX10_choose_r3 : List Cond := [Cond.code yX10_common cX10_common 10 (some .long), Cond.methodLink RX10 259 yX10_chanceOf, Cond.instanceMethod yX10_chanceOf, Cond.selects RX10 yX10_chanceOf yX10_chanceOf, Cond.code yX10_chanceOf cX10_chanceOf 3 (some .int), Cond.fieldLink RX10 34 "PaidBySignsModel" "chances" "[I", Cond.methodLink RX10 331 yX10_apart, Cond.static yX10_apart, Cond.code yX10_apart cX10_apart 8 (some .long), Cond.methodLink RX10 339 yX10_choose, Cond.instanceMethod yX10_choose, Cond.selects RX10 yX10_choose yX10_choose]
def wsX10_choose : List Cond := .code yX10_choose cX10_choose 5 none :: ((wsX10_choose_r1 ++ (wsX10_choose_r2 ++ wsX10_choose_r3)) ++ wsX100)
set_option maxRecDepth 20000 in
theorem ggX10_choose_X10_look : GoodIn wsX10_choose wsX10_look := goodIn_r _ [8, 1, 9, 10, 11, 12, 13, 14, 15, 16, 17, 18, 19, 20, 21, 22, 23, 7, 24, 25, 26, 27, 28, 29, 30, 31, 32, 3, 33, 34, 35, 36, 37, 38, 39, 40, 41, 42, 43, 44, 45, 46, 47, 48, 49, 50, 51, 52, 53, 54, 55, 56, 57, 61, 62, 63, 64, 65, 66, 67, 68, 69, 70, 71, 72, 73, 74, 75, 76, 77, 78, 79, 80, 81, 82, 83, 84, 85, 86, 87, 88, 89, 90, 91, 92, 93, 94, 95, 96, 97, 98, 99, 100, 101, 102, 103, 104, 105, 106, 107, 108, 109, 110, 111, 112, 113, 114, 115, 116, 117, 118, 119, 120, 121, 122, 123, 124, 125] (by decide +kernel) (by decide +kernel)
set_option maxRecDepth 20000 in
theorem gX10_choose_X10_look : GoodIn wsX10_choose (wsV RX10 335 RX10 yX10_look wsX10_look) := goodIn_app (goodIn_of _ (by decide +kernel)) ggX10_choose_X10_look
set_option maxRecDepth 20000 in
theorem ggX10_choose_X10_choose : GoodIn wsX10_choose wsX10_choose := goodIn_r _ [0, 1, 2, 3, 4, 5, 6, 7, 8, 9, 10, 11, 12, 13, 14, 15, 16, 17, 18, 19, 20, 21, 22, 23, 24, 25, 26, 27, 28, 29, 30, 31, 32, 33, 34, 35, 36, 37, 38, 39, 40, 41, 42, 43, 44, 45, 46, 47, 48, 49, 50, 51, 52, 53, 54, 55, 56, 57, 58, 59, 60, 61, 62, 63, 64, 65, 66, 67, 68, 69, 70, 71, 72, 73, 74, 75, 76, 77, 78, 79, 80, 81, 82, 83, 84, 85, 86, 87, 88, 89, 90, 91, 92, 93, 94, 95, 96, 97, 98, 99, 100, 101, 102, 103, 104, 105, 106, 107, 108, 109, 110, 111, 112, 113, 114, 115, 116, 117, 118, 119, 120, 121, 122, 123, 124, 125] (by decide +kernel) (by decide +kernel)
set_option maxRecDepth 20000 in
theorem gX10_choose_X10_choose : GoodIn wsX10_choose (wsV RX10 339 RX10 yX10_choose wsX10_choose) := goodIn_app (goodIn_of _ (by decide +kernel)) ggX10_choose_X10_choose
theorem dX10_choose_0 : decode cX10_choose 0 = .ok (.iload_n 2, 1) := by decide +kernel
theorem dX10_choose_1 : decode cX10_choose 1 = .ok (.aload_n 0, 1) := by decide +kernel
theorem dX10_choose_2 : decode cX10_choose 2 = .ok (.getfield 289, 3) := by decide +kernel
theorem dX10_choose_5 : decode cX10_choose 5 = .ok (.if_icmp .ne 9, 3) := by decide +kernel
theorem dX10_choose_8 : decode cX10_choose 8 = .ok (.aload_n 0, 1) := by decide +kernel
theorem dX10_choose_9 : decode cX10_choose 9 = .ok (.iload_n 1, 1) := by decide +kernel
theorem dX10_choose_10 : decode cX10_choose 10 = .ok (.invokevirtual 335, 3) := by decide +kernel
theorem dX10_choose_13 : decode cX10_choose 13 = .ok (.return_, 1) := by decide +kernel
theorem dX10_choose_14 : decode cX10_choose 14 = .ok (.iload_n 3, 1) := by decide +kernel
theorem dX10_choose_15 : decode cX10_choose 15 = .ok (.istore 4, 2) := by decide +kernel
theorem dX10_choose_17 : decode cX10_choose 17 = .ok (.iload 4, 2) := by decide +kernel
theorem dX10_choose_19 : decode cX10_choose 19 = .ok (.aload_n 0, 1) := by decide +kernel
theorem dX10_choose_20 : decode cX10_choose 20 = .ok (.getfield 292, 3) := by decide +kernel
theorem dX10_choose_23 : decode cX10_choose 23 = .ok (.if_icmp .ge 29, 3) := by decide +kernel
theorem dX10_choose_26 : decode cX10_choose 26 = .ok (.aload_n 0, 1) := by decide +kernel
theorem dX10_choose_27 : decode cX10_choose 27 = .ok (.getfield 55, 3) := by decide +kernel
theorem dX10_choose_30 : decode cX10_choose 30 = .ok (.iload_n 2, 1) := by decide +kernel
theorem dX10_choose_31 : decode cX10_choose 31 = .ok (.iload 4, 2) := by decide +kernel
theorem dX10_choose_33 : decode cX10_choose 33 = .ok (.iastore, 1) := by decide +kernel
theorem dX10_choose_34 : decode cX10_choose 34 = .ok (.aload_n 0, 1) := by decide +kernel
theorem dX10_choose_35 : decode cX10_choose 35 = .ok (.iload_n 1, 1) := by decide +kernel
theorem dX10_choose_36 : decode cX10_choose 36 = .ok (.iload_n 2, 1) := by decide +kernel
theorem dX10_choose_37 : decode cX10_choose 37 = .ok (.iconst 1, 1) := by decide +kernel
theorem dX10_choose_38 : decode cX10_choose 38 = .ok (.iadd, 1) := by decide +kernel
theorem dX10_choose_39 : decode cX10_choose 39 = .ok (.iload 4, 2) := by decide +kernel
theorem dX10_choose_41 : decode cX10_choose 41 = .ok (.iconst 1, 1) := by decide +kernel
theorem dX10_choose_42 : decode cX10_choose 42 = .ok (.iadd, 1) := by decide +kernel
theorem dX10_choose_43 : decode cX10_choose 43 = .ok (.invokevirtual 339, 3) := by decide +kernel
theorem dX10_choose_46 : decode cX10_choose 46 = .ok (.iinc 4 1, 3) := by decide +kernel
theorem dX10_choose_49 : decode cX10_choose 49 = .ok (.goto (-32), 3) := by decide +kernel
theorem dX10_choose_52 : decode cX10_choose 52 = .ok (.return_, 1) := by decide +kernel
theorem kk_X10_choose_0 : Cond.fieldLink RX10 289 "PaidBySignsModel" "groups" "I" ∈ wsX10_choose := by decide +kernel
theorem kk_X10_choose_1 : Cond.fieldLink RX10 292 "PaidBySignsModel" "bounds" "I" ∈ wsX10_choose := by decide +kernel
theorem kk_X10_choose_2 : Cond.fieldLink RX10 55 "PaidBySignsModel" "chosen" "[I" ∈ wsX10_choose := by decide +kernel
theorem iw_X10_choose_X10 : ∀ w ∈ wsX100, w ∈ wsX10_choose := by decide +kernel
