abbrev cX10_isSign : ByteArray := prog_12_method_26_code
def yX10_isSign : MethodName := ⟨RX10, "isSign", "(I)Z"⟩
abbrev cX10_isWork : ByteArray := prog_12_method_27_code
def yX10_isWork : MethodName := ⟨RX10, "isWork", "(I)Z"⟩
abbrev cX10_chanceOf : ByteArray := prog_12_method_28_code
def yX10_chanceOf : MethodName := ⟨RX10, "chanceOf", "(II)I"⟩
abbrev cX10_chance : ByteArray := prog_12_method_29_code
def yX10_chance : MethodName := ⟨RX10, "chance", "(II)I"⟩
abbrev cX10_feel : ByteArray := prog_12_method_30_code
def yX10_feel : MethodName := ⟨RX10, "feel", "(I)I"⟩
def wsX10_isSign : List Cond := .code yX10_isSign cX10_isSign 2 (some .boolean) :: ([.fieldLink RX10 17 "PaidBySignsModel" "num" "[I", .methodLink RX10 174 yX10_in, .static yX10_in, .initialized RX10, .code yX10_in cX10_in 6 (some .boolean)] ++ wsX100)
def wsX10_isWork : List Cond := .code yX10_isWork cX10_isWork 2 (some .boolean) :: ([.fieldLink RX10 17 "PaidBySignsModel" "num" "[I", .methodLink RX10 174 yX10_in, .static yX10_in, .initialized RX10, .code yX10_in cX10_in 6 (some .boolean)] ++ wsX100)
def wsX10_chanceOf : List Cond := .code yX10_chanceOf cX10_chanceOf 3 (some .int) :: ([.fieldLink RX10 34 "PaidBySignsModel" "chances" "[I"] ++ wsX100)
def wsX10_chance : List Cond := .code yX10_chance cX10_chance 3 (some .int) :: ([.methodLink RX10 253 yX10_isWork, .instanceMethod yX10_isWork, .selects RX10 yX10_isWork yX10_isWork, .initialized RX10, .code yX10_isWork cX10_isWork 2 (some .boolean), .fieldLink RX10 17 "PaidBySignsModel" "num" "[I", .methodLink RX10 174 yX10_in, .static yX10_in, .code yX10_in cX10_in 6 (some .boolean), .methodLink RX10 256 yX10_isSign, .instanceMethod yX10_isSign, .selects RX10 yX10_isSign yX10_isSign, .code yX10_isSign cX10_isSign 2 (some .boolean), .methodLink RX10 259 yX10_chanceOf, .instanceMethod yX10_chanceOf, .selects RX10 yX10_chanceOf yX10_chanceOf, .code yX10_chanceOf cX10_chanceOf 3 (some .int), .fieldLink RX10 34 "PaidBySignsModel" "chances" "[I"] ++ wsX100)
def wsX10_feel : List Cond := .code yX10_feel cX10_feel 6 (some .int) :: ([.fieldLink RX10 17 "PaidBySignsModel" "num" "[I", .fieldLink RX10 40 "PaidBySignsModel" "marks" "[I", .fieldLink RX10 37 "PaidBySignsModel" "rates" "[I"] ++ wsX100)
set_option maxRecDepth 20000 in
theorem ggX10_isSign_X10_in : GoodIn wsX10_isSign wsX10_in := goodIn_r _ [5] (by decide +kernel) (by decide +kernel)
set_option maxRecDepth 20000 in
theorem gX10_isSign_X10_in : GoodIn wsX10_isSign (va_wsS RX10 174 yX10_in wsX10_in) := goodIn_app (goodIn_of _ (by decide +kernel)) ggX10_isSign_X10_in
theorem dX10_isSign_0 : decode cX10_isSign 0 = .ok (.iload_n 1, 1) := by decide +kernel
theorem dX10_isSign_1 : decode cX10_isSign 1 = .ok (.i2l, 1) := by decide +kernel
theorem dX10_isSign_2 : decode cX10_isSign 2 = .ok (.lconst 0, 1) := by decide +kernel
theorem dX10_isSign_3 : decode cX10_isSign 3 = .ok (.aload_n 0, 1) := by decide +kernel
theorem dX10_isSign_4 : decode cX10_isSign 4 = .ok (.getfield 17, 3) := by decide +kernel
theorem dX10_isSign_7 : decode cX10_isSign 7 = .ok (.iconst 3, 1) := by decide +kernel
theorem dX10_isSign_8 : decode cX10_isSign 8 = .ok (.iaload, 1) := by decide +kernel
theorem dX10_isSign_9 : decode cX10_isSign 9 = .ok (.iconst 1, 1) := by decide +kernel
theorem dX10_isSign_10 : decode cX10_isSign 10 = .ok (.isub, 1) := by decide +kernel
theorem dX10_isSign_11 : decode cX10_isSign 11 = .ok (.i2l, 1) := by decide +kernel
theorem dX10_isSign_12 : decode cX10_isSign 12 = .ok (.invokestatic 174, 3) := by decide +kernel
theorem dX10_isSign_15 : decode cX10_isSign 15 = .ok (.ireturn, 1) := by decide +kernel
set_option maxRecDepth 20000 in
theorem ggX10_isWork_X10_in : GoodIn wsX10_isWork wsX10_in := goodIn_r _ [5] (by decide +kernel) (by decide +kernel)
set_option maxRecDepth 20000 in
theorem gX10_isWork_X10_in : GoodIn wsX10_isWork (va_wsS RX10 174 yX10_in wsX10_in) := goodIn_app (goodIn_of _ (by decide +kernel)) ggX10_isWork_X10_in
theorem dX10_isWork_0 : decode cX10_isWork 0 = .ok (.iload_n 1, 1) := by decide +kernel
theorem dX10_isWork_1 : decode cX10_isWork 1 = .ok (.i2l, 1) := by decide +kernel
theorem dX10_isWork_2 : decode cX10_isWork 2 = .ok (.lconst 0, 1) := by decide +kernel
theorem dX10_isWork_3 : decode cX10_isWork 3 = .ok (.aload_n 0, 1) := by decide +kernel
theorem dX10_isWork_4 : decode cX10_isWork 4 = .ok (.getfield 17, 3) := by decide +kernel
theorem dX10_isWork_7 : decode cX10_isWork 7 = .ok (.iconst 4, 1) := by decide +kernel
theorem dX10_isWork_8 : decode cX10_isWork 8 = .ok (.iaload, 1) := by decide +kernel
theorem dX10_isWork_9 : decode cX10_isWork 9 = .ok (.iconst 1, 1) := by decide +kernel
theorem dX10_isWork_10 : decode cX10_isWork 10 = .ok (.isub, 1) := by decide +kernel
theorem dX10_isWork_11 : decode cX10_isWork 11 = .ok (.i2l, 1) := by decide +kernel
theorem dX10_isWork_12 : decode cX10_isWork 12 = .ok (.invokestatic 174, 3) := by decide +kernel
theorem dX10_isWork_15 : decode cX10_isWork 15 = .ok (.ireturn, 1) := by decide +kernel
theorem dX10_chanceOf_0 : decode cX10_chanceOf 0 = .ok (.aload_n 0, 1) := by decide +kernel
theorem dX10_chanceOf_1 : decode cX10_chanceOf 1 = .ok (.getfield 34, 3) := by decide +kernel
theorem dX10_chanceOf_4 : decode cX10_chanceOf 4 = .ok (.iconst 4, 1) := by decide +kernel
theorem dX10_chanceOf_5 : decode cX10_chanceOf 5 = .ok (.iload_n 1, 1) := by decide +kernel
theorem dX10_chanceOf_6 : decode cX10_chanceOf 6 = .ok (.imul, 1) := by decide +kernel
theorem dX10_chanceOf_7 : decode cX10_chanceOf 7 = .ok (.iload_n 2, 1) := by decide +kernel
theorem dX10_chanceOf_8 : decode cX10_chanceOf 8 = .ok (.iadd, 1) := by decide +kernel
theorem dX10_chanceOf_9 : decode cX10_chanceOf 9 = .ok (.iaload, 1) := by decide +kernel
theorem dX10_chanceOf_10 : decode cX10_chanceOf 10 = .ok (.ireturn, 1) := by decide +kernel
set_option maxRecDepth 20000 in
theorem ggX10_chance_X10_isWork : GoodIn wsX10_chance wsX10_isWork := goodIn_r _ [5, 6, 7, 8, 4, 9, 19, 20, 21, 22, 23, 24, 25, 26, 27, 28, 29, 30, 31, 32, 33, 34, 35, 36, 37, 38, 39, 40, 41, 42, 43, 44, 45, 46, 47, 48, 49, 50, 51, 52, 53, 54, 55, 56, 57, 58, 59, 60, 61, 62, 63, 64, 65, 66, 67, 68, 69, 70, 71, 72, 73, 74, 75, 76, 77, 78, 79, 80, 81, 82, 83] (by decide +kernel) (by decide +kernel)
set_option maxRecDepth 20000 in
theorem gX10_chance_X10_isWork : GoodIn wsX10_chance (wsV RX10 253 RX10 yX10_isWork wsX10_isWork) := goodIn_app (goodIn_of _ (by decide +kernel)) ggX10_chance_X10_isWork
set_option maxRecDepth 20000 in
theorem ggX10_chance_X10_isSign : GoodIn wsX10_chance wsX10_isSign := goodIn_r _ [13, 6, 7, 8, 4, 9, 19, 20, 21, 22, 23, 24, 25, 26, 27, 28, 29, 30, 31, 32, 33, 34, 35, 36, 37, 38, 39, 40, 41, 42, 43, 44, 45, 46, 47, 48, 49, 50, 51, 52, 53, 54, 55, 56, 57, 58, 59, 60, 61, 62, 63, 64, 65, 66, 67, 68, 69, 70, 71, 72, 73, 74, 75, 76, 77, 78, 79, 80, 81, 82, 83] (by decide +kernel) (by decide +kernel)
set_option maxRecDepth 20000 in
theorem gX10_chance_X10_isSign : GoodIn wsX10_chance (wsV RX10 256 RX10 yX10_isSign wsX10_isSign) := goodIn_app (goodIn_of _ (by decide +kernel)) ggX10_chance_X10_isSign
set_option maxRecDepth 20000 in
theorem ggX10_chance_X10_chanceOf : GoodIn wsX10_chance wsX10_chanceOf := goodIn_r _ [17, 18, 19, 20, 21, 22, 23, 24, 25, 26, 27, 28, 29, 30, 31, 32, 33, 34, 35, 36, 37, 38, 39, 40, 41, 42, 43, 44, 45, 46, 47, 48, 49, 50, 51, 52, 53, 54, 55, 56, 57, 58, 59, 60, 61, 62, 63, 64, 65, 66, 67, 68, 69, 70, 71, 72, 73, 74, 75, 76, 77, 78, 79, 80, 81, 82, 83] (by decide +kernel) (by decide +kernel)
set_option maxRecDepth 20000 in
theorem gX10_chance_X10_chanceOf : GoodIn wsX10_chance (wsV RX10 259 RX10 yX10_chanceOf wsX10_chanceOf) := goodIn_app (goodIn_of _ (by decide +kernel)) ggX10_chance_X10_chanceOf
theorem dX10_chance_0 : decode cX10_chance 0 = .ok (.aload_n 0, 1) := by decide +kernel
theorem dX10_chance_1 : decode cX10_chance 1 = .ok (.iload_n 1, 1) := by decide +kernel
theorem dX10_chance_2 : decode cX10_chance 2 = .ok (.invokevirtual 253, 3) := by decide +kernel
theorem dX10_chance_5 : decode cX10_chance 5 = .ok (.ifCond .eq 20, 3) := by decide +kernel
theorem dX10_chance_8 : decode cX10_chance 8 = .ok (.aload_n 0, 1) := by decide +kernel
theorem dX10_chance_9 : decode cX10_chance 9 = .ok (.iload_n 2, 1) := by decide +kernel
theorem dX10_chance_10 : decode cX10_chance 10 = .ok (.invokevirtual 256, 3) := by decide +kernel
theorem dX10_chance_13 : decode cX10_chance 13 = .ok (.ifCond .eq 12, 3) := by decide +kernel
theorem dX10_chance_16 : decode cX10_chance 16 = .ok (.aload_n 0, 1) := by decide +kernel
theorem dX10_chance_17 : decode cX10_chance 17 = .ok (.iload_n 1, 1) := by decide +kernel
theorem dX10_chance_18 : decode cX10_chance 18 = .ok (.iload_n 2, 1) := by decide +kernel
theorem dX10_chance_19 : decode cX10_chance 19 = .ok (.invokevirtual 259, 3) := by decide +kernel
theorem dX10_chance_22 : decode cX10_chance 22 = .ok (.goto 5, 3) := by decide +kernel
theorem dX10_chance_25 : decode cX10_chance 25 = .ok (.bipush (-2), 2) := by decide +kernel
theorem dX10_chance_27 : decode cX10_chance 27 = .ok (.ireturn, 1) := by decide +kernel
theorem dX10_feel_0 : decode cX10_feel 0 = .ok (.iconst 0, 1) := by decide +kernel
theorem dX10_feel_1 : decode cX10_feel 1 = .ok (.istore_n 2, 1) := by decide +kernel
theorem dX10_feel_2 : decode cX10_feel 2 = .ok (.iconst 0, 1) := by decide +kernel
theorem dX10_feel_3 : decode cX10_feel 3 = .ok (.istore_n 3, 1) := by decide +kernel
theorem dX10_feel_4 : decode cX10_feel 4 = .ok (.iconst 0, 1) := by decide +kernel
theorem dX10_feel_5 : decode cX10_feel 5 = .ok (.istore 4, 2) := by decide +kernel
theorem dX10_feel_7 : decode cX10_feel 7 = .ok (.iload 4, 2) := by decide +kernel
theorem dX10_feel_9 : decode cX10_feel 9 = .ok (.aload_n 0, 1) := by decide +kernel
theorem dX10_feel_10 : decode cX10_feel 10 = .ok (.getfield 17, 3) := by decide +kernel
theorem dX10_feel_13 : decode cX10_feel 13 = .ok (.iconst 5, 1) := by decide +kernel
theorem dX10_feel_14 : decode cX10_feel 14 = .ok (.iaload, 1) := by decide +kernel
theorem dX10_feel_15 : decode cX10_feel 15 = .ok (.if_icmp .ge 70, 3) := by decide +kernel
theorem dX10_feel_18 : decode cX10_feel 18 = .ok (.iload 4, 2) := by decide +kernel
theorem dX10_feel_20 : decode cX10_feel 20 = .ok (.iconst 1, 1) := by decide +kernel
theorem dX10_feel_21 : decode cX10_feel 21 = .ok (.iadd, 1) := by decide +kernel
theorem dX10_feel_22 : decode cX10_feel 22 = .ok (.aload_n 0, 1) := by decide +kernel
theorem dX10_feel_23 : decode cX10_feel 23 = .ok (.getfield 17, 3) := by decide +kernel
theorem dX10_feel_26 : decode cX10_feel 26 = .ok (.iconst 5, 1) := by decide +kernel
theorem dX10_feel_27 : decode cX10_feel 27 = .ok (.iaload, 1) := by decide +kernel
theorem dX10_feel_28 : decode cX10_feel 28 = .ok (.if_icmp .ge 24, 3) := by decide +kernel
theorem dX10_feel_31 : decode cX10_feel 31 = .ok (.aload_n 0, 1) := by decide +kernel
theorem dX10_feel_32 : decode cX10_feel 32 = .ok (.getfield 40, 3) := by decide +kernel
theorem dX10_feel_35 : decode cX10_feel 35 = .ok (.iload 4, 2) := by decide +kernel
theorem dX10_feel_37 : decode cX10_feel 37 = .ok (.iaload, 1) := by decide +kernel
theorem dX10_feel_38 : decode cX10_feel 38 = .ok (.iload_n 1, 1) := by decide +kernel
theorem dX10_feel_39 : decode cX10_feel 39 = .ok (.if_icmp .ge 13, 3) := by decide +kernel
theorem dX10_feel_42 : decode cX10_feel 42 = .ok (.aload_n 0, 1) := by decide +kernel
theorem dX10_feel_43 : decode cX10_feel 43 = .ok (.getfield 40, 3) := by decide +kernel
theorem dX10_feel_46 : decode cX10_feel 46 = .ok (.iload 4, 2) := by decide +kernel
theorem dX10_feel_48 : decode cX10_feel 48 = .ok (.iaload, 1) := by decide +kernel
theorem dX10_feel_49 : decode cX10_feel 49 = .ok (.goto 4, 3) := by decide +kernel
theorem dX10_feel_52 : decode cX10_feel 52 = .ok (.iload_n 1, 1) := by decide +kernel
theorem dX10_feel_53 : decode cX10_feel 53 = .ok (.istore 5, 2) := by decide +kernel
theorem dX10_feel_55 : decode cX10_feel 55 = .ok (.iload 5, 2) := by decide +kernel
theorem dX10_feel_57 : decode cX10_feel 57 = .ok (.iload_n 3, 1) := by decide +kernel
theorem dX10_feel_58 : decode cX10_feel 58 = .ok (.if_icmp .le 18, 3) := by decide +kernel
theorem dX10_feel_61 : decode cX10_feel 61 = .ok (.iload_n 2, 1) := by decide +kernel
theorem dX10_feel_62 : decode cX10_feel 62 = .ok (.aload_n 0, 1) := by decide +kernel
theorem dX10_feel_63 : decode cX10_feel 63 = .ok (.getfield 37, 3) := by decide +kernel
theorem dX10_feel_66 : decode cX10_feel 66 = .ok (.iload 4, 2) := by decide +kernel
theorem dX10_feel_68 : decode cX10_feel 68 = .ok (.iaload, 1) := by decide +kernel
theorem dX10_feel_69 : decode cX10_feel 69 = .ok (.iload 5, 2) := by decide +kernel
theorem dX10_feel_71 : decode cX10_feel 71 = .ok (.iload_n 3, 1) := by decide +kernel
theorem dX10_feel_72 : decode cX10_feel 72 = .ok (.isub, 1) := by decide +kernel
theorem dX10_feel_73 : decode cX10_feel 73 = .ok (.imul, 1) := by decide +kernel
theorem dX10_feel_74 : decode cX10_feel 74 = .ok (.iadd, 1) := by decide +kernel
theorem dX10_feel_75 : decode cX10_feel 75 = .ok (.istore_n 2, 1) := by decide +kernel
theorem dX10_feel_76 : decode cX10_feel 76 = .ok (.iload 5, 2) := by decide +kernel
theorem dX10_feel_78 : decode cX10_feel 78 = .ok (.istore_n 3, 1) := by decide +kernel
theorem dX10_feel_79 : decode cX10_feel 79 = .ok (.iinc 4 1, 3) := by decide +kernel
theorem dX10_feel_82 : decode cX10_feel 82 = .ok (.goto (-75), 3) := by decide +kernel
theorem dX10_feel_85 : decode cX10_feel 85 = .ok (.iload_n 2, 1) := by decide +kernel
theorem dX10_feel_86 : decode cX10_feel 86 = .ok (.ireturn, 1) := by decide +kernel
theorem kk_X10_isSign_0 : Cond.fieldLink RX10 17 "PaidBySignsModel" "num" "[I" ∈ wsX10_isSign := by decide +kernel
theorem kk_X10_isWork_0 : Cond.fieldLink RX10 17 "PaidBySignsModel" "num" "[I" ∈ wsX10_isWork := by decide +kernel
theorem kk_X10_chanceOf_0 : Cond.fieldLink RX10 34 "PaidBySignsModel" "chances" "[I" ∈ wsX10_chanceOf := by decide +kernel
theorem kk_X10_feel_0 : Cond.fieldLink RX10 17 "PaidBySignsModel" "num" "[I" ∈ wsX10_feel := by decide +kernel
theorem kk_X10_feel_1 : Cond.fieldLink RX10 37 "PaidBySignsModel" "rates" "[I" ∈ wsX10_feel := by decide +kernel
theorem kk_X10_feel_2 : Cond.fieldLink RX10 40 "PaidBySignsModel" "marks" "[I" ∈ wsX10_feel := by decide +kernel
theorem iw_X10_isSign_X10 : ∀ w ∈ wsX100, w ∈ wsX10_isSign := by decide +kernel
theorem iw_X10_isWork_X10 : ∀ w ∈ wsX100, w ∈ wsX10_isWork := by decide +kernel
theorem iw_X10_chanceOf_X10 : ∀ w ∈ wsX100, w ∈ wsX10_chanceOf := by decide +kernel
theorem iw_X10_feel_X10 : ∀ w ∈ wsX100, w ∈ wsX10_feel := by decide +kernel
