abbrev cX3_worthAt : ByteArray := prog_5_method_5_code
def yX3_worthAt : MethodName := ⟨RX3, "worthAt", "(I[I)I"⟩
abbrev cX9_chance : ByteArray := prog_1_method_7_code
def yX9_chance : MethodName := ⟨RX9, "chance", "(II)I"⟩
abbrev cX9_feeling : ByteArray := prog_1_method_8_code
def yX9_feeling : MethodName := ⟨RX9, "feeling", "(I)I"⟩
abbrev cX9_wage : ByteArray := prog_1_method_9_code
def yX9_wage : MethodName := ⟨RX9, "wage", "(II)I"⟩
abbrev cX9_isSign : ByteArray := prog_1_method_39_code
def yX9_isSign : MethodName := ⟨RX9, "isSign", "(I)Z"⟩
def wsX3_worthAt : List Cond := .code yX3_worthAt cX3_worthAt 5 (some .int) :: ([.fieldLink RX3 39 "PaidBySigns$Hire" "whole" "I", .fieldLink RX3 15 "PaidBySigns$Hire" "costs" "[I", .fieldLink RX3 32 "PaidBySigns$Hire" "signs" "I", .fieldLink RX3 20 "PaidBySigns$Hire" "chances" "[[I", .methodLink RX3 63 yX3_feltOf, .instanceMethod yX3_feltOf, .selects RX3 yX3_feltOf yX3_feltOf, .initialized RX3, .code yX3_feltOf cX3_feltOf 6 (some .int), .fieldLink RX3 48 "PaidBySigns$Hire" "rates" "I", .fieldLink RX3 26 "PaidBySigns$Hire" "mark" "[I", .methodLink RX3 51 Lib.Math.min.name, .static Lib.Math.min.name, .initialized "java/lang/Math", .code Lib.Math.min.name Lib.Math.min.code 2 (some .int), .fieldLink RX3 23 "PaidBySigns$Hire" "rate" "[I"] ++ wsX30)
def wsX9_isSign : List Cond := .code yX9_isSign cX9_isSign 2 (some .boolean) :: ([.fieldLink RX9 19 "PaidBySigns" "hire" "LPaidBySigns$Hire;", .fieldLink RX9 124 "PaidBySigns$Hire" "signs" "I"] ++ wsX90 ++ wsX30)
def wsX9_chance : List Cond := .code yX9_chance cX9_chance 3 (some .int) :: ([.fieldLink RX9 19 "PaidBySigns" "hire" "LPaidBySigns$Hire;", .fieldLink RX9 147 "PaidBySigns$Hire" "chances" "[[I", .methodLink RX9 140 yX9_isWork, .instanceMethod yX9_isWork, .selects RX9 yX9_isWork yX9_isWork, .initialized RX9, .code yX9_isWork cX9_isWork 2 (some .boolean), .fieldLink RX9 115 "PaidBySigns$Hire" "works" "I", .methodLink RX9 144 yX9_isSign, .instanceMethod yX9_isSign, .selects RX9 yX9_isSign yX9_isSign, .code yX9_isSign cX9_isSign 2 (some .boolean), .fieldLink RX9 124 "PaidBySigns$Hire" "signs" "I"] ++ wsX90 ++ wsX30)
def wsX9_feeling : List Cond := .code yX9_feeling cX9_feeling 2 (some .int) :: ([.fieldLink RX9 19 "PaidBySigns" "hire" "LPaidBySigns$Hire;", .methodLink RX9 151 yX3_feltOf, .instanceMethod yX3_feltOf, .selects RX3 yX3_feltOf yX3_feltOf, .initialized RX3, .code yX3_feltOf cX3_feltOf 6 (some .int), .fieldLink RX3 48 "PaidBySigns$Hire" "rates" "I", .fieldLink RX3 26 "PaidBySigns$Hire" "mark" "[I", .methodLink RX3 51 Lib.Math.min.name, .static Lib.Math.min.name, .initialized "java/lang/Math", .code Lib.Math.min.name Lib.Math.min.code 2 (some .int), .fieldLink RX3 23 "PaidBySigns$Hire" "rate" "[I"] ++ wsX90 ++ wsX30)
def wsX9_wage : List Cond := .code yX9_wage cX9_wage 4 (some .int) :: ([.fieldLink RX9 19 "PaidBySigns" "hire" "LPaidBySigns$Hire;", .fieldLink RX9 101 "PaidBySigns$Hire" "least" "I", .fieldLink RX9 23 "PaidBySigns" "hand" "[I", .methodLink RX9 144 yX9_isSign, .instanceMethod yX9_isSign, .selects RX9 yX9_isSign yX9_isSign, .initialized RX9, .code yX9_isSign cX9_isSign 2 (some .boolean), .fieldLink RX9 124 "PaidBySigns$Hire" "signs" "I"] ++ wsX90 ++ wsX30)
set_option maxRecDepth 20000 in
theorem ggX3_worthAt_X3_feltOf : GoodIn wsX3_worthAt wsX3_feltOf := goodIn_r _ [9, 10, 11, 12, 13, 14, 15, 16, 17, 18, 19, 20, 21, 22, 23, 24, 25, 26, 27] (by decide +kernel) (by decide +kernel)
set_option maxRecDepth 20000 in
theorem gX3_worthAt_X3_feltOf : GoodIn wsX3_worthAt (wsV RX3 63 RX3 yX3_feltOf wsX3_feltOf) := goodIn_app (goodIn_of _ (by decide +kernel)) ggX3_worthAt_X3_feltOf
theorem dX3_worthAt_0 : decode cX3_worthAt 0 = .ok (.aload_n 0, 1) := by decide +kernel
theorem dX3_worthAt_1 : decode cX3_worthAt 1 = .ok (.getfield 39, 3) := by decide +kernel
theorem dX3_worthAt_4 : decode cX3_worthAt 4 = .ok (.ineg, 1) := by decide +kernel
theorem dX3_worthAt_5 : decode cX3_worthAt 5 = .ok (.aload_n 0, 1) := by decide +kernel
theorem dX3_worthAt_6 : decode cX3_worthAt 6 = .ok (.getfield 15, 3) := by decide +kernel
theorem dX3_worthAt_9 : decode cX3_worthAt 9 = .ok (.iload_n 1, 1) := by decide +kernel
theorem dX3_worthAt_10 : decode cX3_worthAt 10 = .ok (.iaload, 1) := by decide +kernel
theorem dX3_worthAt_11 : decode cX3_worthAt 11 = .ok (.imul, 1) := by decide +kernel
theorem dX3_worthAt_12 : decode cX3_worthAt 12 = .ok (.istore_n 3, 1) := by decide +kernel
theorem dX3_worthAt_13 : decode cX3_worthAt 13 = .ok (.iconst 0, 1) := by decide +kernel
theorem dX3_worthAt_14 : decode cX3_worthAt 14 = .ok (.istore 4, 2) := by decide +kernel
theorem dX3_worthAt_16 : decode cX3_worthAt 16 = .ok (.iload 4, 2) := by decide +kernel
theorem dX3_worthAt_18 : decode cX3_worthAt 18 = .ok (.aload_n 0, 1) := by decide +kernel
theorem dX3_worthAt_19 : decode cX3_worthAt 19 = .ok (.getfield 32, 3) := by decide +kernel
theorem dX3_worthAt_22 : decode cX3_worthAt 22 = .ok (.if_icmp .ge 30, 3) := by decide +kernel
theorem dX3_worthAt_25 : decode cX3_worthAt 25 = .ok (.iload_n 3, 1) := by decide +kernel
theorem dX3_worthAt_26 : decode cX3_worthAt 26 = .ok (.aload_n 0, 1) := by decide +kernel
theorem dX3_worthAt_27 : decode cX3_worthAt 27 = .ok (.getfield 20, 3) := by decide +kernel
theorem dX3_worthAt_30 : decode cX3_worthAt 30 = .ok (.iload_n 1, 1) := by decide +kernel
theorem dX3_worthAt_31 : decode cX3_worthAt 31 = .ok (.aaload, 1) := by decide +kernel
theorem dX3_worthAt_32 : decode cX3_worthAt 32 = .ok (.iload 4, 2) := by decide +kernel
theorem dX3_worthAt_34 : decode cX3_worthAt 34 = .ok (.iaload, 1) := by decide +kernel
theorem dX3_worthAt_35 : decode cX3_worthAt 35 = .ok (.aload_n 0, 1) := by decide +kernel
theorem dX3_worthAt_36 : decode cX3_worthAt 36 = .ok (.aload_n 2, 1) := by decide +kernel
theorem dX3_worthAt_37 : decode cX3_worthAt 37 = .ok (.iload 4, 2) := by decide +kernel
theorem dX3_worthAt_39 : decode cX3_worthAt 39 = .ok (.iaload, 1) := by decide +kernel
theorem dX3_worthAt_40 : decode cX3_worthAt 40 = .ok (.invokevirtual 63, 3) := by decide +kernel
theorem dX3_worthAt_43 : decode cX3_worthAt 43 = .ok (.imul, 1) := by decide +kernel
theorem dX3_worthAt_44 : decode cX3_worthAt 44 = .ok (.iadd, 1) := by decide +kernel
theorem dX3_worthAt_45 : decode cX3_worthAt 45 = .ok (.istore_n 3, 1) := by decide +kernel
theorem dX3_worthAt_46 : decode cX3_worthAt 46 = .ok (.iinc 4 1, 3) := by decide +kernel
theorem dX3_worthAt_49 : decode cX3_worthAt 49 = .ok (.goto (-33), 3) := by decide +kernel
theorem dX3_worthAt_52 : decode cX3_worthAt 52 = .ok (.iload_n 3, 1) := by decide +kernel
theorem dX3_worthAt_53 : decode cX3_worthAt 53 = .ok (.ireturn, 1) := by decide +kernel
set_option maxRecDepth 20000 in
theorem ggX9_chance_X9_isWork : GoodIn wsX9_chance wsX9_isWork := goodIn_r _ [7, 1, 8, 14, 15, 16, 17, 18, 19, 20, 21, 22, 23, 24, 25, 26, 27, 28, 29, 30, 31, 32, 33, 34, 35, 36, 37, 38] (by decide +kernel) (by decide +kernel)
set_option maxRecDepth 20000 in
theorem gX9_chance_X9_isWork : GoodIn wsX9_chance (wsV RX9 140 RX9 yX9_isWork wsX9_isWork) := goodIn_app (goodIn_of _ (by decide +kernel)) ggX9_chance_X9_isWork
set_option maxRecDepth 20000 in
theorem ggX9_chance_X9_isSign : GoodIn wsX9_chance wsX9_isSign := goodIn_r _ [12, 1, 13, 14, 15, 16, 17, 18, 19, 20, 21, 22, 23, 24, 25, 26, 27, 28, 29, 30, 31, 32, 33, 34, 35, 36, 37, 38] (by decide +kernel) (by decide +kernel)
set_option maxRecDepth 20000 in
theorem gX9_chance_X9_isSign : GoodIn wsX9_chance (wsV RX9 144 RX9 yX9_isSign wsX9_isSign) := goodIn_app (goodIn_of _ (by decide +kernel)) ggX9_chance_X9_isSign
theorem dX9_chance_0 : decode cX9_chance 0 = .ok (.aload_n 0, 1) := by decide +kernel
theorem dX9_chance_1 : decode cX9_chance 1 = .ok (.iload_n 1, 1) := by decide +kernel
theorem dX9_chance_2 : decode cX9_chance 2 = .ok (.invokevirtual 140, 3) := by decide +kernel
theorem dX9_chance_5 : decode cX9_chance 5 = .ok (.ifCond .eq 25, 3) := by decide +kernel
theorem dX9_chance_8 : decode cX9_chance 8 = .ok (.aload_n 0, 1) := by decide +kernel
theorem dX9_chance_9 : decode cX9_chance 9 = .ok (.iload_n 2, 1) := by decide +kernel
theorem dX9_chance_10 : decode cX9_chance 10 = .ok (.invokevirtual 144, 3) := by decide +kernel
theorem dX9_chance_13 : decode cX9_chance 13 = .ok (.ifCond .eq 17, 3) := by decide +kernel
theorem dX9_chance_16 : decode cX9_chance 16 = .ok (.aload_n 0, 1) := by decide +kernel
theorem dX9_chance_17 : decode cX9_chance 17 = .ok (.getfield 19, 3) := by decide +kernel
theorem dX9_chance_20 : decode cX9_chance 20 = .ok (.getfield 147, 3) := by decide +kernel
theorem dX9_chance_23 : decode cX9_chance 23 = .ok (.iload_n 1, 1) := by decide +kernel
theorem dX9_chance_24 : decode cX9_chance 24 = .ok (.aaload, 1) := by decide +kernel
theorem dX9_chance_25 : decode cX9_chance 25 = .ok (.iload_n 2, 1) := by decide +kernel
theorem dX9_chance_26 : decode cX9_chance 26 = .ok (.iaload, 1) := by decide +kernel
theorem dX9_chance_27 : decode cX9_chance 27 = .ok (.goto 5, 3) := by decide +kernel
theorem dX9_chance_30 : decode cX9_chance 30 = .ok (.bipush (-2), 2) := by decide +kernel
theorem dX9_chance_32 : decode cX9_chance 32 = .ok (.ireturn, 1) := by decide +kernel
set_option maxRecDepth 20000 in
theorem ggX9_feeling_X3_feltOf : GoodIn wsX9_feeling wsX3_feltOf := goodIn_r _ [6, 7, 8, 9, 10, 11, 12, 13, 28, 29, 30, 31, 32, 33, 34, 35, 36, 37, 38] (by decide +kernel) (by decide +kernel)
set_option maxRecDepth 20000 in
theorem gX9_feeling_X3_feltOf : GoodIn wsX9_feeling (wsV RX9 151 RX3 yX3_feltOf wsX3_feltOf) := goodIn_app (goodIn_of _ (by decide +kernel)) ggX9_feeling_X3_feltOf
theorem dX9_feeling_0 : decode cX9_feeling 0 = .ok (.iload_n 1, 1) := by decide +kernel
theorem dX9_feeling_1 : decode cX9_feeling 1 = .ok (.ifCond .lt 10, 3) := by decide +kernel
theorem dX9_feeling_4 : decode cX9_feeling 4 = .ok (.iload_n 1, 1) := by decide +kernel
theorem dX9_feeling_5 : decode cX9_feeling 5 = .ok (.sipush 9999, 3) := by decide +kernel
theorem dX9_feeling_8 : decode cX9_feeling 8 = .ok (.if_icmp .le 8, 3) := by decide +kernel
theorem dX9_feeling_11 : decode cX9_feeling 11 = .ok (.bipush (-2), 2) := by decide +kernel
theorem dX9_feeling_13 : decode cX9_feeling 13 = .ok (.goto 11, 3) := by decide +kernel
theorem dX9_feeling_16 : decode cX9_feeling 16 = .ok (.aload_n 0, 1) := by decide +kernel
theorem dX9_feeling_17 : decode cX9_feeling 17 = .ok (.getfield 19, 3) := by decide +kernel
theorem dX9_feeling_20 : decode cX9_feeling 20 = .ok (.iload_n 1, 1) := by decide +kernel
theorem dX9_feeling_21 : decode cX9_feeling 21 = .ok (.invokevirtual 151, 3) := by decide +kernel
theorem dX9_feeling_24 : decode cX9_feeling 24 = .ok (.ireturn, 1) := by decide +kernel
set_option maxRecDepth 20000 in
theorem ggX9_wage_X9_isSign : GoodIn wsX9_wage wsX9_isSign := goodIn_r _ [8, 1, 9, 10, 11, 12, 13, 14, 15, 16, 17, 18, 19, 20, 21, 22, 23, 24, 25, 26, 27, 28, 29, 30, 31, 32, 33, 34] (by decide +kernel) (by decide +kernel)
set_option maxRecDepth 20000 in
theorem gX9_wage_X9_isSign : GoodIn wsX9_wage (wsV RX9 144 RX9 yX9_isSign wsX9_isSign) := goodIn_app (goodIn_of _ (by decide +kernel)) ggX9_wage_X9_isSign
theorem dX9_wage_0 : decode cX9_wage 0 = .ok (.aload_n 0, 1) := by decide +kernel
theorem dX9_wage_1 : decode cX9_wage 1 = .ok (.iload_n 1, 1) := by decide +kernel
theorem dX9_wage_2 : decode cX9_wage 2 = .ok (.invokevirtual 144, 3) := by decide +kernel
theorem dX9_wage_5 : decode cX9_wage 5 = .ok (.ifCond .eq 21, 3) := by decide +kernel
theorem dX9_wage_8 : decode cX9_wage 8 = .ok (.iload_n 2, 1) := by decide +kernel
theorem dX9_wage_9 : decode cX9_wage 9 = .ok (.aload_n 0, 1) := by decide +kernel
theorem dX9_wage_10 : decode cX9_wage 10 = .ok (.getfield 19, 3) := by decide +kernel
theorem dX9_wage_13 : decode cX9_wage 13 = .ok (.getfield 101, 3) := by decide +kernel
theorem dX9_wage_16 : decode cX9_wage 16 = .ok (.if_icmp .lt 10, 3) := by decide +kernel
theorem dX9_wage_19 : decode cX9_wage 19 = .ok (.iload_n 2, 1) := by decide +kernel
theorem dX9_wage_20 : decode cX9_wage 20 = .ok (.sipush 9999, 3) := by decide +kernel
theorem dX9_wage_23 : decode cX9_wage 23 = .ok (.if_icmp .le 6, 3) := by decide +kernel
theorem dX9_wage_26 : decode cX9_wage 26 = .ok (.bipush (-2), 2) := by decide +kernel
theorem dX9_wage_28 : decode cX9_wage 28 = .ok (.ireturn, 1) := by decide +kernel
theorem dX9_wage_29 : decode cX9_wage 29 = .ok (.aload_n 0, 1) := by decide +kernel
theorem dX9_wage_30 : decode cX9_wage 30 = .ok (.getfield 23, 3) := by decide +kernel
theorem dX9_wage_33 : decode cX9_wage 33 = .ok (.iload_n 1, 1) := by decide +kernel
theorem dX9_wage_34 : decode cX9_wage 34 = .ok (.iaload, 1) := by decide +kernel
theorem dX9_wage_35 : decode cX9_wage 35 = .ok (.istore_n 3, 1) := by decide +kernel
theorem dX9_wage_36 : decode cX9_wage 36 = .ok (.aload_n 0, 1) := by decide +kernel
theorem dX9_wage_37 : decode cX9_wage 37 = .ok (.getfield 23, 3) := by decide +kernel
theorem dX9_wage_40 : decode cX9_wage 40 = .ok (.iload_n 1, 1) := by decide +kernel
theorem dX9_wage_41 : decode cX9_wage 41 = .ok (.iload_n 2, 1) := by decide +kernel
theorem dX9_wage_42 : decode cX9_wage 42 = .ok (.iastore, 1) := by decide +kernel
theorem dX9_wage_43 : decode cX9_wage 43 = .ok (.iload_n 3, 1) := by decide +kernel
theorem dX9_wage_44 : decode cX9_wage 44 = .ok (.ireturn, 1) := by decide +kernel
theorem dX9_isSign_0 : decode cX9_isSign 0 = .ok (.iload_n 1, 1) := by decide +kernel
theorem dX9_isSign_1 : decode cX9_isSign 1 = .ok (.ifCond .lt 18, 3) := by decide +kernel
theorem dX9_isSign_4 : decode cX9_isSign 4 = .ok (.iload_n 1, 1) := by decide +kernel
theorem dX9_isSign_5 : decode cX9_isSign 5 = .ok (.aload_n 0, 1) := by decide +kernel
theorem dX9_isSign_6 : decode cX9_isSign 6 = .ok (.getfield 19, 3) := by decide +kernel
theorem dX9_isSign_9 : decode cX9_isSign 9 = .ok (.getfield 124, 3) := by decide +kernel
theorem dX9_isSign_12 : decode cX9_isSign 12 = .ok (.if_icmp .ge 7, 3) := by decide +kernel
theorem dX9_isSign_15 : decode cX9_isSign 15 = .ok (.iconst 1, 1) := by decide +kernel
theorem dX9_isSign_16 : decode cX9_isSign 16 = .ok (.goto 4, 3) := by decide +kernel
theorem dX9_isSign_19 : decode cX9_isSign 19 = .ok (.iconst 0, 1) := by decide +kernel
theorem dX9_isSign_20 : decode cX9_isSign 20 = .ok (.ireturn, 1) := by decide +kernel
theorem kk_X3_worthAt_0 : Cond.fieldLink RX3 39 "PaidBySigns$Hire" "whole" "I" ∈ wsX3_worthAt := by decide +kernel
theorem kk_X3_worthAt_1 : Cond.fieldLink RX3 15 "PaidBySigns$Hire" "costs" "[I" ∈ wsX3_worthAt := by decide +kernel
theorem kk_X3_worthAt_2 : Cond.fieldLink RX3 32 "PaidBySigns$Hire" "signs" "I" ∈ wsX3_worthAt := by decide +kernel
theorem kk_X3_worthAt_3 : Cond.fieldLink RX3 20 "PaidBySigns$Hire" "chances" "[[I" ∈ wsX3_worthAt := by decide +kernel
theorem kk_X9_isSign_0 : Cond.fieldLink RX9 19 "PaidBySigns" "hire" "LPaidBySigns$Hire;" ∈ wsX9_isSign := by decide +kernel
theorem kk_X9_isSign_1 : Cond.fieldLink RX9 124 "PaidBySigns$Hire" "signs" "I" ∈ wsX9_isSign := by decide +kernel
theorem kk_X9_chance_0 : Cond.fieldLink RX9 19 "PaidBySigns" "hire" "LPaidBySigns$Hire;" ∈ wsX9_chance := by decide +kernel
theorem kk_X9_chance_1 : Cond.fieldLink RX9 147 "PaidBySigns$Hire" "chances" "[[I" ∈ wsX9_chance := by decide +kernel
theorem kk_X9_feeling_0 : Cond.fieldLink RX9 19 "PaidBySigns" "hire" "LPaidBySigns$Hire;" ∈ wsX9_feeling := by decide +kernel
theorem kk_X9_wage_0 : Cond.fieldLink RX9 19 "PaidBySigns" "hire" "LPaidBySigns$Hire;" ∈ wsX9_wage := by decide +kernel
theorem kk_X9_wage_1 : Cond.fieldLink RX9 101 "PaidBySigns$Hire" "least" "I" ∈ wsX9_wage := by decide +kernel
theorem kk_X9_wage_2 : Cond.fieldLink RX9 23 "PaidBySigns" "hand" "[I" ∈ wsX9_wage := by decide +kernel
theorem iw_X3_worthAt_X3 : ∀ w ∈ wsX30, w ∈ wsX3_worthAt := by decide +kernel
theorem iw_X9_isSign_X9 : ∀ w ∈ wsX90, w ∈ wsX9_isSign := by decide +kernel
theorem iw_X9_isSign_X3 : ∀ w ∈ wsX30, w ∈ wsX9_isSign := by decide +kernel
theorem iw_X9_chance_X9 : ∀ w ∈ wsX90, w ∈ wsX9_chance := by decide +kernel
theorem iw_X9_chance_X3 : ∀ w ∈ wsX30, w ∈ wsX9_chance := by decide +kernel
theorem iw_X9_feeling_X9 : ∀ w ∈ wsX90, w ∈ wsX9_feeling := by decide +kernel
theorem iw_X9_wage_X9 : ∀ w ∈ wsX90, w ∈ wsX9_wage := by decide +kernel
theorem iw_X9_wage_X3 : ∀ w ∈ wsX30, w ∈ wsX9_wage := by decide +kernel
