abbrev cX3_worthAt : ByteArray := prog_5_method_5_code
def yX3_worthAt : MethodName := ⟨RX3, "worthAt", "(I[I)I"⟩
abbrev cX9_chance : ByteArray := prog_1_method_7_code
def yX9_chance : MethodName := ⟨RX9, "chance", "(II)I"⟩
abbrev cX9_feeling : ByteArray := prog_1_method_8_code
def yX9_feeling : MethodName := ⟨RX9, "feeling", "(I)I"⟩
abbrev cX9_wage : ByteArray := prog_1_method_9_code
def yX9_wage : MethodName := ⟨RX9, "wage", "(II)I"⟩
abbrev cX9_isSign : ByteArray := prog_1_method_39_code
def yX9_isSign : MethodName := ⟨RX9, "isSign", "(I)Z"⟩
def wsX3_worthAt : List Cond := .code yX3_worthAt cX3_worthAt 5 (some .int) :: ([.fieldLink RX3 39 "PaidBySigns$Hire" "whole" "I", .fieldLink RX3 15 "PaidBySigns$Hire" "costs" "[I", .fieldLink RX3 32 "PaidBySigns$Hire" "signs" "I", .fieldLink RX3 20 "PaidBySigns$Hire" "chances" "[[I", .methodLink RX3 63 yX3_feltOf, .instanceMethod yX3_feltOf, .selects RX3 yX3_feltOf yX3_feltOf, .initialized RX3, .code yX3_feltOf cX3_feltOf 6 (some .int), .fieldLink RX3 48 "PaidBySigns$Hire" "rates" "I", .fieldLink RX3 26 "PaidBySigns$Hire" "mark" "[I", .methodLink RX3 51 Lib.Math.min.name, .static Lib.Math.min.name, .initialized "java/lang/Math", .code Lib.Math.min.name Lib.Math.min.code 2 (some .int), .fieldLink RX3 23 "PaidBySigns$Hire" "rate" "[I"] ++ wsX30)
def wsX9_isSign : List Cond := .code yX9_isSign cX9_isSign 2 (some .boolean) :: ([.fieldLink RX9 19 "PaidBySigns" "hire" "LPaidBySigns$Hire;", .fieldLink RX9 124 "PaidBySigns$Hire" "signs" "I"] ++ wsX90 ++ wsX30)
def wsX9_chance : List Cond := .code yX9_chance cX9_chance 3 (some .int) :: ([.fieldLink RX9 19 "PaidBySigns" "hire" "LPaidBySigns$Hire;", .fieldLink RX9 147 "PaidBySigns$Hire" "chances" "[[I", .methodLink RX9 140 yX9_isWork, .instanceMethod yX9_isWork, .selects RX9 yX9_isWork yX9_isWork, .initialized RX9, .code yX9_isWork cX9_isWork 2 (some .boolean), .fieldLink RX9 115 "PaidBySigns$Hire" "works" "I", .methodLink RX9 144 yX9_isSign, .instanceMethod yX9_isSign, .selects RX9 yX9_isSign yX9_isSign, .code yX9_isSign cX9_isSign 2 (some .boolean), .fieldLink RX9 124 "PaidBySigns$Hire" "signs" "I"] ++ wsX90 ++ wsX30)
def wsX9_feeling : List Cond := .code yX9_feeling cX9_feeling 2 (some .int) :: ([.fieldLink RX9 19 "PaidBySigns" "hire" "LPaidBySigns$Hire;", .methodLink RX9 151 yX3_feltOf, .instanceMethod yX3_feltOf, .selects RX3 yX3_feltOf yX3_feltOf, .initialized RX3, .code yX3_feltOf cX3_feltOf 6 (some .int), .fieldLink RX3 48 "PaidBySigns$Hire" "rates" "I", .fieldLink RX3 26 "PaidBySigns$Hire" "mark" "[I", .methodLink RX3 51 Lib.Math.min.name, .static Lib.Math.min.name, .initialized "java/lang/Math", .code Lib.Math.min.name Lib.Math.min.code 2 (some .int), .fieldLink RX3 23 "PaidBySigns$Hire" "rate" "[I"] ++ wsX90 ++ wsX30)
def wsX9_wage : List Cond := .code yX9_wage cX9_wage 4 (some .int) :: ([.fieldLink RX9 19 "PaidBySigns" "hire" "LPaidBySigns$Hire;", .fieldLink RX9 101 "PaidBySigns$Hire" "least" "I", .fieldLink RX9 23 "PaidBySigns" "hand" "[I", .methodLink RX9 144 yX9_isSign, .instanceMethod yX9_isSign, .selects RX9 yX9_isSign yX9_isSign, .initialized RX9, .code yX9_isSign cX9_isSign 2 (some .boolean), .fieldLink RX9 124 "PaidBySigns$Hire" "signs" "I"] ++ wsX90 ++ wsX30)
set_option maxRecDepth 20000 in
theorem ggX3_worthAt_X3_feltOf : GoodIn wsX3_worthAt wsX3_feltOf := goodIn_r _ [9, 10, 11, 12, 13, 14, 15, 16, 17, 18, 19, 20, 21, 22, 23, 24, 25, 26, 27] (by decide +kernel) (by decide +kernel)
set_option maxRecDepth 20000 in
theorem gX3_worthAt_X3_feltOf : GoodIn wsX3_worthAt (wsV RX3 63 RX3 yX3_feltOf wsX3_feltOf) := goodIn_app (goodIn_of _ (by decide +kernel)) ggX3_worthAt_X3_feltOf
theorem dX3_worthAt_0 : decode cX3_worthAt 0 = .ok (.aload_n 0, 1) := by decide +kernel
theorem dX3_worthAt_1 : decode cX3_worthAt 1 = .ok (.getfield 39, 3) := by decide +kernel
theorem dX3_worthAt_4 : decode cX3_worthAt 4 = .ok (.ineg, 1) := by decide +kernel
theorem dX3_worthAt_5 : decode cX3_worthAt 5 = .ok (.aload_n 0, 1) := by decide +kernel
theorem dX3_worthAt_6 : decode cX3_worthAt 6 = .ok (.getfield 15, 3) := by decide +kernel
theorem dX3_worthAt_9 : decode cX3_worthAt 9 = .ok (.iload_n 1, 1) := by decide +kernel
theorem dX3_worthAt_10 : decode cX3_worthAt 10 = .ok (.iaload, 1) := by decide +kernel
theorem dX3_worthAt_11 : decode cX3_worthAt 11 = .ok (.imul, 1) := by decide +kernel
theorem dX3_worthAt_12 : decode cX3_worthAt 12 = .ok (.istore_n 3, 1) := by decide +kernel
theorem dX3_worthAt_13 : decode cX3_worthAt 13 = .ok (.iconst 0, 1) := by decide +kernel
theorem dX3_worthAt_14 : decode cX3_worthAt 14 = .ok (.istore 4, 2) := by decide +kernel
theorem dX3_worthAt_16 : decode cX3_worthAt 16 = .ok (.iload 4, 2) := by decide +kernel
theorem dX3_worthAt_18 : decode cX3_worthAt 18 = .ok (.aload_n 0, 1) := by decide +kernel
theorem dX3_worthAt_19 : decode cX3_worthAt 19 = .ok (.getfield 32, 3) := by decide +kernel
theorem dX3_worthAt_22 : decode cX3_worthAt 22 = .ok (.if_icmp .ge 30, 3) := by decide +kernel
theorem dX3_worthAt_25 : decode cX3_worthAt 25 = .ok (.iload_n 3, 1) := by decide +kernel
theorem dX3_worthAt_26 : decode cX3_worthAt 26 = .ok (.aload_n 0, 1) := by decide +kernel
theorem dX3_worthAt_27 : decode cX3_worthAt 27 = .ok (.getfield 20, 3) := by decide +kernel
theorem dX3_worthAt_30 : decode cX3_worthAt 30 = .ok (.iload_n 1, 1) := by decide +kernel
theorem dX3_worthAt_31 : decode cX3_worthAt 31 = .ok (.aaload, 1) := by decide +kernel
theorem dX3_worthAt_32 : decode cX3_worthAt 32 = .ok (.iload 4, 2) := by decide +kernel
theorem dX3_worthAt_34 : decode cX3_worthAt 34 = .ok (.iaload, 1) := by decide +kernel
theorem dX3_worthAt_35 : decode cX3_worthAt 35 = .ok (.aload_n 0, 1) := by decide +kernel
theorem dX3_worthAt_36 : decode cX3_worthAt 36 = .ok (.aload_n 2, 1) := by decide +kernel
theorem dX3_worthAt_37 : decode cX3_worthAt 37 = .ok (.iload 4, 2) := by decide +kernel
theorem dX3_worthAt_39 : decode cX3_worthAt 39 = .ok (.iaload, 1) := by decide +kernel
theorem dX3_worthAt_40 : decode cX3_worthAt 40 = .ok (.invokevirtual 63, 3) := by decide +kernel
theorem dX3_worthAt_43 : decode cX3_worthAt 43 = .ok (.imul, 1) := by decide +kernel
theorem dX3_worthAt_44 : decode cX3_worthAt 44 = .ok (.iadd, 1) := by decide +kernel
theorem dX3_worthAt_45 : decode cX3_worthAt 45 = .ok (.istore_n 3, 1) := by decide +kernel
theorem dX3_worthAt_46 : decode cX3_worthAt 46 = .ok (.iinc 4 1, 3) := by decide +kernel
theorem dX3_worthAt_49 : decode cX3_worthAt 49 = .ok (.goto (-33), 3) := by decide +kernel
theorem dX3_worthAt_52 : decode cX3_worthAt 52 = .ok (.iload_n 3, 1) := by decide +kernel
theorem dX3_worthAt_53 : decode cX3_worthAt 53 = .ok (.ireturn, 1) := by decide +kernel
set_option maxRecDepth 20000 in
theorem ggX9_chance_X9_isWork : GoodIn wsX9_chance wsX9_isWork := goodIn_r _ [7, 1, 8, 14, 15, 16, 17, 18, 19, 20, 21, 22, 23, 24, 25, 26, 27, 28, 29, 30, 31, 32, 33, 34, 35, 36, 37, 38] (by decide +kernel) (by decide +kernel)
set_option maxRecDepth 20000 in
theorem gX9_chance_X9_isWork : GoodIn wsX9_chance (wsV RX9 140 RX9 yX9_isWork wsX9_isWork) := goodIn_app (goodIn_of _ (by decide +kernel)) ggX9_chance_X9_isWork
set_option maxRecDepth 20000 in
theorem ggX9_chance_X9_isSign : GoodIn wsX9_chance wsX9_isSign := goodIn_r _ [12, 1, 13, 14, 15, 16, 17, 18, 19, 20, 21, 22, 23, 24, 25, 26, 27, 28, 29, 30, 31, 32, 33, 34, 35, 36, 37, 38] (by decide +kernel) (by decide +kernel)
set_option maxRecDepth 20000 in
theorem gX9_chance_X9_isSign : GoodIn wsX9_chance (wsV RX9 144 RX9 yX9_isSign wsX9_isSign) := goodIn_app (goodIn_of _ (by decide +kernel)) ggX9_chance_X9_isSign
theorem dX9_chance_0 : decode cX9_chance 0 = .ok (.aload_n 0, 1) := by decide +kernel
theorem dX9_chance_1 : decode cX9_chance 1 = .ok (.iload_n 1, 1) := by decide +kernel
theorem dX9_chance_2 : decode cX9_chance 2 = .ok (.invokevirtual 140, 3) := by decide +kernel
theorem dX9_chance_5 : decode cX9_chance 5 = .ok (.ifCond .eq 25, 3) := by decide +kernel
theorem dX9_chance_8 : decode cX9_chance 8 = .ok (.aload_n 0, 1) := by decide +kernel
theorem dX9_chance_9 : decode cX9_chance 9 = .ok (.iload_n 2, 1) := by decide +kernel
theorem dX9_chance_10 : decode cX9_chance 10 = .ok (.invokevirtual 144, 3) := by decide +kernel
theorem dX9_chance_13 : decode cX9_chance 13 = .ok (.ifCond .eq 17, 3) := by decide +kernel
theorem dX9_chance_16 : decode cX9_chance 16 = .ok (.aload_n 0, 1) := by decide +kernel
theorem dX9_chance_17 : decode cX9_chance 17 = .ok (.getfield 19, 3) := by decide +kernel
theorem dX9_chance_20 : decode cX9_chance 20 = .ok (.getfield 147, 3) := by decide +kernel
theorem dX9_chance_23 : decode cX9_chance 23 = .ok (.iload_n 1, 1) := by decide +kernel
theorem dX9_chance_24 : decode cX9_chance 24 = .ok (.aaload, 1) := by decide +kernel
theorem dX9_chance_25 : decode cX9_chance 25 = .ok (.iload_n 2, 1) := by decide +kernel
theorem dX9_chance_26 : decode cX9_chance 26 = .ok (.iaload, 1) := by decide +kernel
theorem dX9_chance_27 : decode cX9_chance 27 = .ok (.goto 5, 3) := by decide +kernel
theorem dX9_chance_30 : decode cX9_chance 30 = .ok (.bipush (-2), 2) := by decide +kernel
theorem dX9_chance_32 : decode cX9_chance 32 = .ok (.ireturn, 1) := by decide +kernel
set_option maxRecDepth 20000 in
theorem ggX9_feeling_X3_feltOf : GoodIn wsX9_feeling wsX3_feltOf := goodIn_r _ [6, 7, 8, 9, 10, 11, 12, 13, 28, 29, 30, 31, 32, 33, 34, 35, 36, 37, 38] (by decide +kernel) (by decide +kernel)
set_option maxRecDepth 20000 in
theorem gX9_feeling_X3_feltOf : GoodIn wsX9_feeling (wsV RX9 151 RX3 yX3_feltOf wsX3_feltOf) := goodIn_app (goodIn_of _ (by decide +kernel)) ggX9_feeling_X3_feltOf
theorem dX9_feeling_0 : decode cX9_feeling 0 = .ok (.iload_n 1, 1) := by decide +kernel
theorem dX9_feeling_1 : decode cX9_feeling 1 = .ok (.ifCond .lt 10, 3) := by decide +kernel
theorem dX9_feeling_4 : decode cX9_feeling 4 = .ok (.iload_n 1, 1) := by decide +kernel
theorem dX9_feeling_5 : decode cX9_feeling 5 = .ok (.sipush 9999, 3) := by decide +kernel
theorem dX9_feeling_8 : decode cX9_feeling 8 = .ok (.if_icmp .le 8, 3) := by decide +kernel
theorem dX9_feeling_11 : decode cX9_feeling 11 = .ok (.bipush (-2), 2) := by decide +kernel
theorem dX9_feeling_13 : decode cX9_feeling 13 = .ok (.goto 11, 3) := by decide +kernel
theorem dX9_feeling_16 : decode cX9_feeling 16 = .ok (.aload_n 0, 1) := by decide +kernel
theorem dX9_feeling_17 : decode cX9_feeling 17 = .ok (.getfield 19, 3) := by decide +kernel
theorem dX9_feeling_20 : decode cX9_feeling 20 = .ok (.iload_n 1, 1) := by decide +kernel
theorem dX9_feeling_21 : decode cX9_feeling 21 = .ok (.invokevirtual 151, 3) := by decide +kernel
theorem dX9_feeling_24 : decode cX9_feeling 24 = .ok (.ireturn, 1) := by decide +kernel
set_option maxRecDepth 20000 in
theorem ggX9_wage_X9_isSign : GoodIn wsX9_wage wsX9_isSign := goodIn_r _ [8, 1, 9, 10, 11, 12, 13, 14, 15, 16, 17, 18, 19, 20, 21, 22, 23, 24, 25, 26, 27, 28, 29, 30, 31, 32, 33, 34] (by decide +kernel) (by decide +kernel)
set_option maxRecDepth 20000 in
theorem gX9_wage_X9_isSign : GoodIn wsX9_wage (wsV RX9 144 RX9 yX9_isSign wsX9_isSign) := goodIn_app (goodIn_of _ (by decide +kernel)) ggX9_wage_X9_isSign
theorem dX9_wage_0 : decode cX9_wage 0 = .ok (.aload_n 0, 1) := by decide +kernel
theorem dX9_wage_1 : decode cX9_wage 1 = .ok (.iload_n 1, 1) := by decide +kernel
theorem dX9_wage_2 : decode cX9_wage 2 = .ok (.invokevirtual 144, 3) := by decide +kernel
theorem dX9_wage_5 : decode cX9_wage 5 = .ok (.ifCond .eq 21, 3) := by decide +kernel
theorem dX9_wage_8 : decode cX9_wage 8 = .ok (.iload_n 2, 1) := by decide +kernel
theorem dX9_wage_9 : decode cX9_wage 9 = .ok (.aload_n 0, 1) := by decide +kernel
theorem dX9_wage_10 : decode cX9_wage 10 = .ok (.getfield 19, 3) := by decide +kernel
theorem dX9_wage_13 : decode cX9_wage 13 = .ok (.getfield 101, 3) := by decide +kernel
theorem dX9_wage_16 : decode cX9_wage 16 = .ok (.if_icmp .lt 10, 3) := by decide +kernel
theorem dX9_wage_19 : decode cX9_wage 19 = .ok (.iload_n 2, 1) := by decide +kernel
theorem dX9_wage_20 : decode cX9_wage 20 = .ok (.sipush 9999, 3) := by decide +kernel
theorem dX9_wage_23 : decode cX9_wage 23 = .ok (.if_icmp .le 6, 3) := by decide +kernel
theorem dX9_wage_26 : decode cX9_wage 26 = .ok (.bipush (-2), 2) := by decide +kernel
theorem dX9_wage_28 : decode cX9_wage 28 = .ok (.ireturn, 1) := by decide +kernel
theorem dX9_wage_29 : decode cX9_wage 29 = .ok (.aload_n 0, 1) := by decide +kernel
theorem dX9_wage_30 : decode cX9_wage 30 = .ok (.getfield 23, 3) := by decide +kernel
theorem dX9_wage_33 : decode cX9_wage 33 = .ok (.iload_n 1, 1) := by decide +kernel
theorem dX9_wage_34 : decode cX9_wage 34 = .ok (.iaload, 1) := by decide +kernel
theorem dX9_wage_35 : decode cX9_wage 35 = .ok (.istore_n 3, 1) := by decide +kernel
theorem dX9_wage_36 : decode cX9_wage 36 = .ok (.aload_n 0, 1) := by decide +kernel
theorem dX9_wage_37 : decode cX9_wage 37 = .ok (.getfield 23, 3) := by decide +kernel
theorem dX9_wage_40 : decode cX9_wage 40 = .ok (.iload_n 1, 1) := by decide +kernel
theorem dX9_wage_41 : decode cX9_wage 41 = .ok (.iload_n 2, 1) := by decide +kernel
theorem dX9_wage_42 : decode cX9_wage 42 = .ok (.iastore, 1) := by decide +kernel
theorem dX9_wage_43 : decode cX9_wage 43 = .ok (.iload_n 3, 1) := by decide +kernel
theorem dX9_wage_44 : decode cX9_wage 44 = .ok (.ireturn, 1) := by decide +kernel
theorem dX9_isSign_0 : decode cX9_isSign 0 = .ok (.iload_n 1, 1) := by decide +kernel
theorem dX9_isSign_1 : decode cX9_isSign 1 = .ok (.ifCond .lt 18, 3) := by decide +kernel
theorem dX9_isSign_4 : decode cX9_isSign 4 = .ok (.iload_n 1, 1) := by decide +kernel
theorem dX9_isSign_5 : decode cX9_isSign 5 = .ok (.aload_n 0, 1) := by decide +kernel
theorem dX9_isSign_6 : decode cX9_isSign 6 = .ok (.getfield 19, 3) := by decide +kernel
theorem dX9_isSign_9 : decode cX9_isSign 9 = .ok (.getfield 124, 3) := by decide +kernel
theorem dX9_isSign_12 : decode cX9_isSign 12 = .ok (.if_icmp .ge 7, 3) := by decide +kernel
theorem dX9_isSign_15 : decode cX9_isSign 15 = .ok (.iconst 1, 1) := by decide +kernel
theorem dX9_isSign_16 : decode cX9_isSign 16 = .ok (.goto 4, 3) := by decide +kernel
theorem dX9_isSign_19 : decode cX9_isSign 19 = .ok (.iconst 0, 1) := by decide +kernel
theorem dX9_isSign_20 : decode cX9_isSign 20 = .ok (.ireturn, 1) := by decide +kernel
theorem kk_X3_worthAt_0 : Cond.fieldLink RX3 39 "PaidBySigns$Hire" "whole" "I" ∈ wsX3_worthAt := by decide +kernel
theorem kk_X3_worthAt_1 : Cond.fieldLink RX3 15 "PaidBySigns$Hire" "costs" "[I" ∈ wsX3_worthAt := by decide +kernel
theorem kk_X3_worthAt_2 : Cond.fieldLink RX3 32 "PaidBySigns$Hire" "signs" "I" ∈ wsX3_worthAt := by decide +kernel
theorem kk_X3_worthAt_3 : Cond.fieldLink RX3 20 "PaidBySigns$Hire" "chances" "[[I" ∈ wsX3_worthAt := by decide +kernel
theorem kk_X9_isSign_0 : Cond.fieldLink RX9 19 "PaidBySigns" "hire" "LPaidBySigns$Hire;" ∈ wsX9_isSign := by decide +kernel
theorem kk_X9_isSign_1 : Cond.fieldLink RX9 124 "PaidBySigns$Hire" "signs" "I" ∈ wsX9_isSign := by decide +kernel
theorem kk_X9_chance_0 : Cond.fieldLink RX9 19 "PaidBySigns" "hire" "LPaidBySigns$Hire;" ∈ wsX9_chance := by decide +kernel
theorem kk_X9_chance_1 : Cond.fieldLink RX9 147 "PaidBySigns$Hire" "chances" "[[I" ∈ wsX9_chance := by decide +kernel
theorem kk_X9_feeling_0 : Cond.fieldLink RX9 19 "PaidBySigns" "hire" "LPaidBySigns$Hire;" ∈ wsX9_feeling := by decide +kernel
theorem kk_X9_wage_0 : Cond.fieldLink RX9 19 "PaidBySigns" "hire" "LPaidBySigns$Hire;" ∈ wsX9_wage := by decide +kernel
theorem kk_X9_wage_1 : Cond.fieldLink RX9 101 "PaidBySigns$Hire" "least" "I" ∈ wsX9_wage := by decide +kernel
theorem kk_X9_wage_2 : Cond.fieldLink RX9 23 "PaidBySigns" "hand" "[I" ∈ wsX9_wage := by decide +kernel
theorem iw_X3_worthAt_X3 : ∀ w ∈ wsX30, w ∈ wsX3_worthAt := by decide +kernel
theorem iw_X9_isSign_X9 : ∀ w ∈ wsX90, w ∈ wsX9_isSign := by decide +kernel
theorem iw_X9_isSign_X3 : ∀ w ∈ wsX30, w ∈ wsX9_isSign := by decide +kernel
theorem iw_X9_chance_X9 : ∀ w ∈ wsX90, w ∈ wsX9_chance := by decide +kernel
theorem iw_X9_chance_X3 : ∀ w ∈ wsX30, w ∈ wsX9_chance := by decide +kernel
theorem iw_X9_feeling_X9 : ∀ w ∈ wsX90, w ∈ wsX9_feeling := by decide +kernel
theorem iw_X9_wage_X9 : ∀ w ∈ wsX90, w ∈ wsX9_wage := by decide +kernel
theorem iw_X9_wage_X3 : ∀ w ∈ wsX30, w ∈ wsX9_wage := by decide +kernel
set_option maxHeartbeats 4000000 in
set_option maxRecDepth 100000 in
theorem ct_X9_isSign (l : Launch) (dC : Nat → ClassId) (dI : Nat → Nat → Nat) (o : Nat) (p0 : Int32) (o_reader : Nat) (o_hire : Nat) (a_hand : Nat) (o_latest : Nat) (o_trial : Nat) (o_champion : Nat) (a_wageUpper : Nat) (a_wageLower : Nat) (v_hasWages : Int32) (o_cheapest : Nat) (o_oneSum : Nat) (o_coinSearch : Nat) (o_proofs : Nat) (o_diary : Nat) (hire_v_signs : Int32) (hire_v_works : Int32) (hire_v_whole : Int32) (hire_v_otherwise : Int32) (hire_v_least : Int32) (hire_v_rates : Int32) (hire_a_brings : Nat) (hire_a_costs : Nat) (hire_a_chances : Nat) (hire_a_rate : Nat) (hire_a_mark : Nat) (hhire_v_signs : iv hire_v_signs 0 4) (sz : Nat) : Met l yX9_isSign wsX9_isSign ({ frames := 0, cells := 0, slots := 0, locals := 0 }) (va_Pc [.ref o, .int p0] (fun U => U.heap.size = sz ∧ va_P (dC, dI) vwCl [(o, .inr (9, [.ref o_reader, .ref o_hire, .ref a_hand, .ref o_latest, .ref o_trial, .ref o_champion, .ref a_wageUpper, .ref a_wageLower, .int v_hasWages, .ref o_cheapest, .ref o_oneSum, .ref o_coinSearch, .ref o_proofs, .ref o_diary])), (o_hire, .inr (3, [.int hire_v_signs, .int hire_v_works, .int hire_v_whole, .int hire_v_otherwise, .int hire_v_least, .int hire_v_rates, .ref hire_a_brings, .ref hire_a_costs, .ref hire_a_chances, .ref hire_a_rate, .ref hire_a_mark]))] U.heap ∧ va_K (dC, dI) vwCl [] U ∧ va_D (fun _ => True) [(o, .inr (9, [.ref o_reader, .ref o_hire, .ref a_hand, .ref o_latest, .ref o_trial, .ref o_champion, .ref a_wageUpper, .ref a_wageLower, .int v_hasWages, .ref o_cheapest, .ref o_oneSum, .ref o_coinSearch, .ref o_proofs, .ref o_diary])), (o_hire, .inr (3, [.int hire_v_signs, .int hire_v_works, .int hire_v_whole, .int hire_v_otherwise, .int hire_v_least, .int hire_v_rates, .ref hire_a_brings, .ref hire_a_costs, .ref hire_a_chances, .ref hire_a_rate, .ref hire_a_mark]))])) (va_Qi (fun (r u : Int32) => u = r) (fun (r : Int32) t => ((r = 0) ∨ (r = 1 ∧ (0 ≤ p0.toInt) ∧ (p0.toInt < hire_v_signs.toInt))) ∧ va_P (dC, dI) vwCl [(o, .inr (9, [.ref o_reader, .ref o_hire, .ref a_hand, .ref o_latest, .ref o_trial, .ref o_champion, .ref a_wageUpper, .ref a_wageLower, .int v_hasWages, .ref o_cheapest, .ref o_oneSum, .ref o_coinSearch, .ref o_proofs, .ref o_diary])), (o_hire, .inr (3, [.int hire_v_signs, .int hire_v_works, .int hire_v_whole, .int hire_v_otherwise, .int hire_v_least, .int hire_v_rates, .ref hire_a_brings, .ref hire_a_costs, .ref hire_a_chances, .ref hire_a_rate, .ref hire_a_mark]))] t.heap ∧ va_D (va_A [(o, .inr (9, [.ref o_reader, .ref o_hire, .ref a_hand, .ref o_latest, .ref o_trial, .ref o_champion, .ref a_wageUpper, .ref a_wageLower, .int v_hasWages, .ref o_cheapest, .ref o_oneSum, .ref o_coinSearch, .ref o_proofs, .ref o_diary])), (o_hire, .inr (3, [.int hire_v_signs, .int hire_v_works, .int hire_v_whole, .int hire_v_otherwise, .int hire_v_least, .int hire_v_rates, .ref hire_a_brings, .ref hire_a_costs, .ref hire_a_chances, .ref hire_a_rate, .ref hire_a_mark]))] sz) [(o, .inr (9, [.ref o_reader, .ref o_hire, .ref a_hand, .ref o_latest, .ref o_trial, .ref o_champion, .ref a_wageUpper, .ref a_wageLower, .int v_hasWages, .ref o_cheapest, .ref o_oneSum, .ref o_coinSearch, .ref o_proofs, .ref o_diary])), (o_hire, .inr (3, [.int hire_v_signs, .int hire_v_works, .int hire_v_whole, .int hire_v_otherwise, .int hire_v_least, .int hire_v_rates, .ref hire_a_brings, .ref hire_a_costs, .ref hire_a_chances, .ref hire_a_rate, .ref hire_a_mark]))]) (va_A [(o, .inr (9, [.ref o_reader, .ref o_hire, .ref a_hand, .ref o_latest, .ref o_trial, .ref o_champion, .ref a_wageUpper, .ref a_wageLower, .int v_hasWages, .ref o_cheapest, .ref o_oneSum, .ref o_coinSearch, .ref o_proofs, .ref o_diary])), (o_hire, .inr (3, [.int hire_v_signs, .int hire_v_works, .int hire_v_whole, .int hire_v_otherwise, .int hire_v_least, .int hire_v_rates, .ref hire_a_brings, .ref hire_a_costs, .ref hire_a_chances, .ref hire_a_rate, .ref hire_a_mark]))] sz)) 0 0 (va_A [(o, .inr (9, [.ref o_reader, .ref o_hire, .ref a_hand, .ref o_latest, .ref o_trial, .ref o_champion, .ref a_wageUpper, .ref a_wageLower, .int v_hasWages, .ref o_cheapest, .ref o_oneSum, .ref o_coinSearch, .ref o_proofs, .ref o_diary])), (o_hire, .inr (3, [.int hire_v_signs, .int hire_v_works, .int hire_v_whole, .int hire_v_otherwise, .int hire_v_least, .int hire_v_rates, .ref hire_a_brings, .ref hire_a_costs, .ref hire_a_chances, .ref hire_a_rate, .ref hire_a_mark]))] sz) := by
  refine Met.ofW (cc := cX9_isSign) (maxL := 2) (ret := (some .boolean)) (by decide) rfl ?_
  intro p e s m args below meth c s₁ B hml hv
  obtain ⟨rfl, hsz, hP, hK, hD0⟩ := hv
  have hx := B.exec
  have hb := B.bytes
  have hr := B.returns
  have hts := atoms_spec (ws := wsX9_isSign) B.pre
  have hown : s.vm.findClass RX9 = some m.cls := findClass_of_methodNamed B.named
  have hlocks := B.notSynchronized
  subst hsz
  have hD := hD0.self (sz := s.heap.size)
  generalize hAe : va_A [(o, .inr (9, [.ref o_reader, .ref o_hire, .ref a_hand, .ref o_latest, .ref o_trial, .ref o_champion, .ref a_wageUpper, .ref a_wageLower, .int v_hasWages, .ref o_cheapest, .ref o_oneSum, .ref o_coinSearch, .ref o_proofs, .ref o_diary])), (o_hire, .inr (3, [.int hire_v_signs, .int hire_v_works, .int hire_v_whole, .int hire_v_otherwise, .int hire_v_least, .int hire_v_rates, .ref hire_a_brings, .ref hire_a_costs, .ref hire_a_chances, .ref hire_a_rate, .ref hire_a_mark]))] s.heap.size = A at hD ⊢
  have hA : ∀ q : Nat, s.heap.size ≤ q → A q := fun q h => by rw [← hAe]; exact Or.inr h
  have hS : va_S A s.heap s.heap [] := va_S.rf
  have hP : va_P (dC, dI) vwCl [(o, .inr (9, [.ref o_reader, .ref o_hire, .ref a_hand, .ref o_latest, .ref o_trial, .ref o_champion, .ref a_wageUpper, .ref a_wageLower, .int v_hasWages, .ref o_cheapest, .ref o_oneSum, .ref o_coinSearch, .ref o_proofs, .ref o_diary])), (o_hire, .inr (3, [.int hire_v_signs, .int hire_v_works, .int hire_v_whole, .int hire_v_otherwise, .int hire_v_least, .int hire_v_rates, .ref hire_a_brings, .ref hire_a_costs, .ref hire_a_chances, .ref hire_a_rate, .ref hire_a_mark]))] s.heap := hP
  have hl := lv_entry ([.ref o, .int p0]) (n := 2) (Nat.le_of_ble_eq_true rfl)
  rw [lg_entry_eq]
  generalize (lg_sl ([.ref o, .int p0]) ++ List.replicate (2 - (lg_sl ([.ref o, .int p0])).length) Slot.unset).toArray = ls at hl ⊢
  have hl : lv_has ls 2 [(0, .ref o), (1, .int p0)] := hl
  refine lv_iload_n hx hb dX9_isSign_0 rfl (lv_at hl 1 rfl) ?_
  have bp0 := i32_rng p0
  refine lv_if_lt (tgt := 19) hx hb dX9_isSign_1 (by decide) (fun c1 => ?_) (fun c1 => ?_)
  · have c19 := i32_lt c1 rfl (show (0 : Int32).toInt = 0 by decide)
    refine lv_iconst (v := 0) hx hb dX9_isSign_19 (by decide) ?_
    have hP9 := hP.sub (ws' := [(o, .inr (9, [.ref o_reader, .ref o_hire, .ref a_hand, .ref o_latest, .ref o_trial, .ref o_champion, .ref a_wageUpper, .ref a_wageLower, .int v_hasWages, .ref o_cheapest, .ref o_oneSum, .ref o_coinSearch, .ref o_proofs, .ref o_diary])), (o_hire, .inr (3, [.int hire_v_signs, .int hire_v_works, .int hire_v_whole, .int hire_v_otherwise, .int hire_v_least, .int hire_v_rates, .ref hire_a_brings, .ref hire_a_costs, .ref hire_a_chances, .ref hire_a_rate, .ref hire_a_mark]))]) [0, 1] rfl
    have hD9 := hD.sub (ws' := [(o, .inr (9, [.ref o_reader, .ref o_hire, .ref a_hand, .ref o_latest, .ref o_trial, .ref o_champion, .ref a_wageUpper, .ref a_wageLower, .int v_hasWages, .ref o_cheapest, .ref o_oneSum, .ref o_coinSearch, .ref o_proofs, .ref o_diary])), (o_hire, .inr (3, [.int hire_v_signs, .int hire_v_works, .int hire_v_whole, .int hire_v_otherwise, .int hire_v_least, .int hire_v_rates, .ref hire_a_brings, .ref hire_a_costs, .ref hire_a_chances, .ref hire_a_rate, .ref hire_a_mark]))]) [0, 1] (by decide) rfl
    have bhire_v_signs := hhire_v_signs.u
    exact W.zret (v := 0) hx hb hr rfl (fun t ht hW => ⟨⟨0, 0, rfl, rfl, (Or.inl rfl), by rw [ht]; exact hP9, hD9⟩, hS.F ht⟩) hS.2.2 dX9_isSign_20
  · have c19 := i32_nlt c1 rfl (show (0 : Int32).toInt = 0 by decide)
    refine lv_iload_n hx hb dX9_isSign_4 rfl (lv_at hl 1 rfl) ?_
    refine lv_aload_n hx hb dX9_isSign_5 rfl (lv_at hl 0 rfl) ?_
    refine va_get (D := (dC, dI)) (ci := 9) (v := .ref o_hire) (C := RX9) (T := TX9) (N := 14) hx hb hts iw_X9_isSign_X9 hown hK hP 0 rfl rfl 1 (by decide) (hts _ kk_X9_isSign_0) (fun _ h9 => h9) rfl dX9_isSign_6 ?_
    refine va_get (D := (dC, dI)) (ci := 3) (v := .int hire_v_signs) (C := RX3) (T := TX3) (N := 11) hx hb hts iw_X9_isSign_X3 hown hK hP 1 rfl rfl 0 (by decide) (hts _ kk_X9_isSign_1) (fun _ h9 => h9) rfl dX9_isSign_9 ?_
    have bhire_v_signs := hhire_v_signs.u
    refine lv_icmp_ge (tgt := 19) hx hb dX9_isSign_12 (by decide) (fun c2 => ?_) (fun c2 => ?_)
    · have c29 := i32_le c2 rfl rfl
      refine lv_iconst (v := 0) hx hb dX9_isSign_19 (by decide) ?_
      have hP9 := hP.sub (ws' := [(o, .inr (9, [.ref o_reader, .ref o_hire, .ref a_hand, .ref o_latest, .ref o_trial, .ref o_champion, .ref a_wageUpper, .ref a_wageLower, .int v_hasWages, .ref o_cheapest, .ref o_oneSum, .ref o_coinSearch, .ref o_proofs, .ref o_diary])), (o_hire, .inr (3, [.int hire_v_signs, .int hire_v_works, .int hire_v_whole, .int hire_v_otherwise, .int hire_v_least, .int hire_v_rates, .ref hire_a_brings, .ref hire_a_costs, .ref hire_a_chances, .ref hire_a_rate, .ref hire_a_mark]))]) [0, 1] rfl
      have hD9 := hD.sub (ws' := [(o, .inr (9, [.ref o_reader, .ref o_hire, .ref a_hand, .ref o_latest, .ref o_trial, .ref o_champion, .ref a_wageUpper, .ref a_wageLower, .int v_hasWages, .ref o_cheapest, .ref o_oneSum, .ref o_coinSearch, .ref o_proofs, .ref o_diary])), (o_hire, .inr (3, [.int hire_v_signs, .int hire_v_works, .int hire_v_whole, .int hire_v_otherwise, .int hire_v_least, .int hire_v_rates, .ref hire_a_brings, .ref hire_a_costs, .ref hire_a_chances, .ref hire_a_rate, .ref hire_a_mark]))]) [0, 1] (by decide) rfl
      exact W.zret (v := 0) hx hb hr rfl (fun t ht hW => ⟨⟨0, 0, rfl, rfl, (Or.inl rfl), by rw [ht]; exact hP9, hD9⟩, hS.F ht⟩) hS.2.2 dX9_isSign_20
    · have c29 := i32_nle c2 rfl rfl
      refine lv_iconst (v := 1) hx hb dX9_isSign_15 (by decide) ?_
      refine lv_goto (tgt := 20) hx hb dX9_isSign_16 (by decide) ?_
      have hP9 := hP.sub (ws' := [(o, .inr (9, [.ref o_reader, .ref o_hire, .ref a_hand, .ref o_latest, .ref o_trial, .ref o_champion, .ref a_wageUpper, .ref a_wageLower, .int v_hasWages, .ref o_cheapest, .ref o_oneSum, .ref o_coinSearch, .ref o_proofs, .ref o_diary])), (o_hire, .inr (3, [.int hire_v_signs, .int hire_v_works, .int hire_v_whole, .int hire_v_otherwise, .int hire_v_least, .int hire_v_rates, .ref hire_a_brings, .ref hire_a_costs, .ref hire_a_chances, .ref hire_a_rate, .ref hire_a_mark]))]) [0, 1] rfl
      have hD9 := hD.sub (ws' := [(o, .inr (9, [.ref o_reader, .ref o_hire, .ref a_hand, .ref o_latest, .ref o_trial, .ref o_champion, .ref a_wageUpper, .ref a_wageLower, .int v_hasWages, .ref o_cheapest, .ref o_oneSum, .ref o_coinSearch, .ref o_proofs, .ref o_diary])), (o_hire, .inr (3, [.int hire_v_signs, .int hire_v_works, .int hire_v_whole, .int hire_v_otherwise, .int hire_v_least, .int hire_v_rates, .ref hire_a_brings, .ref hire_a_costs, .ref hire_a_chances, .ref hire_a_rate, .ref hire_a_mark]))]) [0, 1] (by decide) rfl
      exact W.zret (v := 1) hx hb hr rfl (fun t ht hW => ⟨⟨1, 1, rfl, rfl, (Or.inr (⟨rfl, (by first | assumption | omega), (by first | assumption | omega)⟩)), by rw [ht]; exact hP9, hD9⟩, hS.F ht⟩) hS.2.2 dX9_isSign_20

set_option maxHeartbeats 4000000 in
set_option maxRecDepth 100000 in
theorem ct_X9_chance (l : Launch) (dC : Nat → ClassId) (dI : Nat → Nat → Nat) (o : Nat) (p0 : Int32) (p1 : Int32) (o_reader : Nat) (o_hire : Nat) (a_hand : Nat) (o_latest : Nat) (o_trial : Nat) (o_champion : Nat) (a_wageUpper : Nat) (a_wageLower : Nat) (v_hasWages : Int32) (o_cheapest : Nat) (o_oneSum : Nat) (o_coinSearch : Nat) (o_proofs : Nat) (o_diary : Nat) (hire_v_signs : Int32) (hire_v_works : Int32) (hire_v_whole : Int32) (hire_v_otherwise : Int32) (hire_v_least : Int32) (hire_v_rates : Int32) (hire_a_brings : Nat) (hire_a_costs : Nat) (hire_a_chances : Nat) (hire_a_rate : Nat) (hire_a_mark : Nat) (k_hire_a_chances : ClassId) (R_hire_a_chances : Nat → Nat) (LP : List Nat) (sh : Nat → Nat) (fp : Nat → va_E) (cI : ClassId) (cJ : ClassId) (hhire_v_signs : iv hire_v_signs 0 4) (hhire_v_works : iv hire_v_works 0 5) (hfp : pok cI cJ LP sh fp) (hRR_hire_a_chances : ∀ i : Nat, i < 5 → R_hire_a_chances i ∈ LP ∧ sh (R_hire_a_chances i) = 104) (sz : Nat) : Met l yX9_chance wsX9_chance ({ frames := 1, cells := 0, slots := 0, locals := 21 }) (va_Pc [.ref o, .int p0, .int p1] (fun U => U.heap.size = sz ∧ va_P (dC, dI) vwCl ([(o, .inr (9, [.ref o_reader, .ref o_hire, .ref a_hand, .ref o_latest, .ref o_trial, .ref o_champion, .ref a_wageUpper, .ref a_wageLower, .int v_hasWages, .ref o_cheapest, .ref o_oneSum, .ref o_coinSearch, .ref o_proofs, .ref o_diary])), (o_hire, .inr (3, [.int hire_v_signs, .int hire_v_works, .int hire_v_whole, .int hire_v_otherwise, .int hire_v_least, .int hire_v_rates, .ref hire_a_brings, .ref hire_a_costs, .ref hire_a_chances, .ref hire_a_rate, .ref hire_a_mark])), (hire_a_chances, .inl (k_hire_a_chances, 5, .inr (.inr (.inr (.inr (rows_of 5 R_hire_a_chances))))))] ++ va_pl LP fp) U.heap ∧ va_K (dC, dI) vwCl [(k_hire_a_chances, (.array .int)), (cI, .int), (cJ, .long)] U ∧ va_D (fun _ => True) ([(o, .inr (9, [.ref o_reader, .ref o_hire, .ref a_hand, .ref o_latest, .ref o_trial, .ref o_champion, .ref a_wageUpper, .ref a_wageLower, .int v_hasWages, .ref o_cheapest, .ref o_oneSum, .ref o_coinSearch, .ref o_proofs, .ref o_diary])), (o_hire, .inr (3, [.int hire_v_signs, .int hire_v_works, .int hire_v_whole, .int hire_v_otherwise, .int hire_v_least, .int hire_v_rates, .ref hire_a_brings, .ref hire_a_costs, .ref hire_a_chances, .ref hire_a_rate, .ref hire_a_mark])), (hire_a_chances, .inl (k_hire_a_chances, 5, .inr (.inr (.inr (.inr (rows_of 5 R_hire_a_chances))))))] ++ va_pl LP fp))) (va_Qi (fun (r u : Int32) => u = r) (fun (r : Int32) t => iv r (-2) 10 ∧ va_P (dC, dI) vwCl ([(o, .inr (9, [.ref o_reader, .ref o_hire, .ref a_hand, .ref o_latest, .ref o_trial, .ref o_champion, .ref a_wageUpper, .ref a_wageLower, .int v_hasWages, .ref o_cheapest, .ref o_oneSum, .ref o_coinSearch, .ref o_proofs, .ref o_diary])), (o_hire, .inr (3, [.int hire_v_signs, .int hire_v_works, .int hire_v_whole, .int hire_v_otherwise, .int hire_v_least, .int hire_v_rates, .ref hire_a_brings, .ref hire_a_costs, .ref hire_a_chances, .ref hire_a_rate, .ref hire_a_mark])), (hire_a_chances, .inl (k_hire_a_chances, 5, .inr (.inr (.inr (.inr (rows_of 5 R_hire_a_chances))))))] ++ va_pl LP fp) t.heap ∧ va_D (va_A ([(o, .inr (9, [.ref o_reader, .ref o_hire, .ref a_hand, .ref o_latest, .ref o_trial, .ref o_champion, .ref a_wageUpper, .ref a_wageLower, .int v_hasWages, .ref o_cheapest, .ref o_oneSum, .ref o_coinSearch, .ref o_proofs, .ref o_diary])), (o_hire, .inr (3, [.int hire_v_signs, .int hire_v_works, .int hire_v_whole, .int hire_v_otherwise, .int hire_v_least, .int hire_v_rates, .ref hire_a_brings, .ref hire_a_costs, .ref hire_a_chances, .ref hire_a_rate, .ref hire_a_mark])), (hire_a_chances, .inl (k_hire_a_chances, 5, .inr (.inr (.inr (.inr (rows_of 5 R_hire_a_chances))))))] ++ va_pl LP fp) sz) ([(o, .inr (9, [.ref o_reader, .ref o_hire, .ref a_hand, .ref o_latest, .ref o_trial, .ref o_champion, .ref a_wageUpper, .ref a_wageLower, .int v_hasWages, .ref o_cheapest, .ref o_oneSum, .ref o_coinSearch, .ref o_proofs, .ref o_diary])), (o_hire, .inr (3, [.int hire_v_signs, .int hire_v_works, .int hire_v_whole, .int hire_v_otherwise, .int hire_v_least, .int hire_v_rates, .ref hire_a_brings, .ref hire_a_costs, .ref hire_a_chances, .ref hire_a_rate, .ref hire_a_mark])), (hire_a_chances, .inl (k_hire_a_chances, 5, .inr (.inr (.inr (.inr (rows_of 5 R_hire_a_chances))))))] ++ va_pl LP fp)) (va_A ([(o, .inr (9, [.ref o_reader, .ref o_hire, .ref a_hand, .ref o_latest, .ref o_trial, .ref o_champion, .ref a_wageUpper, .ref a_wageLower, .int v_hasWages, .ref o_cheapest, .ref o_oneSum, .ref o_coinSearch, .ref o_proofs, .ref o_diary])), (o_hire, .inr (3, [.int hire_v_signs, .int hire_v_works, .int hire_v_whole, .int hire_v_otherwise, .int hire_v_least, .int hire_v_rates, .ref hire_a_brings, .ref hire_a_costs, .ref hire_a_chances, .ref hire_a_rate, .ref hire_a_mark])), (hire_a_chances, .inl (k_hire_a_chances, 5, .inr (.inr (.inr (.inr (rows_of 5 R_hire_a_chances))))))] ++ va_pl LP fp) sz)) 0 0 (va_A ([(o, .inr (9, [.ref o_reader, .ref o_hire, .ref a_hand, .ref o_latest, .ref o_trial, .ref o_champion, .ref a_wageUpper, .ref a_wageLower, .int v_hasWages, .ref o_cheapest, .ref o_oneSum, .ref o_coinSearch, .ref o_proofs, .ref o_diary])), (o_hire, .inr (3, [.int hire_v_signs, .int hire_v_works, .int hire_v_whole, .int hire_v_otherwise, .int hire_v_least, .int hire_v_rates, .ref hire_a_brings, .ref hire_a_costs, .ref hire_a_chances, .ref hire_a_rate, .ref hire_a_mark])), (hire_a_chances, .inl (k_hire_a_chances, 5, .inr (.inr (.inr (.inr (rows_of 5 R_hire_a_chances))))))] ++ va_pl LP fp) sz) := by
  refine Met.ofW (cc := cX9_chance) (maxL := 3) (ret := (some .int)) (by decide) rfl ?_
  intro p e s m args below meth c s₁ B hml hv
  obtain ⟨rfl, hsz, hP, hK, hD0⟩ := hv
  have hx := B.exec
  have hb := B.bytes
  have hr := B.returns
  have hts := atoms_spec (ws := wsX9_chance) B.pre
  have hown : s.vm.findClass RX9 = some m.cls := findClass_of_methodNamed B.named
  have hlocks := B.notSynchronized
  subst hsz
  have hD := hD0.self (sz := s.heap.size)
  generalize hAe : va_A ([(o, .inr (9, [.ref o_reader, .ref o_hire, .ref a_hand, .ref o_latest, .ref o_trial, .ref o_champion, .ref a_wageUpper, .ref a_wageLower, .int v_hasWages, .ref o_cheapest, .ref o_oneSum, .ref o_coinSearch, .ref o_proofs, .ref o_diary])), (o_hire, .inr (3, [.int hire_v_signs, .int hire_v_works, .int hire_v_whole, .int hire_v_otherwise, .int hire_v_least, .int hire_v_rates, .ref hire_a_brings, .ref hire_a_costs, .ref hire_a_chances, .ref hire_a_rate, .ref hire_a_mark])), (hire_a_chances, .inl (k_hire_a_chances, 5, .inr (.inr (.inr (.inr (rows_of 5 R_hire_a_chances))))))] ++ va_pl LP fp) s.heap.size = A at hD ⊢
  have hA : ∀ q : Nat, s.heap.size ≤ q → A q := fun q h => by rw [← hAe]; exact Or.inr h
  have hS : va_S A s.heap s.heap [] := va_S.rf
  have hP : va_P (dC, dI) vwCl ([(o, .inr (9, [.ref o_reader, .ref o_hire, .ref a_hand, .ref o_latest, .ref o_trial, .ref o_champion, .ref a_wageUpper, .ref a_wageLower, .int v_hasWages, .ref o_cheapest, .ref o_oneSum, .ref o_coinSearch, .ref o_proofs, .ref o_diary])), (o_hire, .inr (3, [.int hire_v_signs, .int hire_v_works, .int hire_v_whole, .int hire_v_otherwise, .int hire_v_least, .int hire_v_rates, .ref hire_a_brings, .ref hire_a_costs, .ref hire_a_chances, .ref hire_a_rate, .ref hire_a_mark])), (hire_a_chances, .inl (k_hire_a_chances, 5, .inr (.inr (.inr (.inr (rows_of 5 R_hire_a_chances))))))] ++ va_pl LP fp) s.heap := hP
  have hl := lv_entry ([.ref o, .int p0, .int p1]) (n := 3) (Nat.le_of_ble_eq_true rfl)
  rw [lg_entry_eq]
  generalize (lg_sl ([.ref o, .int p0, .int p1]) ++ List.replicate (3 - (lg_sl ([.ref o, .int p0, .int p1])).length) Slot.unset).toArray = ls at hl ⊢
  have hl : lv_has ls 3 [(0, .ref o), (1, .int p0), (2, .int p1)] := hl
  refine lv_aload_n hx hb dX9_chance_0 rfl (lv_at hl 0 rfl) ?_
  refine lv_iload_n hx hb dX9_chance_1 rfl (lv_at hl 1 rfl) ?_
  have hPc := hP.sub (ws' := [(o, .inr (9, [.ref o_reader, .ref o_hire, .ref a_hand, .ref o_latest, .ref o_trial, .ref o_champion, .ref a_wageUpper, .ref a_wageLower, .int v_hasWages, .ref o_cheapest, .ref o_oneSum, .ref o_coinSearch, .ref o_proofs, .ref o_diary])), (o_hire, .inr (3, [.int hire_v_signs, .int hire_v_works, .int hire_v_whole, .int hire_v_otherwise, .int hire_v_least, .int hire_v_rates, .ref hire_a_brings, .ref hire_a_costs, .ref hire_a_chances, .ref hire_a_rate, .ref hire_a_mark]))]) [0, 1] rfl
  have hDc := hD.sub (ws' := [(o, .inr (9, [.ref o_reader, .ref o_hire, .ref a_hand, .ref o_latest, .ref o_trial, .ref o_champion, .ref a_wageUpper, .ref a_wageLower, .int v_hasWages, .ref o_cheapest, .ref o_oneSum, .ref o_coinSearch, .ref o_proofs, .ref o_diary])), (o_hire, .inr (3, [.int hire_v_signs, .int hire_v_works, .int hire_v_whole, .int hire_v_otherwise, .int hire_v_least, .int hire_v_rates, .ref hire_a_brings, .ref hire_a_costs, .ref hire_a_chances, .ref hire_a_rate, .ref hire_a_mark]))]) [0, 1] (by decide) rfl
  have hKc := hK.sub (tys' := []) [] rfl
  have hFc := va_free (wc := [(o, .inr (9, [.ref o_reader, .ref o_hire, .ref a_hand, .ref o_latest, .ref o_trial, .ref o_champion, .ref a_wageUpper, .ref a_wageLower, .int v_hasWages, .ref o_cheapest, .ref o_oneSum, .ref o_coinSearch, .ref o_proofs, .ref o_diary])), (o_hire, .inr (3, [.int hire_v_signs, .int hire_v_works, .int hire_v_whole, .int hire_v_otherwise, .int hire_v_least, .int hire_v_rates, .ref hire_a_brings, .ref hire_a_costs, .ref hire_a_chances, .ref hire_a_rate, .ref hire_a_mark]))]) hD hS hA [0, 1] rfl
  refine va_calli (va_runV (As := [.int p0]) (rest := []) ⟨hx, hb, hml, hown, hts⟩ (ct_X9_isWork l dC dI o p0 o_reader o_hire a_hand o_latest o_trial o_champion a_wageUpper a_wageLower v_hasWages o_cheapest o_oneSum o_coinSearch o_proofs o_diary hire_v_signs hire_v_works hire_v_whole hire_v_otherwise hire_v_least hire_v_rates hire_a_brings hire_a_costs hire_a_chances hire_a_rate hire_a_mark hhire_v_works s.heap.size) (cwV 1 hts gX9_chance_X9_isWork rfl rfl rfl (by decide +kernel) ⟨Nat.le_of_ble_eq_true rfl, Nat.le_of_ble_eq_true rfl⟩) ⟨fun a U g mk q => by obtain ⟨q0, q1, qP, qK, qD⟩ := q; exact ⟨q0, q1, qP, va_K.moved (u := U) (U := U.calling g mk a) (Vm.Alike.refl U.vm) qK, qD⟩, va_recv hKc hPc (ci := 9) (q0 := 0) rfl rfl, fun U hU hW => ⟨rfl, by rw [hU], by rw [hU]; exact hPc, va_K.moved hW.alike hKc, hDc.weaken (fun _ _ _ _ => trivial)⟩⟩ rfl rfl hl.1 rfl (lv_room (Nat.le_of_ble_eq_true rfl)) dX9_chance_2 ⟨Nat.le_of_ble_eq_true rfl, Nat.le_of_ble_eq_true rfl⟩) hS (fun q _ h => hFc q h) hFc (fun r1 u t H1 locs ht hvm hw hB hz1 hk1 hS => ?_)
  have hw : r1 = u := hw.symm
  subst hw
  obtain ⟨w2, hP1, hD1⟩ := hB
  rw [ht] at hP1
  obtain ⟨hP, hD⟩ := va_joinQ (X := [(o, .inr (9, [.ref o_reader, .ref o_hire, .ref a_hand, .ref o_latest, .ref o_trial, .ref o_champion, .ref a_wageUpper, .ref a_wageLower, .int v_hasWages, .ref o_cheapest, .ref o_oneSum, .ref o_coinSearch, .ref o_proofs, .ref o_diary])), (o_hire, .inr (3, [.int hire_v_signs, .int hire_v_works, .int hire_v_whole, .int hire_v_otherwise, .int hire_v_least, .int hire_v_rates, .ref hire_a_brings, .ref hire_a_costs, .ref hire_a_chances, .ref hire_a_rate, .ref hire_a_mark])), (hire_a_chances, .inl (k_hire_a_chances, 5, .inr (.inr (.inr (.inr (rows_of 5 R_hire_a_chances))))))]) (cx := [(o, .inr (9, [.ref o_reader, .ref o_hire, .ref a_hand, .ref o_latest, .ref o_trial, .ref o_champion, .ref a_wageUpper, .ref a_wageLower, .int v_hasWages, .ref o_cheapest, .ref o_oneSum, .ref o_coinSearch, .ref o_proofs, .ref o_diary])), (o_hire, .inr (3, [.int hire_v_signs, .int hire_v_works, .int hire_v_whole, .int hire_v_otherwise, .int hire_v_least, .int hire_v_rates, .ref hire_a_brings, .ref hire_a_costs, .ref hire_a_chances, .ref hire_a_rate, .ref hire_a_mark]))]) (wr := [(hire_a_chances, .inl (k_hire_a_chances, 5, .inr (.inr (.inr (.inr (rows_of 5 R_hire_a_chances))))))]) (w1 := [(o, .inr (9, [.ref o_reader, .ref o_hire, .ref a_hand, .ref o_latest, .ref o_trial, .ref o_champion, .ref a_wageUpper, .ref a_wageLower, .int v_hasWages, .ref o_cheapest, .ref o_oneSum, .ref o_coinSearch, .ref o_proofs, .ref o_diary])), (o_hire, .inr (3, [.int hire_v_signs, .int hire_v_works, .int hire_v_whole, .int hire_v_otherwise, .int hire_v_least, .int hire_v_rates, .ref hire_a_brings, .ref hire_a_costs, .ref hire_a_chances, .ref hire_a_rate, .ref hire_a_mark]))]) hP hD [0, 1] [2] rfl rfl (by decide) (by decide) hk1 hFc hP1 hD1
  clear hPc hDc hKc hFc hP1 hD1 hk1 hz1
  generalize H1 = H at hP hS ⊢
  have hP : va_P (dC, dI) vwCl ([(hire_a_chances, .inl (k_hire_a_chances, 5, .inr (.inr (.inr (.inr (rows_of 5 R_hire_a_chances)))))), (o, .inr (9, [.ref o_reader, .ref o_hire, .ref a_hand, .ref o_latest, .ref o_trial, .ref o_champion, .ref a_wageUpper, .ref a_wageLower, .int v_hasWages, .ref o_cheapest, .ref o_oneSum, .ref o_coinSearch, .ref o_proofs, .ref o_diary])), (o_hire, .inr (3, [.int hire_v_signs, .int hire_v_works, .int hire_v_whole, .int hire_v_otherwise, .int hire_v_least, .int hire_v_rates, .ref hire_a_brings, .ref hire_a_costs, .ref hire_a_chances, .ref hire_a_rate, .ref hire_a_mark]))] ++ va_pl LP fp) H := hP
  have hD : va_D A ([(hire_a_chances, .inl (k_hire_a_chances, 5, .inr (.inr (.inr (.inr (rows_of 5 R_hire_a_chances)))))), (o, .inr (9, [.ref o_reader, .ref o_hire, .ref a_hand, .ref o_latest, .ref o_trial, .ref o_champion, .ref a_wageUpper, .ref a_wageLower, .int v_hasWages, .ref o_cheapest, .ref o_oneSum, .ref o_coinSearch, .ref o_proofs, .ref o_diary])), (o_hire, .inr (3, [.int hire_v_signs, .int hire_v_works, .int hire_v_whole, .int hire_v_otherwise, .int hire_v_least, .int hire_v_rates, .ref hire_a_brings, .ref hire_a_costs, .ref hire_a_chances, .ref hire_a_rate, .ref hire_a_mark]))] ++ va_pl LP fp) := hD
  refine W.widen (k := 0) (n := 0) (by decide) (by decide) ?_
  rcases w2 with hr9 | ⟨hr9, w2_1_0, w2_1_1⟩
  · subst hr9
    have bp0 := i32_rng p0
    have bhire_v_works := hhire_v_works.u
    refine lv_if_eq (tgt := 30) hx hb dX9_chance_5 (by decide) (fun _ => ?_) (fun cz => absurd cz (by decide))
    refine lv_bipush (v := (-2)) hx hb dX9_chance_30 (by decide) ?_
    have hP9 := hP.part (cx := [(o, .inr (9, [.ref o_reader, .ref o_hire, .ref a_hand, .ref o_latest, .ref o_trial, .ref o_champion, .ref a_wageUpper, .ref a_wageLower, .int v_hasWages, .ref o_cheapest, .ref o_oneSum, .ref o_coinSearch, .ref o_proofs, .ref o_diary])), (o_hire, .inr (3, [.int hire_v_signs, .int hire_v_works, .int hire_v_whole, .int hire_v_otherwise, .int hire_v_least, .int hire_v_rates, .ref hire_a_brings, .ref hire_a_costs, .ref hire_a_chances, .ref hire_a_rate, .ref hire_a_mark])), (hire_a_chances, .inl (k_hire_a_chances, 5, .inr (.inr (.inr (.inr (rows_of 5 R_hire_a_chances))))))]) [1, 2, 0] rfl
    have hD9 := hD.part (cx := [(o, .inr (9, [.ref o_reader, .ref o_hire, .ref a_hand, .ref o_latest, .ref o_trial, .ref o_champion, .ref a_wageUpper, .ref a_wageLower, .int v_hasWages, .ref o_cheapest, .ref o_oneSum, .ref o_coinSearch, .ref o_proofs, .ref o_diary])), (o_hire, .inr (3, [.int hire_v_signs, .int hire_v_works, .int hire_v_whole, .int hire_v_otherwise, .int hire_v_least, .int hire_v_rates, .ref hire_a_brings, .ref hire_a_costs, .ref hire_a_chances, .ref hire_a_rate, .ref hire_a_mark])), (hire_a_chances, .inl (k_hire_a_chances, 5, .inr (.inr (.inr (.inr (rows_of 5 R_hire_a_chances))))))]) [1, 2, 0] (by decide) rfl
    exact W.iret (v := (-2)) hx hb hr (fun t ht hW => ⟨⟨(-2), (-2), rfl, rfl, (iv.m (by decide)), by rw [ht]; exact hP9, hD9⟩, hS.F ht⟩) hS.2.2 dX9_chance_32
  · subst hr9
    have bp0 := i32_rng p0
    have bhire_v_works := hhire_v_works.u
    refine lv_if_eq (tgt := 30) hx hb dX9_chance_5 (by decide) (fun cz => absurd cz (by decide)) (fun _ => ?_)
    refine lv_aload_n hx hb dX9_chance_8 rfl (lv_at hl 0 rfl) ?_
    refine lv_iload_n hx hb dX9_chance_9 rfl (lv_at hl 2 rfl) ?_
    have hPc := hP.sub (ws' := [(o, .inr (9, [.ref o_reader, .ref o_hire, .ref a_hand, .ref o_latest, .ref o_trial, .ref o_champion, .ref a_wageUpper, .ref a_wageLower, .int v_hasWages, .ref o_cheapest, .ref o_oneSum, .ref o_coinSearch, .ref o_proofs, .ref o_diary])), (o_hire, .inr (3, [.int hire_v_signs, .int hire_v_works, .int hire_v_whole, .int hire_v_otherwise, .int hire_v_least, .int hire_v_rates, .ref hire_a_brings, .ref hire_a_costs, .ref hire_a_chances, .ref hire_a_rate, .ref hire_a_mark]))]) [1, 2] rfl
    have hDc := hD.sub (ws' := [(o, .inr (9, [.ref o_reader, .ref o_hire, .ref a_hand, .ref o_latest, .ref o_trial, .ref o_champion, .ref a_wageUpper, .ref a_wageLower, .int v_hasWages, .ref o_cheapest, .ref o_oneSum, .ref o_coinSearch, .ref o_proofs, .ref o_diary])), (o_hire, .inr (3, [.int hire_v_signs, .int hire_v_works, .int hire_v_whole, .int hire_v_otherwise, .int hire_v_least, .int hire_v_rates, .ref hire_a_brings, .ref hire_a_costs, .ref hire_a_chances, .ref hire_a_rate, .ref hire_a_mark]))]) [1, 2] (by decide) rfl
    have hKc := hK.sub (tys' := []) [] rfl
    have hFc := va_free (wc := [(o, .inr (9, [.ref o_reader, .ref o_hire, .ref a_hand, .ref o_latest, .ref o_trial, .ref o_champion, .ref a_wageUpper, .ref a_wageLower, .int v_hasWages, .ref o_cheapest, .ref o_oneSum, .ref o_coinSearch, .ref o_proofs, .ref o_diary])), (o_hire, .inr (3, [.int hire_v_signs, .int hire_v_works, .int hire_v_whole, .int hire_v_otherwise, .int hire_v_least, .int hire_v_rates, .ref hire_a_brings, .ref hire_a_costs, .ref hire_a_chances, .ref hire_a_rate, .ref hire_a_mark]))]) hD hS hA [1, 2] rfl
    refine va_calli (va_runV (As := [.int p1]) (rest := []) ⟨hx, hb, hml, hown, hts⟩ (ct_X9_isSign l dC dI o p1 o_reader o_hire a_hand o_latest o_trial o_champion a_wageUpper a_wageLower v_hasWages o_cheapest o_oneSum o_coinSearch o_proofs o_diary hire_v_signs hire_v_works hire_v_whole hire_v_otherwise hire_v_least hire_v_rates hire_a_brings hire_a_costs hire_a_chances hire_a_rate hire_a_mark hhire_v_signs H.size) (cwV 1 hts gX9_chance_X9_isSign rfl rfl rfl (by decide +kernel) ⟨Nat.le_of_ble_eq_true rfl, Nat.le_of_ble_eq_true rfl⟩) ⟨fun a U g mk q => by obtain ⟨q0, q1, qP, qK, qD⟩ := q; exact ⟨q0, q1, qP, va_K.moved (u := U) (U := U.calling g mk a) (Vm.Alike.refl U.vm) qK, qD⟩, va_recv hKc hPc (ci := 9) (q0 := 0) rfl rfl, fun U hU hW => ⟨rfl, by rw [hU], by rw [hU]; exact hPc, va_K.moved hW.alike hKc, hDc.weaken (fun _ _ _ _ => trivial)⟩⟩ rfl rfl hl.1 rfl (lv_room (Nat.le_of_ble_eq_true rfl)) dX9_chance_10 ⟨Nat.le_of_ble_eq_true rfl, Nat.le_of_ble_eq_true rfl⟩) hS (fun q _ h => hFc q h) hFc (fun r3 u t H1 locs ht hvm hw hB hz1 hk1 hS => ?_)
    have hw : r3 = u := hw.symm
    subst hw
    obtain ⟨w4, hP1, hD1⟩ := hB
    rw [ht] at hP1
    obtain ⟨hP, hD⟩ := va_joinQ (X := [(hire_a_chances, .inl (k_hire_a_chances, 5, .inr (.inr (.inr (.inr (rows_of 5 R_hire_a_chances)))))), (o, .inr (9, [.ref o_reader, .ref o_hire, .ref a_hand, .ref o_latest, .ref o_trial, .ref o_champion, .ref a_wageUpper, .ref a_wageLower, .int v_hasWages, .ref o_cheapest, .ref o_oneSum, .ref o_coinSearch, .ref o_proofs, .ref o_diary])), (o_hire, .inr (3, [.int hire_v_signs, .int hire_v_works, .int hire_v_whole, .int hire_v_otherwise, .int hire_v_least, .int hire_v_rates, .ref hire_a_brings, .ref hire_a_costs, .ref hire_a_chances, .ref hire_a_rate, .ref hire_a_mark]))]) (cx := [(o, .inr (9, [.ref o_reader, .ref o_hire, .ref a_hand, .ref o_latest, .ref o_trial, .ref o_champion, .ref a_wageUpper, .ref a_wageLower, .int v_hasWages, .ref o_cheapest, .ref o_oneSum, .ref o_coinSearch, .ref o_proofs, .ref o_diary])), (o_hire, .inr (3, [.int hire_v_signs, .int hire_v_works, .int hire_v_whole, .int hire_v_otherwise, .int hire_v_least, .int hire_v_rates, .ref hire_a_brings, .ref hire_a_costs, .ref hire_a_chances, .ref hire_a_rate, .ref hire_a_mark]))]) (wr := [(hire_a_chances, .inl (k_hire_a_chances, 5, .inr (.inr (.inr (.inr (rows_of 5 R_hire_a_chances))))))]) (w1 := [(o, .inr (9, [.ref o_reader, .ref o_hire, .ref a_hand, .ref o_latest, .ref o_trial, .ref o_champion, .ref a_wageUpper, .ref a_wageLower, .int v_hasWages, .ref o_cheapest, .ref o_oneSum, .ref o_coinSearch, .ref o_proofs, .ref o_diary])), (o_hire, .inr (3, [.int hire_v_signs, .int hire_v_works, .int hire_v_whole, .int hire_v_otherwise, .int hire_v_least, .int hire_v_rates, .ref hire_a_brings, .ref hire_a_costs, .ref hire_a_chances, .ref hire_a_rate, .ref hire_a_mark]))]) hP hD [1, 2] [0] rfl rfl (by decide) (by decide) hk1 hFc hP1 hD1
    clear hPc hDc hKc hFc hP1 hD1 hk1 hz1
    generalize H1 = H at hP hS ⊢
    have hP : va_P (dC, dI) vwCl ([(hire_a_chances, .inl (k_hire_a_chances, 5, .inr (.inr (.inr (.inr (rows_of 5 R_hire_a_chances)))))), (o, .inr (9, [.ref o_reader, .ref o_hire, .ref a_hand, .ref o_latest, .ref o_trial, .ref o_champion, .ref a_wageUpper, .ref a_wageLower, .int v_hasWages, .ref o_cheapest, .ref o_oneSum, .ref o_coinSearch, .ref o_proofs, .ref o_diary])), (o_hire, .inr (3, [.int hire_v_signs, .int hire_v_works, .int hire_v_whole, .int hire_v_otherwise, .int hire_v_least, .int hire_v_rates, .ref hire_a_brings, .ref hire_a_costs, .ref hire_a_chances, .ref hire_a_rate, .ref hire_a_mark]))] ++ va_pl LP fp) H := hP
    have hD : va_D A ([(hire_a_chances, .inl (k_hire_a_chances, 5, .inr (.inr (.inr (.inr (rows_of 5 R_hire_a_chances)))))), (o, .inr (9, [.ref o_reader, .ref o_hire, .ref a_hand, .ref o_latest, .ref o_trial, .ref o_champion, .ref a_wageUpper, .ref a_wageLower, .int v_hasWages, .ref o_cheapest, .ref o_oneSum, .ref o_coinSearch, .ref o_proofs, .ref o_diary])), (o_hire, .inr (3, [.int hire_v_signs, .int hire_v_works, .int hire_v_whole, .int hire_v_otherwise, .int hire_v_least, .int hire_v_rates, .ref hire_a_brings, .ref hire_a_costs, .ref hire_a_chances, .ref hire_a_rate, .ref hire_a_mark]))] ++ va_pl LP fp) := hD
    refine W.widen (k := 0) (n := 0) (by decide) (by decide) ?_
    rcases w4 with hr9 | ⟨hr9, w4_1_0, w4_1_1⟩
    · subst hr9
      have bp1 := i32_rng p1
      have bhire_v_signs := hhire_v_signs.u
      refine lv_if_eq (tgt := 30) hx hb dX9_chance_13 (by decide) (fun _ => ?_) (fun cz => absurd cz (by decide))
      refine lv_bipush (v := (-2)) hx hb dX9_chance_30 (by decide) ?_
      have hP9 := hP.part (cx := [(o, .inr (9, [.ref o_reader, .ref o_hire, .ref a_hand, .ref o_latest, .ref o_trial, .ref o_champion, .ref a_wageUpper, .ref a_wageLower, .int v_hasWages, .ref o_cheapest, .ref o_oneSum, .ref o_coinSearch, .ref o_proofs, .ref o_diary])), (o_hire, .inr (3, [.int hire_v_signs, .int hire_v_works, .int hire_v_whole, .int hire_v_otherwise, .int hire_v_least, .int hire_v_rates, .ref hire_a_brings, .ref hire_a_costs, .ref hire_a_chances, .ref hire_a_rate, .ref hire_a_mark])), (hire_a_chances, .inl (k_hire_a_chances, 5, .inr (.inr (.inr (.inr (rows_of 5 R_hire_a_chances))))))]) [1, 2, 0] rfl
      have hD9 := hD.part (cx := [(o, .inr (9, [.ref o_reader, .ref o_hire, .ref a_hand, .ref o_latest, .ref o_trial, .ref o_champion, .ref a_wageUpper, .ref a_wageLower, .int v_hasWages, .ref o_cheapest, .ref o_oneSum, .ref o_coinSearch, .ref o_proofs, .ref o_diary])), (o_hire, .inr (3, [.int hire_v_signs, .int hire_v_works, .int hire_v_whole, .int hire_v_otherwise, .int hire_v_least, .int hire_v_rates, .ref hire_a_brings, .ref hire_a_costs, .ref hire_a_chances, .ref hire_a_rate, .ref hire_a_mark])), (hire_a_chances, .inl (k_hire_a_chances, 5, .inr (.inr (.inr (.inr (rows_of 5 R_hire_a_chances))))))]) [1, 2, 0] (by decide) rfl
      exact W.iret (v := (-2)) hx hb hr (fun t ht hW => ⟨⟨(-2), (-2), rfl, rfl, (iv.m (by decide)), by rw [ht]; exact hP9, hD9⟩, hS.F ht⟩) hS.2.2 dX9_chance_32
    · subst hr9
      have bp1 := i32_rng p1
      have bhire_v_signs := hhire_v_signs.u
      refine lv_if_eq (tgt := 30) hx hb dX9_chance_13 (by decide) (fun cz => absurd cz (by decide)) (fun _ => ?_)
      refine lv_aload_n hx hb dX9_chance_16 rfl (lv_at hl 0 rfl) ?_
      refine va_get (D := (dC, dI)) (ci := 9) (v := .ref o_hire) (C := RX9) (T := TX9) (N := 14) hx hb hts iw_X9_chance_X9 hown hK hP 1 rfl rfl 1 (by decide) (hts _ kk_X9_chance_0) (fun _ h9 => h9) rfl dX9_chance_17 ?_
      refine va_get (D := (dC, dI)) (ci := 3) (v := .ref hire_a_chances) (C := RX3) (T := TX3) (N := 11) hx hb hts iw_X9_chance_X3 hown hK hP 2 rfl rfl 8 (by decide) (hts _ kk_X9_chance_1) (fun _ h9 => h9) rfl dX9_chance_20 ?_
      refine lv_iload_n hx hb dX9_chance_23 rfl (lv_at hl 1 rfl) ?_
      have hinrw5 : vp_in p0 5 := (vq_in p0 5 (by omega))
      refine va_aldA hx hb hK hP 0 0 rfl rfl hinrw5 dX9_chance_24 ?_
      refine px_v (row_sel hinrw5) ?_
      obtain ⟨rw5, erw5⟩ : ∃ z : Nat, z = R_hire_a_chances (Int32.toNatClampNeg p0) := ⟨_, rfl⟩
      rw [← erw5]
      have mrw5 : rw5 ∈ LP ∧ sh rw5 = 104 := by rw [erw5]; exact hRR_hire_a_chances _ (vin_lt hinrw5)
      refine lv_iload_n hx hb dX9_chance_25 rfl (lv_at hl 2 rfl) ?_
      obtain ⟨gk6, hgk6, bgk6⟩ := pok_104 (hfp) mrw5
      obtain ⟨kk7, hkk7⟩ := va_pl_get (X := [(hire_a_chances, .inl (k_hire_a_chances, 5, .inr (.inr (.inr (.inr (rows_of 5 R_hire_a_chances)))))), (o, .inr (9, [.ref o_reader, .ref o_hire, .ref a_hand, .ref o_latest, .ref o_trial, .ref o_champion, .ref a_wageUpper, .ref a_wageLower, .int v_hasWages, .ref o_cheapest, .ref o_oneSum, .ref o_coinSearch, .ref o_proofs, .ref o_diary])), (o_hire, .inr (3, [.int hire_v_signs, .int hire_v_works, .int hire_v_whole, .int hire_v_otherwise, .int hire_v_least, .int hire_v_rates, .ref hire_a_brings, .ref hire_a_costs, .ref hire_a_chances, .ref hire_a_rate, .ref hire_a_mark]))]) (f := fp) mrw5.1
      have qkk7 := hkk7
      rw [hgk6] at qkk7
      refine va_iald hx hb hK hP kk7 1 qkk7 rfl (vq_in p1 4 (by omega)) dX9_chance_26 ?_
      refine lv_topi (fun x8 ex8 => ?_)
      have hx8 : iv x8 0 10 := iv.of (bgk6 _) ex8
      refine lv_goto (tgt := 32) hx hb dX9_chance_27 (by decide) ?_
      have hP9 := hP.part (cx := [(o, .inr (9, [.ref o_reader, .ref o_hire, .ref a_hand, .ref o_latest, .ref o_trial, .ref o_champion, .ref a_wageUpper, .ref a_wageLower, .int v_hasWages, .ref o_cheapest, .ref o_oneSum, .ref o_coinSearch, .ref o_proofs, .ref o_diary])), (o_hire, .inr (3, [.int hire_v_signs, .int hire_v_works, .int hire_v_whole, .int hire_v_otherwise, .int hire_v_least, .int hire_v_rates, .ref hire_a_brings, .ref hire_a_costs, .ref hire_a_chances, .ref hire_a_rate, .ref hire_a_mark])), (hire_a_chances, .inl (k_hire_a_chances, 5, .inr (.inr (.inr (.inr (rows_of 5 R_hire_a_chances))))))]) [1, 2, 0] rfl
      have hD9 := hD.part (cx := [(o, .inr (9, [.ref o_reader, .ref o_hire, .ref a_hand, .ref o_latest, .ref o_trial, .ref o_champion, .ref a_wageUpper, .ref a_wageLower, .int v_hasWages, .ref o_cheapest, .ref o_oneSum, .ref o_coinSearch, .ref o_proofs, .ref o_diary])), (o_hire, .inr (3, [.int hire_v_signs, .int hire_v_works, .int hire_v_whole, .int hire_v_otherwise, .int hire_v_least, .int hire_v_rates, .ref hire_a_brings, .ref hire_a_costs, .ref hire_a_chances, .ref hire_a_rate, .ref hire_a_mark])), (hire_a_chances, .inl (k_hire_a_chances, 5, .inr (.inr (.inr (.inr (rows_of 5 R_hire_a_chances))))))]) [1, 2, 0] (by decide) rfl
      exact W.iret (v := x8) hx hb hr (fun t ht hW => ⟨⟨x8, x8, rfl, rfl, (hx8.w (by decide) (by decide)), by rw [ht]; exact hP9, hD9⟩, hS.F ht⟩) hS.2.2 dX9_chance_32

set_option maxHeartbeats 4000000 in
set_option maxRecDepth 100000 in
theorem ct_X9_feeling (l : Launch) (dC : Nat → ClassId) (dI : Nat → Nat → Nat) (o : Nat) (p0 : Int32) (o_reader : Nat) (o_hire : Nat) (a_hand : Nat) (o_latest : Nat) (o_trial : Nat) (o_champion : Nat) (a_wageUpper : Nat) (a_wageLower : Nat) (v_hasWages : Int32) (o_cheapest : Nat) (o_oneSum : Nat) (o_coinSearch : Nat) (o_proofs : Nat) (o_diary : Nat) (hire_v_signs : Int32) (hire_v_works : Int32) (hire_v_whole : Int32) (hire_v_otherwise : Int32) (hire_v_least : Int32) (hire_v_rates : Int32) (hire_a_brings : Nat) (hire_a_costs : Nat) (hire_a_chances : Nat) (hire_a_rate : Nat) (hire_a_mark : Nat) (k_hire_a_rate : ClassId) (f_hire_a_rate : Nat → Int32) (k_hire_a_mark : ClassId) (f_hire_a_mark : Nat → Int32) (hhire_v_rates : iv hire_v_rates 1 3) (sz : Nat) : Met l yX9_feeling wsX9_feeling ({ frames := 2, cells := 0, slots := 0, locals := 38 }) (va_Pc [.ref o, .int p0] (fun U => U.heap.size = sz ∧ va_P (dC, dI) vwCl [(o, .inr (9, [.ref o_reader, .ref o_hire, .ref a_hand, .ref o_latest, .ref o_trial, .ref o_champion, .ref a_wageUpper, .ref a_wageLower, .int v_hasWages, .ref o_cheapest, .ref o_oneSum, .ref o_coinSearch, .ref o_proofs, .ref o_diary])), (o_hire, .inr (3, [.int hire_v_signs, .int hire_v_works, .int hire_v_whole, .int hire_v_otherwise, .int hire_v_least, .int hire_v_rates, .ref hire_a_brings, .ref hire_a_costs, .ref hire_a_chances, .ref hire_a_rate, .ref hire_a_mark])), (hire_a_rate, .inl (k_hire_a_rate, 3, .inl f_hire_a_rate)), (hire_a_mark, .inl (k_hire_a_mark, 2, .inl f_hire_a_mark))] U.heap ∧ va_K (dC, dI) vwCl [(k_hire_a_rate, .int), (k_hire_a_mark, .int)] U ∧ va_D (fun _ => True) [(o, .inr (9, [.ref o_reader, .ref o_hire, .ref a_hand, .ref o_latest, .ref o_trial, .ref o_champion, .ref a_wageUpper, .ref a_wageLower, .int v_hasWages, .ref o_cheapest, .ref o_oneSum, .ref o_coinSearch, .ref o_proofs, .ref o_diary])), (o_hire, .inr (3, [.int hire_v_signs, .int hire_v_works, .int hire_v_whole, .int hire_v_otherwise, .int hire_v_least, .int hire_v_rates, .ref hire_a_brings, .ref hire_a_costs, .ref hire_a_chances, .ref hire_a_rate, .ref hire_a_mark])), (hire_a_rate, .inl (k_hire_a_rate, 3, .inl f_hire_a_rate)), (hire_a_mark, .inl (k_hire_a_mark, 2, .inl f_hire_a_mark))])) (va_Qi (fun (r u : Int32) => u = r) (fun (r : Int32) t => va_P (dC, dI) vwCl [(o, .inr (9, [.ref o_reader, .ref o_hire, .ref a_hand, .ref o_latest, .ref o_trial, .ref o_champion, .ref a_wageUpper, .ref a_wageLower, .int v_hasWages, .ref o_cheapest, .ref o_oneSum, .ref o_coinSearch, .ref o_proofs, .ref o_diary])), (o_hire, .inr (3, [.int hire_v_signs, .int hire_v_works, .int hire_v_whole, .int hire_v_otherwise, .int hire_v_least, .int hire_v_rates, .ref hire_a_brings, .ref hire_a_costs, .ref hire_a_chances, .ref hire_a_rate, .ref hire_a_mark])), (hire_a_rate, .inl (k_hire_a_rate, 3, .inl f_hire_a_rate)), (hire_a_mark, .inl (k_hire_a_mark, 2, .inl f_hire_a_mark))] t.heap ∧ va_D (va_A [(o, .inr (9, [.ref o_reader, .ref o_hire, .ref a_hand, .ref o_latest, .ref o_trial, .ref o_champion, .ref a_wageUpper, .ref a_wageLower, .int v_hasWages, .ref o_cheapest, .ref o_oneSum, .ref o_coinSearch, .ref o_proofs, .ref o_diary])), (o_hire, .inr (3, [.int hire_v_signs, .int hire_v_works, .int hire_v_whole, .int hire_v_otherwise, .int hire_v_least, .int hire_v_rates, .ref hire_a_brings, .ref hire_a_costs, .ref hire_a_chances, .ref hire_a_rate, .ref hire_a_mark])), (hire_a_rate, .inl (k_hire_a_rate, 3, .inl f_hire_a_rate)), (hire_a_mark, .inl (k_hire_a_mark, 2, .inl f_hire_a_mark))] sz) [(o, .inr (9, [.ref o_reader, .ref o_hire, .ref a_hand, .ref o_latest, .ref o_trial, .ref o_champion, .ref a_wageUpper, .ref a_wageLower, .int v_hasWages, .ref o_cheapest, .ref o_oneSum, .ref o_coinSearch, .ref o_proofs, .ref o_diary])), (o_hire, .inr (3, [.int hire_v_signs, .int hire_v_works, .int hire_v_whole, .int hire_v_otherwise, .int hire_v_least, .int hire_v_rates, .ref hire_a_brings, .ref hire_a_costs, .ref hire_a_chances, .ref hire_a_rate, .ref hire_a_mark])), (hire_a_rate, .inl (k_hire_a_rate, 3, .inl f_hire_a_rate)), (hire_a_mark, .inl (k_hire_a_mark, 2, .inl f_hire_a_mark))]) (va_A [(o, .inr (9, [.ref o_reader, .ref o_hire, .ref a_hand, .ref o_latest, .ref o_trial, .ref o_champion, .ref a_wageUpper, .ref a_wageLower, .int v_hasWages, .ref o_cheapest, .ref o_oneSum, .ref o_coinSearch, .ref o_proofs, .ref o_diary])), (o_hire, .inr (3, [.int hire_v_signs, .int hire_v_works, .int hire_v_whole, .int hire_v_otherwise, .int hire_v_least, .int hire_v_rates, .ref hire_a_brings, .ref hire_a_costs, .ref hire_a_chances, .ref hire_a_rate, .ref hire_a_mark])), (hire_a_rate, .inl (k_hire_a_rate, 3, .inl f_hire_a_rate)), (hire_a_mark, .inl (k_hire_a_mark, 2, .inl f_hire_a_mark))] sz)) 0 0 (va_A [(o, .inr (9, [.ref o_reader, .ref o_hire, .ref a_hand, .ref o_latest, .ref o_trial, .ref o_champion, .ref a_wageUpper, .ref a_wageLower, .int v_hasWages, .ref o_cheapest, .ref o_oneSum, .ref o_coinSearch, .ref o_proofs, .ref o_diary])), (o_hire, .inr (3, [.int hire_v_signs, .int hire_v_works, .int hire_v_whole, .int hire_v_otherwise, .int hire_v_least, .int hire_v_rates, .ref hire_a_brings, .ref hire_a_costs, .ref hire_a_chances, .ref hire_a_rate, .ref hire_a_mark])), (hire_a_rate, .inl (k_hire_a_rate, 3, .inl f_hire_a_rate)), (hire_a_mark, .inl (k_hire_a_mark, 2, .inl f_hire_a_mark))] sz) := by
  refine Met.ofW (cc := cX9_feeling) (maxL := 2) (ret := (some .int)) (by decide) rfl ?_
  intro p e s m args below meth c s₁ B hml hv
  obtain ⟨rfl, hsz, hP, hK, hD0⟩ := hv
  have hx := B.exec
  have hb := B.bytes
  have hr := B.returns
  have hts := atoms_spec (ws := wsX9_feeling) B.pre
  have hown : s.vm.findClass RX9 = some m.cls := findClass_of_methodNamed B.named
  have hlocks := B.notSynchronized
  subst hsz
  have hD := hD0.self (sz := s.heap.size)
  generalize hAe : va_A [(o, .inr (9, [.ref o_reader, .ref o_hire, .ref a_hand, .ref o_latest, .ref o_trial, .ref o_champion, .ref a_wageUpper, .ref a_wageLower, .int v_hasWages, .ref o_cheapest, .ref o_oneSum, .ref o_coinSearch, .ref o_proofs, .ref o_diary])), (o_hire, .inr (3, [.int hire_v_signs, .int hire_v_works, .int hire_v_whole, .int hire_v_otherwise, .int hire_v_least, .int hire_v_rates, .ref hire_a_brings, .ref hire_a_costs, .ref hire_a_chances, .ref hire_a_rate, .ref hire_a_mark])), (hire_a_rate, .inl (k_hire_a_rate, 3, .inl f_hire_a_rate)), (hire_a_mark, .inl (k_hire_a_mark, 2, .inl f_hire_a_mark))] s.heap.size = A at hD ⊢
  have hA : ∀ q : Nat, s.heap.size ≤ q → A q := fun q h => by rw [← hAe]; exact Or.inr h
  have hS : va_S A s.heap s.heap [] := va_S.rf
  have hP : va_P (dC, dI) vwCl [(o, .inr (9, [.ref o_reader, .ref o_hire, .ref a_hand, .ref o_latest, .ref o_trial, .ref o_champion, .ref a_wageUpper, .ref a_wageLower, .int v_hasWages, .ref o_cheapest, .ref o_oneSum, .ref o_coinSearch, .ref o_proofs, .ref o_diary])), (o_hire, .inr (3, [.int hire_v_signs, .int hire_v_works, .int hire_v_whole, .int hire_v_otherwise, .int hire_v_least, .int hire_v_rates, .ref hire_a_brings, .ref hire_a_costs, .ref hire_a_chances, .ref hire_a_rate, .ref hire_a_mark])), (hire_a_rate, .inl (k_hire_a_rate, 3, .inl f_hire_a_rate)), (hire_a_mark, .inl (k_hire_a_mark, 2, .inl f_hire_a_mark))] s.heap := hP
  have hl := lv_entry ([.ref o, .int p0]) (n := 2) (Nat.le_of_ble_eq_true rfl)
  rw [lg_entry_eq]
  generalize (lg_sl ([.ref o, .int p0]) ++ List.replicate (2 - (lg_sl ([.ref o, .int p0])).length) Slot.unset).toArray = ls at hl ⊢
  have hl : lv_has ls 2 [(0, .ref o), (1, .int p0)] := hl
  refine lv_iload_n hx hb dX9_feeling_0 rfl (lv_at hl 1 rfl) ?_
  have bp0 := i32_rng p0
  refine lv_if_lt (tgt := 11) hx hb dX9_feeling_1 (by decide) (fun c1 => ?_) (fun c1 => ?_)
  · have c19 := i32_lt c1 rfl (show (0 : Int32).toInt = 0 by decide)
    refine lv_bipush (v := (-2)) hx hb dX9_feeling_11 (by decide) ?_
    refine lv_goto (tgt := 24) hx hb dX9_feeling_13 (by decide) ?_
    have hP9 := hP.sub (ws' := [(o, .inr (9, [.ref o_reader, .ref o_hire, .ref a_hand, .ref o_latest, .ref o_trial, .ref o_champion, .ref a_wageUpper, .ref a_wageLower, .int v_hasWages, .ref o_cheapest, .ref o_oneSum, .ref o_coinSearch, .ref o_proofs, .ref o_diary])), (o_hire, .inr (3, [.int hire_v_signs, .int hire_v_works, .int hire_v_whole, .int hire_v_otherwise, .int hire_v_least, .int hire_v_rates, .ref hire_a_brings, .ref hire_a_costs, .ref hire_a_chances, .ref hire_a_rate, .ref hire_a_mark])), (hire_a_rate, .inl (k_hire_a_rate, 3, .inl f_hire_a_rate)), (hire_a_mark, .inl (k_hire_a_mark, 2, .inl f_hire_a_mark))]) [0, 1, 2, 3] rfl
    have hD9 := hD.sub (ws' := [(o, .inr (9, [.ref o_reader, .ref o_hire, .ref a_hand, .ref o_latest, .ref o_trial, .ref o_champion, .ref a_wageUpper, .ref a_wageLower, .int v_hasWages, .ref o_cheapest, .ref o_oneSum, .ref o_coinSearch, .ref o_proofs, .ref o_diary])), (o_hire, .inr (3, [.int hire_v_signs, .int hire_v_works, .int hire_v_whole, .int hire_v_otherwise, .int hire_v_least, .int hire_v_rates, .ref hire_a_brings, .ref hire_a_costs, .ref hire_a_chances, .ref hire_a_rate, .ref hire_a_mark])), (hire_a_rate, .inl (k_hire_a_rate, 3, .inl f_hire_a_rate)), (hire_a_mark, .inl (k_hire_a_mark, 2, .inl f_hire_a_mark))]) [0, 1, 2, 3] (by decide) rfl
    exact W.iret (v := (-2)) hx hb hr (fun t ht hW => ⟨⟨(-2), (-2), rfl, rfl, by rw [ht]; exact hP9, hD9⟩, hS.F ht⟩) hS.2.2 dX9_feeling_24
  · have c19 := i32_nlt c1 rfl (show (0 : Int32).toInt = 0 by decide)
    refine lv_iload_n hx hb dX9_feeling_4 rfl (lv_at hl 1 rfl) ?_
    refine lv_sipush (v := 9999) hx hb dX9_feeling_5 (by decide) ?_
    refine lv_icmp_le (tgt := 16) hx hb dX9_feeling_8 (by decide) (fun c2 => ?_) (fun c2 => ?_)
    · have c29 := i32_le c2 rfl (show (9999 : Int32).toInt = 9999 by decide)
      refine lv_aload_n hx hb dX9_feeling_16 rfl (lv_at hl 0 rfl) ?_
      refine va_get (D := (dC, dI)) (ci := 9) (v := .ref o_hire) (C := RX9) (T := TX9) (N := 14) hx hb hts iw_X9_feeling_X9 hown hK hP 0 rfl rfl 1 (by decide) (hts _ kk_X9_feeling_0) (fun _ h9 => h9) rfl dX9_feeling_17 ?_
      refine lv_iload_n hx hb dX9_feeling_20 rfl (lv_at hl 1 rfl) ?_
      have hPc := hP.sub (ws' := [(o_hire, .inr (3, [.int hire_v_signs, .int hire_v_works, .int hire_v_whole, .int hire_v_otherwise, .int hire_v_least, .int hire_v_rates, .ref hire_a_brings, .ref hire_a_costs, .ref hire_a_chances, .ref hire_a_rate, .ref hire_a_mark])), (hire_a_rate, .inl (k_hire_a_rate, 3, .inl f_hire_a_rate)), (hire_a_mark, .inl (k_hire_a_mark, 2, .inl f_hire_a_mark))]) [1, 2, 3] rfl
      have hDc := hD.sub (ws' := [(o_hire, .inr (3, [.int hire_v_signs, .int hire_v_works, .int hire_v_whole, .int hire_v_otherwise, .int hire_v_least, .int hire_v_rates, .ref hire_a_brings, .ref hire_a_costs, .ref hire_a_chances, .ref hire_a_rate, .ref hire_a_mark])), (hire_a_rate, .inl (k_hire_a_rate, 3, .inl f_hire_a_rate)), (hire_a_mark, .inl (k_hire_a_mark, 2, .inl f_hire_a_mark))]) [1, 2, 3] (by decide) rfl
      have hKc := hK.sub (tys' := [(k_hire_a_rate, .int), (k_hire_a_mark, .int)]) [0, 1] rfl
      have hFc := va_free (wc := [(o_hire, .inr (3, [.int hire_v_signs, .int hire_v_works, .int hire_v_whole, .int hire_v_otherwise, .int hire_v_least, .int hire_v_rates, .ref hire_a_brings, .ref hire_a_costs, .ref hire_a_chances, .ref hire_a_rate, .ref hire_a_mark])), (hire_a_rate, .inl (k_hire_a_rate, 3, .inl f_hire_a_rate)), (hire_a_mark, .inl (k_hire_a_mark, 2, .inl f_hire_a_mark))]) hD hS hA [1, 2, 3] rfl
      refine va_calli (va_runV (As := [.int p0]) (rest := []) ⟨hx, hb, hml, hown, hts⟩ (ct_X3_feltOf l dC dI o_hire p0 hire_v_signs hire_v_works hire_v_whole hire_v_otherwise hire_v_least hire_v_rates hire_a_brings hire_a_costs hire_a_chances hire_a_rate hire_a_mark k_hire_a_rate f_hire_a_rate k_hire_a_mark f_hire_a_mark hhire_v_rates s.heap.size) (cwV 1 hts gX9_feeling_X3_feltOf rfl rfl rfl (by decide +kernel) ⟨Nat.le_of_ble_eq_true rfl, Nat.le_of_ble_eq_true rfl⟩) ⟨fun a U g mk q => by obtain ⟨q0, q1, qP, qK, qD⟩ := q; exact ⟨q0, q1, qP, va_K.moved (u := U) (U := U.calling g mk a) (Vm.Alike.refl U.vm) qK, qD⟩, va_recv hKc hPc (ci := 3) (q0 := 0) rfl rfl, fun U hU hW => ⟨rfl, by rw [hU], by rw [hU]; exact hPc, va_K.moved hW.alike hKc, hDc.weaken (fun _ _ _ _ => trivial)⟩⟩ rfl rfl hl.1 rfl (lv_room (Nat.le_of_ble_eq_true rfl)) dX9_feeling_21 ⟨Nat.le_of_ble_eq_true rfl, Nat.le_of_ble_eq_true rfl⟩) hS (fun q _ h => hFc q h) hFc (fun r3 u t H1 locs ht hvm hw hB hz1 hk1 hS => ?_)
      have hw : r3 = u := hw.symm
      subst hw
      obtain ⟨hP1, hD1⟩ := hB
      rw [ht] at hP1
      obtain ⟨hP, hD⟩ := va_join (wr := [(o, .inr (9, [.ref o_reader, .ref o_hire, .ref a_hand, .ref o_latest, .ref o_trial, .ref o_champion, .ref a_wageUpper, .ref a_wageLower, .int v_hasWages, .ref o_cheapest, .ref o_oneSum, .ref o_coinSearch, .ref o_proofs, .ref o_diary]))]) (w1 := [(o_hire, .inr (3, [.int hire_v_signs, .int hire_v_works, .int hire_v_whole, .int hire_v_otherwise, .int hire_v_least, .int hire_v_rates, .ref hire_a_brings, .ref hire_a_costs, .ref hire_a_chances, .ref hire_a_rate, .ref hire_a_mark])), (hire_a_rate, .inl (k_hire_a_rate, 3, .inl f_hire_a_rate)), (hire_a_mark, .inl (k_hire_a_mark, 2, .inl f_hire_a_mark))]) hP hD [1, 2, 3] [0] rfl rfl (by decide) (by decide) hk1 hFc hP1 hD1
      clear hPc hDc hKc hFc hP1 hD1 hk1 hz1
      generalize H1 = H at hP hS ⊢
      have hP : va_P (dC, dI) vwCl [(o, .inr (9, [.ref o_reader, .ref o_hire, .ref a_hand, .ref o_latest, .ref o_trial, .ref o_champion, .ref a_wageUpper, .ref a_wageLower, .int v_hasWages, .ref o_cheapest, .ref o_oneSum, .ref o_coinSearch, .ref o_proofs, .ref o_diary])), (o_hire, .inr (3, [.int hire_v_signs, .int hire_v_works, .int hire_v_whole, .int hire_v_otherwise, .int hire_v_least, .int hire_v_rates, .ref hire_a_brings, .ref hire_a_costs, .ref hire_a_chances, .ref hire_a_rate, .ref hire_a_mark])), (hire_a_rate, .inl (k_hire_a_rate, 3, .inl f_hire_a_rate)), (hire_a_mark, .inl (k_hire_a_mark, 2, .inl f_hire_a_mark))] H := hP
      have hD : va_D A [(o, .inr (9, [.ref o_reader, .ref o_hire, .ref a_hand, .ref o_latest, .ref o_trial, .ref o_champion, .ref a_wageUpper, .ref a_wageLower, .int v_hasWages, .ref o_cheapest, .ref o_oneSum, .ref o_coinSearch, .ref o_proofs, .ref o_diary])), (o_hire, .inr (3, [.int hire_v_signs, .int hire_v_works, .int hire_v_whole, .int hire_v_otherwise, .int hire_v_least, .int hire_v_rates, .ref hire_a_brings, .ref hire_a_costs, .ref hire_a_chances, .ref hire_a_rate, .ref hire_a_mark])), (hire_a_rate, .inl (k_hire_a_rate, 3, .inl f_hire_a_rate)), (hire_a_mark, .inl (k_hire_a_mark, 2, .inl f_hire_a_mark))] := hD
      refine W.widen (k := 0) (n := 0) (by decide) (by decide) ?_
      have hP9 := hP.sub (ws' := [(o, .inr (9, [.ref o_reader, .ref o_hire, .ref a_hand, .ref o_latest, .ref o_trial, .ref o_champion, .ref a_wageUpper, .ref a_wageLower, .int v_hasWages, .ref o_cheapest, .ref o_oneSum, .ref o_coinSearch, .ref o_proofs, .ref o_diary])), (o_hire, .inr (3, [.int hire_v_signs, .int hire_v_works, .int hire_v_whole, .int hire_v_otherwise, .int hire_v_least, .int hire_v_rates, .ref hire_a_brings, .ref hire_a_costs, .ref hire_a_chances, .ref hire_a_rate, .ref hire_a_mark])), (hire_a_rate, .inl (k_hire_a_rate, 3, .inl f_hire_a_rate)), (hire_a_mark, .inl (k_hire_a_mark, 2, .inl f_hire_a_mark))]) [0, 1, 2, 3] rfl
      have hD9 := hD.sub (ws' := [(o, .inr (9, [.ref o_reader, .ref o_hire, .ref a_hand, .ref o_latest, .ref o_trial, .ref o_champion, .ref a_wageUpper, .ref a_wageLower, .int v_hasWages, .ref o_cheapest, .ref o_oneSum, .ref o_coinSearch, .ref o_proofs, .ref o_diary])), (o_hire, .inr (3, [.int hire_v_signs, .int hire_v_works, .int hire_v_whole, .int hire_v_otherwise, .int hire_v_least, .int hire_v_rates, .ref hire_a_brings, .ref hire_a_costs, .ref hire_a_chances, .ref hire_a_rate, .ref hire_a_mark])), (hire_a_rate, .inl (k_hire_a_rate, 3, .inl f_hire_a_rate)), (hire_a_mark, .inl (k_hire_a_mark, 2, .inl f_hire_a_mark))]) [0, 1, 2, 3] (by decide) rfl
      exact W.iret (v := r3) hx hb hr (fun t ht hW => ⟨⟨r3, r3, rfl, rfl, by rw [ht]; exact hP9, hD9⟩, hS.F ht⟩) hS.2.2 dX9_feeling_24
    · have c29 := i32_nle c2 rfl (show (9999 : Int32).toInt = 9999 by decide)
      refine lv_bipush (v := (-2)) hx hb dX9_feeling_11 (by decide) ?_
      refine lv_goto (tgt := 24) hx hb dX9_feeling_13 (by decide) ?_
      have hP9 := hP.sub (ws' := [(o, .inr (9, [.ref o_reader, .ref o_hire, .ref a_hand, .ref o_latest, .ref o_trial, .ref o_champion, .ref a_wageUpper, .ref a_wageLower, .int v_hasWages, .ref o_cheapest, .ref o_oneSum, .ref o_coinSearch, .ref o_proofs, .ref o_diary])), (o_hire, .inr (3, [.int hire_v_signs, .int hire_v_works, .int hire_v_whole, .int hire_v_otherwise, .int hire_v_least, .int hire_v_rates, .ref hire_a_brings, .ref hire_a_costs, .ref hire_a_chances, .ref hire_a_rate, .ref hire_a_mark])), (hire_a_rate, .inl (k_hire_a_rate, 3, .inl f_hire_a_rate)), (hire_a_mark, .inl (k_hire_a_mark, 2, .inl f_hire_a_mark))]) [0, 1, 2, 3] rfl
      have hD9 := hD.sub (ws' := [(o, .inr (9, [.ref o_reader, .ref o_hire, .ref a_hand, .ref o_latest, .ref o_trial, .ref o_champion, .ref a_wageUpper, .ref a_wageLower, .int v_hasWages, .ref o_cheapest, .ref o_oneSum, .ref o_coinSearch, .ref o_proofs, .ref o_diary])), (o_hire, .inr (3, [.int hire_v_signs, .int hire_v_works, .int hire_v_whole, .int hire_v_otherwise, .int hire_v_least, .int hire_v_rates, .ref hire_a_brings, .ref hire_a_costs, .ref hire_a_chances, .ref hire_a_rate, .ref hire_a_mark])), (hire_a_rate, .inl (k_hire_a_rate, 3, .inl f_hire_a_rate)), (hire_a_mark, .inl (k_hire_a_mark, 2, .inl f_hire_a_mark))]) [0, 1, 2, 3] (by decide) rfl
      exact W.iret (v := (-2)) hx hb hr (fun t ht hW => ⟨⟨(-2), (-2), rfl, rfl, by rw [ht]; exact hP9, hD9⟩, hS.F ht⟩) hS.2.2 dX9_feeling_24

set_option maxHeartbeats 4000000 in
set_option maxRecDepth 100000 in
theorem ct_X9_wage (l : Launch) (dC : Nat → ClassId) (dI : Nat → Nat → Nat) (o : Nat) (p0 : Int32) (p1 : Int32) (o_reader : Nat) (o_hire : Nat) (a_hand : Nat) (o_latest : Nat) (o_trial : Nat) (o_champion : Nat) (a_wageUpper : Nat) (a_wageLower : Nat) (v_hasWages : Int32) (o_cheapest : Nat) (o_oneSum : Nat) (o_coinSearch : Nat) (o_proofs : Nat) (o_diary : Nat) (hire_v_signs : Int32) (hire_v_works : Int32) (hire_v_whole : Int32) (hire_v_otherwise : Int32) (hire_v_least : Int32) (hire_v_rates : Int32) (hire_a_brings : Nat) (hire_a_costs : Nat) (hire_a_chances : Nat) (hire_a_rate : Nat) (hire_a_mark : Nat) (k_a_hand : ClassId) (f_a_hand : Nat → Int32) (hhire_v_signs : iv hire_v_signs 0 4) (sz : Nat) : Met l yX9_wage wsX9_wage ({ frames := 1, cells := 0, slots := 0, locals := 21 }) (va_Pc [.ref o, .int p0, .int p1] (fun U => U.heap.size = sz ∧ va_P (dC, dI) vwCl [(o, .inr (9, [.ref o_reader, .ref o_hire, .ref a_hand, .ref o_latest, .ref o_trial, .ref o_champion, .ref a_wageUpper, .ref a_wageLower, .int v_hasWages, .ref o_cheapest, .ref o_oneSum, .ref o_coinSearch, .ref o_proofs, .ref o_diary])), (o_hire, .inr (3, [.int hire_v_signs, .int hire_v_works, .int hire_v_whole, .int hire_v_otherwise, .int hire_v_least, .int hire_v_rates, .ref hire_a_brings, .ref hire_a_costs, .ref hire_a_chances, .ref hire_a_rate, .ref hire_a_mark])), (a_hand, .inl (k_a_hand, 4, .inl f_a_hand))] U.heap ∧ va_K (dC, dI) vwCl [(k_a_hand, .int)] U ∧ va_D (fun _ => True) [(o, .inr (9, [.ref o_reader, .ref o_hire, .ref a_hand, .ref o_latest, .ref o_trial, .ref o_champion, .ref a_wageUpper, .ref a_wageLower, .int v_hasWages, .ref o_cheapest, .ref o_oneSum, .ref o_coinSearch, .ref o_proofs, .ref o_diary])), (o_hire, .inr (3, [.int hire_v_signs, .int hire_v_works, .int hire_v_whole, .int hire_v_otherwise, .int hire_v_least, .int hire_v_rates, .ref hire_a_brings, .ref hire_a_costs, .ref hire_a_chances, .ref hire_a_rate, .ref hire_a_mark])), (a_hand, .inl (k_a_hand, 4, .inl f_a_hand))])) (va_Qi (fun (r u : Int32) => u = r) (fun (r : Int32) t => ∃ (e_f_a_hand : Nat → Int32), va_P (dC, dI) vwCl [(o, .inr (9, [.ref o_reader, .ref o_hire, .ref a_hand, .ref o_latest, .ref o_trial, .ref o_champion, .ref a_wageUpper, .ref a_wageLower, .int v_hasWages, .ref o_cheapest, .ref o_oneSum, .ref o_coinSearch, .ref o_proofs, .ref o_diary])), (o_hire, .inr (3, [.int hire_v_signs, .int hire_v_works, .int hire_v_whole, .int hire_v_otherwise, .int hire_v_least, .int hire_v_rates, .ref hire_a_brings, .ref hire_a_costs, .ref hire_a_chances, .ref hire_a_rate, .ref hire_a_mark])), (a_hand, .inl (k_a_hand, 4, .inl e_f_a_hand))] t.heap ∧ va_D (va_A [(o, .inr (9, [.ref o_reader, .ref o_hire, .ref a_hand, .ref o_latest, .ref o_trial, .ref o_champion, .ref a_wageUpper, .ref a_wageLower, .int v_hasWages, .ref o_cheapest, .ref o_oneSum, .ref o_coinSearch, .ref o_proofs, .ref o_diary])), (o_hire, .inr (3, [.int hire_v_signs, .int hire_v_works, .int hire_v_whole, .int hire_v_otherwise, .int hire_v_least, .int hire_v_rates, .ref hire_a_brings, .ref hire_a_costs, .ref hire_a_chances, .ref hire_a_rate, .ref hire_a_mark])), (a_hand, .inl (k_a_hand, 4, .inl f_a_hand))] sz) [(o, .inr (9, [.ref o_reader, .ref o_hire, .ref a_hand, .ref o_latest, .ref o_trial, .ref o_champion, .ref a_wageUpper, .ref a_wageLower, .int v_hasWages, .ref o_cheapest, .ref o_oneSum, .ref o_coinSearch, .ref o_proofs, .ref o_diary])), (o_hire, .inr (3, [.int hire_v_signs, .int hire_v_works, .int hire_v_whole, .int hire_v_otherwise, .int hire_v_least, .int hire_v_rates, .ref hire_a_brings, .ref hire_a_costs, .ref hire_a_chances, .ref hire_a_rate, .ref hire_a_mark])), (a_hand, .inl (k_a_hand, 4, .inl e_f_a_hand))]) (va_A [(o, .inr (9, [.ref o_reader, .ref o_hire, .ref a_hand, .ref o_latest, .ref o_trial, .ref o_champion, .ref a_wageUpper, .ref a_wageLower, .int v_hasWages, .ref o_cheapest, .ref o_oneSum, .ref o_coinSearch, .ref o_proofs, .ref o_diary])), (o_hire, .inr (3, [.int hire_v_signs, .int hire_v_works, .int hire_v_whole, .int hire_v_otherwise, .int hire_v_least, .int hire_v_rates, .ref hire_a_brings, .ref hire_a_costs, .ref hire_a_chances, .ref hire_a_rate, .ref hire_a_mark])), (a_hand, .inl (k_a_hand, 4, .inl f_a_hand))] sz)) 0 0 (va_A [(o, .inr (9, [.ref o_reader, .ref o_hire, .ref a_hand, .ref o_latest, .ref o_trial, .ref o_champion, .ref a_wageUpper, .ref a_wageLower, .int v_hasWages, .ref o_cheapest, .ref o_oneSum, .ref o_coinSearch, .ref o_proofs, .ref o_diary])), (o_hire, .inr (3, [.int hire_v_signs, .int hire_v_works, .int hire_v_whole, .int hire_v_otherwise, .int hire_v_least, .int hire_v_rates, .ref hire_a_brings, .ref hire_a_costs, .ref hire_a_chances, .ref hire_a_rate, .ref hire_a_mark])), (a_hand, .inl (k_a_hand, 4, .inl f_a_hand))] sz) := by
  refine Met.ofW (cc := cX9_wage) (maxL := 4) (ret := (some .int)) (by decide) rfl ?_
  intro p e s m args below meth c s₁ B hml hv
  obtain ⟨rfl, hsz, hP, hK, hD0⟩ := hv
  have hx := B.exec
  have hb := B.bytes
  have hr := B.returns
  have hts := atoms_spec (ws := wsX9_wage) B.pre
  have hown : s.vm.findClass RX9 = some m.cls := findClass_of_methodNamed B.named
  have hlocks := B.notSynchronized
  subst hsz
  have hD := hD0.self (sz := s.heap.size)
  generalize hAe : va_A [(o, .inr (9, [.ref o_reader, .ref o_hire, .ref a_hand, .ref o_latest, .ref o_trial, .ref o_champion, .ref a_wageUpper, .ref a_wageLower, .int v_hasWages, .ref o_cheapest, .ref o_oneSum, .ref o_coinSearch, .ref o_proofs, .ref o_diary])), (o_hire, .inr (3, [.int hire_v_signs, .int hire_v_works, .int hire_v_whole, .int hire_v_otherwise, .int hire_v_least, .int hire_v_rates, .ref hire_a_brings, .ref hire_a_costs, .ref hire_a_chances, .ref hire_a_rate, .ref hire_a_mark])), (a_hand, .inl (k_a_hand, 4, .inl f_a_hand))] s.heap.size = A at hD ⊢
  have hA : ∀ q : Nat, s.heap.size ≤ q → A q := fun q h => by rw [← hAe]; exact Or.inr h
  have hS : va_S A s.heap s.heap [] := va_S.rf
  have hP : va_P (dC, dI) vwCl [(o, .inr (9, [.ref o_reader, .ref o_hire, .ref a_hand, .ref o_latest, .ref o_trial, .ref o_champion, .ref a_wageUpper, .ref a_wageLower, .int v_hasWages, .ref o_cheapest, .ref o_oneSum, .ref o_coinSearch, .ref o_proofs, .ref o_diary])), (o_hire, .inr (3, [.int hire_v_signs, .int hire_v_works, .int hire_v_whole, .int hire_v_otherwise, .int hire_v_least, .int hire_v_rates, .ref hire_a_brings, .ref hire_a_costs, .ref hire_a_chances, .ref hire_a_rate, .ref hire_a_mark])), (a_hand, .inl (k_a_hand, 4, .inl f_a_hand))] s.heap := hP
  have hl := lv_entry ([.ref o, .int p0, .int p1]) (n := 4) (Nat.le_of_ble_eq_true rfl)
  rw [lg_entry_eq]
  generalize (lg_sl ([.ref o, .int p0, .int p1]) ++ List.replicate (4 - (lg_sl ([.ref o, .int p0, .int p1])).length) Slot.unset).toArray = ls at hl ⊢
  have hl : lv_has ls 4 [(0, .ref o), (1, .int p0), (2, .int p1)] := hl
  refine lv_aload_n hx hb dX9_wage_0 rfl (lv_at hl 0 rfl) ?_
  refine lv_iload_n hx hb dX9_wage_1 rfl (lv_at hl 1 rfl) ?_
  have hPc := hP.sub (ws' := [(o, .inr (9, [.ref o_reader, .ref o_hire, .ref a_hand, .ref o_latest, .ref o_trial, .ref o_champion, .ref a_wageUpper, .ref a_wageLower, .int v_hasWages, .ref o_cheapest, .ref o_oneSum, .ref o_coinSearch, .ref o_proofs, .ref o_diary])), (o_hire, .inr (3, [.int hire_v_signs, .int hire_v_works, .int hire_v_whole, .int hire_v_otherwise, .int hire_v_least, .int hire_v_rates, .ref hire_a_brings, .ref hire_a_costs, .ref hire_a_chances, .ref hire_a_rate, .ref hire_a_mark]))]) [0, 1] rfl
  have hDc := hD.sub (ws' := [(o, .inr (9, [.ref o_reader, .ref o_hire, .ref a_hand, .ref o_latest, .ref o_trial, .ref o_champion, .ref a_wageUpper, .ref a_wageLower, .int v_hasWages, .ref o_cheapest, .ref o_oneSum, .ref o_coinSearch, .ref o_proofs, .ref o_diary])), (o_hire, .inr (3, [.int hire_v_signs, .int hire_v_works, .int hire_v_whole, .int hire_v_otherwise, .int hire_v_least, .int hire_v_rates, .ref hire_a_brings, .ref hire_a_costs, .ref hire_a_chances, .ref hire_a_rate, .ref hire_a_mark]))]) [0, 1] (by decide) rfl
  have hKc := hK.sub (tys' := []) [] rfl
  have hFc := va_free (wc := [(o, .inr (9, [.ref o_reader, .ref o_hire, .ref a_hand, .ref o_latest, .ref o_trial, .ref o_champion, .ref a_wageUpper, .ref a_wageLower, .int v_hasWages, .ref o_cheapest, .ref o_oneSum, .ref o_coinSearch, .ref o_proofs, .ref o_diary])), (o_hire, .inr (3, [.int hire_v_signs, .int hire_v_works, .int hire_v_whole, .int hire_v_otherwise, .int hire_v_least, .int hire_v_rates, .ref hire_a_brings, .ref hire_a_costs, .ref hire_a_chances, .ref hire_a_rate, .ref hire_a_mark]))]) hD hS hA [0, 1] rfl
  refine va_calli (va_runV (As := [.int p0]) (rest := []) ⟨hx, hb, hml, hown, hts⟩ (ct_X9_isSign l dC dI o p0 o_reader o_hire a_hand o_latest o_trial o_champion a_wageUpper a_wageLower v_hasWages o_cheapest o_oneSum o_coinSearch o_proofs o_diary hire_v_signs hire_v_works hire_v_whole hire_v_otherwise hire_v_least hire_v_rates hire_a_brings hire_a_costs hire_a_chances hire_a_rate hire_a_mark hhire_v_signs s.heap.size) (cwV 1 hts gX9_wage_X9_isSign rfl rfl rfl (by decide +kernel) ⟨Nat.le_of_ble_eq_true rfl, Nat.le_of_ble_eq_true rfl⟩) ⟨fun a U g mk q => by obtain ⟨q0, q1, qP, qK, qD⟩ := q; exact ⟨q0, q1, qP, va_K.moved (u := U) (U := U.calling g mk a) (Vm.Alike.refl U.vm) qK, qD⟩, va_recv hKc hPc (ci := 9) (q0 := 0) rfl rfl, fun U hU hW => ⟨rfl, by rw [hU], by rw [hU]; exact hPc, va_K.moved hW.alike hKc, hDc.weaken (fun _ _ _ _ => trivial)⟩⟩ rfl rfl hl.1 rfl (lv_room (Nat.le_of_ble_eq_true rfl)) dX9_wage_2 ⟨Nat.le_of_ble_eq_true rfl, Nat.le_of_ble_eq_true rfl⟩) hS (fun q _ h => hFc q h) hFc (fun r1 u t H1 locs ht hvm hw hB hz1 hk1 hS => ?_)
  have hw : r1 = u := hw.symm
  subst hw
  obtain ⟨w2, hP1, hD1⟩ := hB
  rw [ht] at hP1
  obtain ⟨hP, hD⟩ := va_join (wr := [(a_hand, .inl (k_a_hand, 4, .inl f_a_hand))]) (w1 := [(o, .inr (9, [.ref o_reader, .ref o_hire, .ref a_hand, .ref o_latest, .ref o_trial, .ref o_champion, .ref a_wageUpper, .ref a_wageLower, .int v_hasWages, .ref o_cheapest, .ref o_oneSum, .ref o_coinSearch, .ref o_proofs, .ref o_diary])), (o_hire, .inr (3, [.int hire_v_signs, .int hire_v_works, .int hire_v_whole, .int hire_v_otherwise, .int hire_v_least, .int hire_v_rates, .ref hire_a_brings, .ref hire_a_costs, .ref hire_a_chances, .ref hire_a_rate, .ref hire_a_mark]))]) hP hD [0, 1] [2] rfl rfl (by decide) (by decide) hk1 hFc hP1 hD1
  clear hPc hDc hKc hFc hP1 hD1 hk1 hz1
  generalize H1 = H at hP hS ⊢
  have hP : va_P (dC, dI) vwCl [(a_hand, .inl (k_a_hand, 4, .inl f_a_hand)), (o, .inr (9, [.ref o_reader, .ref o_hire, .ref a_hand, .ref o_latest, .ref o_trial, .ref o_champion, .ref a_wageUpper, .ref a_wageLower, .int v_hasWages, .ref o_cheapest, .ref o_oneSum, .ref o_coinSearch, .ref o_proofs, .ref o_diary])), (o_hire, .inr (3, [.int hire_v_signs, .int hire_v_works, .int hire_v_whole, .int hire_v_otherwise, .int hire_v_least, .int hire_v_rates, .ref hire_a_brings, .ref hire_a_costs, .ref hire_a_chances, .ref hire_a_rate, .ref hire_a_mark]))] H := hP
  have hD : va_D A [(a_hand, .inl (k_a_hand, 4, .inl f_a_hand)), (o, .inr (9, [.ref o_reader, .ref o_hire, .ref a_hand, .ref o_latest, .ref o_trial, .ref o_champion, .ref a_wageUpper, .ref a_wageLower, .int v_hasWages, .ref o_cheapest, .ref o_oneSum, .ref o_coinSearch, .ref o_proofs, .ref o_diary])), (o_hire, .inr (3, [.int hire_v_signs, .int hire_v_works, .int hire_v_whole, .int hire_v_otherwise, .int hire_v_least, .int hire_v_rates, .ref hire_a_brings, .ref hire_a_costs, .ref hire_a_chances, .ref hire_a_rate, .ref hire_a_mark]))] := hD
  refine W.widen (k := 0) (n := 0) (by decide) (by decide) ?_
  rcases w2 with hr9 | ⟨hr9, w2_1_0, w2_1_1⟩
  · subst hr9
    have bp0 := i32_rng p0
    have bhire_v_signs := hhire_v_signs.u
    refine lv_if_eq (tgt := 26) hx hb dX9_wage_5 (by decide) (fun _ => ?_) (fun cz => absurd cz (by decide))
    refine lv_bipush (v := (-2)) hx hb dX9_wage_26 (by decide) ?_
    have hP9 := hP.sub (ws' := [(o, .inr (9, [.ref o_reader, .ref o_hire, .ref a_hand, .ref o_latest, .ref o_trial, .ref o_champion, .ref a_wageUpper, .ref a_wageLower, .int v_hasWages, .ref o_cheapest, .ref o_oneSum, .ref o_coinSearch, .ref o_proofs, .ref o_diary])), (o_hire, .inr (3, [.int hire_v_signs, .int hire_v_works, .int hire_v_whole, .int hire_v_otherwise, .int hire_v_least, .int hire_v_rates, .ref hire_a_brings, .ref hire_a_costs, .ref hire_a_chances, .ref hire_a_rate, .ref hire_a_mark])), (a_hand, .inl (k_a_hand, 4, .inl f_a_hand))]) [1, 2, 0] rfl
    have hD9 := hD.sub (ws' := [(o, .inr (9, [.ref o_reader, .ref o_hire, .ref a_hand, .ref o_latest, .ref o_trial, .ref o_champion, .ref a_wageUpper, .ref a_wageLower, .int v_hasWages, .ref o_cheapest, .ref o_oneSum, .ref o_coinSearch, .ref o_proofs, .ref o_diary])), (o_hire, .inr (3, [.int hire_v_signs, .int hire_v_works, .int hire_v_whole, .int hire_v_otherwise, .int hire_v_least, .int hire_v_rates, .ref hire_a_brings, .ref hire_a_costs, .ref hire_a_chances, .ref hire_a_rate, .ref hire_a_mark])), (a_hand, .inl (k_a_hand, 4, .inl f_a_hand))]) [1, 2, 0] (by decide) rfl
    exact W.iret (v := (-2)) hx hb hr (fun t ht hW => ⟨⟨(-2), (-2), rfl, rfl, f_a_hand, by rw [ht]; exact hP9, hD9⟩, hS.F ht⟩) hS.2.2 dX9_wage_28
  · subst hr9
    have bp0 := i32_rng p0
    have bhire_v_signs := hhire_v_signs.u
    refine lv_if_eq (tgt := 26) hx hb dX9_wage_5 (by decide) (fun cz => absurd cz (by decide)) (fun _ => ?_)
    refine lv_iload_n hx hb dX9_wage_8 rfl (lv_at hl 2 rfl) ?_
    refine lv_aload_n hx hb dX9_wage_9 rfl (lv_at hl 0 rfl) ?_
    refine va_get (D := (dC, dI)) (ci := 9) (v := .ref o_hire) (C := RX9) (T := TX9) (N := 14) hx hb hts iw_X9_wage_X9 hown hK hP 1 rfl rfl 1 (by decide) (hts _ kk_X9_wage_0) (fun _ h9 => h9) rfl dX9_wage_10 ?_
    refine va_get (D := (dC, dI)) (ci := 3) (v := .int hire_v_least) (C := RX3) (T := TX3) (N := 11) hx hb hts iw_X9_wage_X3 hown hK hP 2 rfl rfl 4 (by decide) (hts _ kk_X9_wage_1) (fun _ h9 => h9) rfl dX9_wage_13 ?_
    have bp1 := i32_rng p1
    have bhire_v_least := i32_rng hire_v_least
    refine lv_icmp_lt (tgt := 26) hx hb dX9_wage_16 (by decide) (fun c3 => ?_) (fun c3 => ?_)
    · have c39 := i32_lt c3 rfl rfl
      refine lv_bipush (v := (-2)) hx hb dX9_wage_26 (by decide) ?_
      have hP9 := hP.sub (ws' := [(o, .inr (9, [.ref o_reader, .ref o_hire, .ref a_hand, .ref o_latest, .ref o_trial, .ref o_champion, .ref a_wageUpper, .ref a_wageLower, .int v_hasWages, .ref o_cheapest, .ref o_oneSum, .ref o_coinSearch, .ref o_proofs, .ref o_diary])), (o_hire, .inr (3, [.int hire_v_signs, .int hire_v_works, .int hire_v_whole, .int hire_v_otherwise, .int hire_v_least, .int hire_v_rates, .ref hire_a_brings, .ref hire_a_costs, .ref hire_a_chances, .ref hire_a_rate, .ref hire_a_mark])), (a_hand, .inl (k_a_hand, 4, .inl f_a_hand))]) [1, 2, 0] rfl
      have hD9 := hD.sub (ws' := [(o, .inr (9, [.ref o_reader, .ref o_hire, .ref a_hand, .ref o_latest, .ref o_trial, .ref o_champion, .ref a_wageUpper, .ref a_wageLower, .int v_hasWages, .ref o_cheapest, .ref o_oneSum, .ref o_coinSearch, .ref o_proofs, .ref o_diary])), (o_hire, .inr (3, [.int hire_v_signs, .int hire_v_works, .int hire_v_whole, .int hire_v_otherwise, .int hire_v_least, .int hire_v_rates, .ref hire_a_brings, .ref hire_a_costs, .ref hire_a_chances, .ref hire_a_rate, .ref hire_a_mark])), (a_hand, .inl (k_a_hand, 4, .inl f_a_hand))]) [1, 2, 0] (by decide) rfl
      exact W.iret (v := (-2)) hx hb hr (fun t ht hW => ⟨⟨(-2), (-2), rfl, rfl, f_a_hand, by rw [ht]; exact hP9, hD9⟩, hS.F ht⟩) hS.2.2 dX9_wage_28
    · have c39 := i32_nlt c3 rfl rfl
      refine lv_iload_n hx hb dX9_wage_19 rfl (lv_at hl 2 rfl) ?_
      refine lv_sipush (v := 9999) hx hb dX9_wage_20 (by decide) ?_
      refine lv_icmp_le (tgt := 29) hx hb dX9_wage_23 (by decide) (fun c4 => ?_) (fun c4 => ?_)
      · have c49 := i32_le c4 rfl (show (9999 : Int32).toInt = 9999 by decide)
        refine lv_aload_n hx hb dX9_wage_29 rfl (lv_at hl 0 rfl) ?_
        refine va_get (D := (dC, dI)) (ci := 9) (v := .ref a_hand) (C := RX9) (T := TX9) (N := 14) hx hb hts iw_X9_wage_X9 hown hK hP 1 rfl rfl 2 (by decide) (hts _ kk_X9_wage_2) (fun _ h9 => h9) rfl dX9_wage_30 ?_
        refine lv_iload_n hx hb dX9_wage_33 rfl (lv_at hl 1 rfl) ?_
        refine va_iald hx hb hK hP 0 0 rfl rfl (vq_in p0 4 (by omega)) dX9_wage_34 ?_
        refine lv_topi (fun x5 ex5 => ?_)
        refine lv_istore_n (lv' := [(3, .int x5), (0, .ref o), (1, .int p0), (2, .int p1)]) hx hb dX9_wage_35 rfl hl (by decide) rfl (fun ls hl => ?_)
        refine lv_aload_n hx hb dX9_wage_36 rfl (lv_at hl 1 rfl) ?_
        refine va_get (D := (dC, dI)) (ci := 9) (v := .ref a_hand) (C := RX9) (T := TX9) (N := 14) hx hb hts iw_X9_wage_X9 hown hK hP 1 rfl rfl 2 (by decide) (hts _ kk_X9_wage_2) (fun _ h9 => h9) rfl dX9_wage_37 ?_
        refine lv_iload_n hx hb dX9_wage_40 rfl (lv_at hl 2 rfl) ?_
        refine lv_iload_n hx hb dX9_wage_41 rfl (lv_at hl 3 rfl) ?_
        refine va_iast hx hb hK hP hD hS 0 0 rfl rfl (vq_in p0 4 (by omega)) dX9_wage_42 (fun H locs hP hD hS => ?_)
        have hP : va_P (dC, dI) vwCl [(a_hand, .inl (k_a_hand, 4, .inl (upd f_a_hand (Int32.toNatClampNeg p0) p1))), (o, .inr (9, [.ref o_reader, .ref o_hire, .ref a_hand, .ref o_latest, .ref o_trial, .ref o_champion, .ref a_wageUpper, .ref a_wageLower, .int v_hasWages, .ref o_cheapest, .ref o_oneSum, .ref o_coinSearch, .ref o_proofs, .ref o_diary])), (o_hire, .inr (3, [.int hire_v_signs, .int hire_v_works, .int hire_v_whole, .int hire_v_otherwise, .int hire_v_least, .int hire_v_rates, .ref hire_a_brings, .ref hire_a_costs, .ref hire_a_chances, .ref hire_a_rate, .ref hire_a_mark]))] H := hP
        have hD : va_D A [(a_hand, .inl (k_a_hand, 4, .inl (upd f_a_hand (Int32.toNatClampNeg p0) p1))), (o, .inr (9, [.ref o_reader, .ref o_hire, .ref a_hand, .ref o_latest, .ref o_trial, .ref o_champion, .ref a_wageUpper, .ref a_wageLower, .int v_hasWages, .ref o_cheapest, .ref o_oneSum, .ref o_coinSearch, .ref o_proofs, .ref o_diary])), (o_hire, .inr (3, [.int hire_v_signs, .int hire_v_works, .int hire_v_whole, .int hire_v_otherwise, .int hire_v_least, .int hire_v_rates, .ref hire_a_brings, .ref hire_a_costs, .ref hire_a_chances, .ref hire_a_rate, .ref hire_a_mark]))] := hD
        have wf6 : (upd f_a_hand (Int32.toNatClampNeg p0) p1) (Int32.toNatClampNeg p0) = p1 := pk_us
        generalize upd f_a_hand (Int32.toNatClampNeg p0) p1 = f6 at hP hD wf6
        have hP : va_P (dC, dI) vwCl [(a_hand, .inl (k_a_hand, 4, .inl f6)), (o, .inr (9, [.ref o_reader, .ref o_hire, .ref a_hand, .ref o_latest, .ref o_trial, .ref o_champion, .ref a_wageUpper, .ref a_wageLower, .int v_hasWages, .ref o_cheapest, .ref o_oneSum, .ref o_coinSearch, .ref o_proofs, .ref o_diary])), (o_hire, .inr (3, [.int hire_v_signs, .int hire_v_works, .int hire_v_whole, .int hire_v_otherwise, .int hire_v_least, .int hire_v_rates, .ref hire_a_brings, .ref hire_a_costs, .ref hire_a_chances, .ref hire_a_rate, .ref hire_a_mark]))] H := hP
        have hD : va_D A [(a_hand, .inl (k_a_hand, 4, .inl f6)), (o, .inr (9, [.ref o_reader, .ref o_hire, .ref a_hand, .ref o_latest, .ref o_trial, .ref o_champion, .ref a_wageUpper, .ref a_wageLower, .int v_hasWages, .ref o_cheapest, .ref o_oneSum, .ref o_coinSearch, .ref o_proofs, .ref o_diary])), (o_hire, .inr (3, [.int hire_v_signs, .int hire_v_works, .int hire_v_whole, .int hire_v_otherwise, .int hire_v_least, .int hire_v_rates, .ref hire_a_brings, .ref hire_a_costs, .ref hire_a_chances, .ref hire_a_rate, .ref hire_a_mark]))] := hD
        refine lv_iload_n hx hb dX9_wage_43 rfl (lv_at hl 0 rfl) ?_
        have hP9 := hP.sub (ws' := [(o, .inr (9, [.ref o_reader, .ref o_hire, .ref a_hand, .ref o_latest, .ref o_trial, .ref o_champion, .ref a_wageUpper, .ref a_wageLower, .int v_hasWages, .ref o_cheapest, .ref o_oneSum, .ref o_coinSearch, .ref o_proofs, .ref o_diary])), (o_hire, .inr (3, [.int hire_v_signs, .int hire_v_works, .int hire_v_whole, .int hire_v_otherwise, .int hire_v_least, .int hire_v_rates, .ref hire_a_brings, .ref hire_a_costs, .ref hire_a_chances, .ref hire_a_rate, .ref hire_a_mark])), (a_hand, .inl (k_a_hand, 4, .inl f6))]) [1, 2, 0] rfl
        have hD9 := hD.sub (ws' := [(o, .inr (9, [.ref o_reader, .ref o_hire, .ref a_hand, .ref o_latest, .ref o_trial, .ref o_champion, .ref a_wageUpper, .ref a_wageLower, .int v_hasWages, .ref o_cheapest, .ref o_oneSum, .ref o_coinSearch, .ref o_proofs, .ref o_diary])), (o_hire, .inr (3, [.int hire_v_signs, .int hire_v_works, .int hire_v_whole, .int hire_v_otherwise, .int hire_v_least, .int hire_v_rates, .ref hire_a_brings, .ref hire_a_costs, .ref hire_a_chances, .ref hire_a_rate, .ref hire_a_mark])), (a_hand, .inl (k_a_hand, 4, .inl f6))]) [1, 2, 0] (by decide) rfl
        exact W.iret (v := x5) hx hb hr (fun t ht hW => ⟨⟨x5, x5, rfl, rfl, f6, by rw [ht]; exact hP9, hD9⟩, hS.F ht⟩) hS.2.2 dX9_wage_44
      · have c49 := i32_nle c4 rfl (show (9999 : Int32).toInt = 9999 by decide)
        refine lv_bipush (v := (-2)) hx hb dX9_wage_26 (by decide) ?_
        have hP9 := hP.sub (ws' := [(o, .inr (9, [.ref o_reader, .ref o_hire, .ref a_hand, .ref o_latest, .ref o_trial, .ref o_champion, .ref a_wageUpper, .ref a_wageLower, .int v_hasWages, .ref o_cheapest, .ref o_oneSum, .ref o_coinSearch, .ref o_proofs, .ref o_diary])), (o_hire, .inr (3, [.int hire_v_signs, .int hire_v_works, .int hire_v_whole, .int hire_v_otherwise, .int hire_v_least, .int hire_v_rates, .ref hire_a_brings, .ref hire_a_costs, .ref hire_a_chances, .ref hire_a_rate, .ref hire_a_mark])), (a_hand, .inl (k_a_hand, 4, .inl f_a_hand))]) [1, 2, 0] rfl
        have hD9 := hD.sub (ws' := [(o, .inr (9, [.ref o_reader, .ref o_hire, .ref a_hand, .ref o_latest, .ref o_trial, .ref o_champion, .ref a_wageUpper, .ref a_wageLower, .int v_hasWages, .ref o_cheapest, .ref o_oneSum, .ref o_coinSearch, .ref o_proofs, .ref o_diary])), (o_hire, .inr (3, [.int hire_v_signs, .int hire_v_works, .int hire_v_whole, .int hire_v_otherwise, .int hire_v_least, .int hire_v_rates, .ref hire_a_brings, .ref hire_a_costs, .ref hire_a_chances, .ref hire_a_rate, .ref hire_a_mark])), (a_hand, .inl (k_a_hand, 4, .inl f_a_hand))]) [1, 2, 0] (by decide) rfl
        exact W.iret (v := (-2)) hx hb hr (fun t ht hW => ⟨⟨(-2), (-2), rfl, rfl, f_a_hand, by rw [ht]; exact hP9, hD9⟩, hS.F ht⟩) hS.2.2 dX9_wage_28

set_option maxHeartbeats 4000000 in
set_option maxRecDepth 100000 in
theorem ct_X3_worthAt_4 (l : Launch) (dC : Nat → ClassId) (dI : Nat → Nat → Nat) (o : Nat) (p0 : Int32) (p1 : Nat) (v_signs : Int32) (v_works : Int32) (v_whole : Int32) (v_otherwise : Int32) (v_least : Int32) (v_rates : Int32) (a_brings : Nat) (a_costs : Nat) (a_chances : Nat) (a_rate : Nat) (a_mark : Nat) (k_a_costs : ClassId) (f_a_costs : Nat → Int32) (k_a_chances : ClassId) (R_a_chances : Nat → Nat) (k_a_rate : ClassId) (f_a_rate : Nat → Int32) (k_a_mark : ClassId) (f_a_mark : Nat → Int32) (k_p1 : ClassId) (f_p1 : Nat → Int32) (LP : List Nat) (sh : Nat → Nat) (fp : Nat → va_E) (cI : ClassId) (cJ : ClassId) (hp0 : iv p0 0 4) (hv_signs : iv v_signs 0 4) (hv_whole : iv v_whole 2 10) (hv_rates : iv v_rates 1 3) (hfp : pok cI cJ LP sh fp) (hRR_a_chances : ∀ i : Nat, i < 5 → R_a_chances i ∈ LP ∧ sh (R_a_chances i) = 104) (sz : Nat) : Met l yX3_worthAt wsX3_worthAt ({ frames := 2, cells := 0, slots := 0, locals := 38 }) (va_Pc [.ref o, .int p0, .ref p1] (fun U => U.heap.size = sz ∧ va_P (dC, dI) vwCl ([(o, .inr (3, [.int v_signs, .int v_works, .int v_whole, .int v_otherwise, .int v_least, .int v_rates, .ref a_brings, .ref a_costs, .ref a_chances, .ref a_rate, .ref a_mark])), (a_costs, .inl (k_a_costs, 5, .inl f_a_costs)), (a_chances, .inl (k_a_chances, 5, .inr (.inr (.inr (.inr (rows_of 5 R_a_chances)))))), (a_rate, .inl (k_a_rate, 3, .inl f_a_rate)), (a_mark, .inl (k_a_mark, 2, .inl f_a_mark)), (p1, .inl (k_p1, 4, .inl f_p1))] ++ va_pl LP fp) U.heap ∧ va_K (dC, dI) vwCl [(k_a_costs, .int), (k_a_chances, (.array .int)), (k_a_rate, .int), (k_a_mark, .int), (k_p1, .int), (cI, .int), (cJ, .long)] U ∧ va_D (fun _ => True) ([(o, .inr (3, [.int v_signs, .int v_works, .int v_whole, .int v_otherwise, .int v_least, .int v_rates, .ref a_brings, .ref a_costs, .ref a_chances, .ref a_rate, .ref a_mark])), (a_costs, .inl (k_a_costs, 5, .inl f_a_costs)), (a_chances, .inl (k_a_chances, 5, .inr (.inr (.inr (.inr (rows_of 5 R_a_chances)))))), (a_rate, .inl (k_a_rate, 3, .inl f_a_rate)), (a_mark, .inl (k_a_mark, 2, .inl f_a_mark)), (p1, .inl (k_p1, 4, .inl f_p1))] ++ va_pl LP fp))) (va_Qi (fun (r u : Int32) => u = r) (fun (r : Int32) t => va_P (dC, dI) vwCl ([(o, .inr (3, [.int v_signs, .int v_works, .int v_whole, .int v_otherwise, .int v_least, .int v_rates, .ref a_brings, .ref a_costs, .ref a_chances, .ref a_rate, .ref a_mark])), (a_costs, .inl (k_a_costs, 5, .inl f_a_costs)), (a_chances, .inl (k_a_chances, 5, .inr (.inr (.inr (.inr (rows_of 5 R_a_chances)))))), (a_rate, .inl (k_a_rate, 3, .inl f_a_rate)), (a_mark, .inl (k_a_mark, 2, .inl f_a_mark)), (p1, .inl (k_p1, 4, .inl f_p1))] ++ va_pl LP fp) t.heap ∧ va_D (va_A ([(o, .inr (3, [.int v_signs, .int v_works, .int v_whole, .int v_otherwise, .int v_least, .int v_rates, .ref a_brings, .ref a_costs, .ref a_chances, .ref a_rate, .ref a_mark])), (a_costs, .inl (k_a_costs, 5, .inl f_a_costs)), (a_chances, .inl (k_a_chances, 5, .inr (.inr (.inr (.inr (rows_of 5 R_a_chances)))))), (a_rate, .inl (k_a_rate, 3, .inl f_a_rate)), (a_mark, .inl (k_a_mark, 2, .inl f_a_mark)), (p1, .inl (k_p1, 4, .inl f_p1))] ++ va_pl LP fp) sz) ([(o, .inr (3, [.int v_signs, .int v_works, .int v_whole, .int v_otherwise, .int v_least, .int v_rates, .ref a_brings, .ref a_costs, .ref a_chances, .ref a_rate, .ref a_mark])), (a_costs, .inl (k_a_costs, 5, .inl f_a_costs)), (a_chances, .inl (k_a_chances, 5, .inr (.inr (.inr (.inr (rows_of 5 R_a_chances)))))), (a_rate, .inl (k_a_rate, 3, .inl f_a_rate)), (a_mark, .inl (k_a_mark, 2, .inl f_a_mark)), (p1, .inl (k_p1, 4, .inl f_p1))] ++ va_pl LP fp)) (va_A ([(o, .inr (3, [.int v_signs, .int v_works, .int v_whole, .int v_otherwise, .int v_least, .int v_rates, .ref a_brings, .ref a_costs, .ref a_chances, .ref a_rate, .ref a_mark])), (a_costs, .inl (k_a_costs, 5, .inl f_a_costs)), (a_chances, .inl (k_a_chances, 5, .inr (.inr (.inr (.inr (rows_of 5 R_a_chances)))))), (a_rate, .inl (k_a_rate, 3, .inl f_a_rate)), (a_mark, .inl (k_a_mark, 2, .inl f_a_mark)), (p1, .inl (k_p1, 4, .inl f_p1))] ++ va_pl LP fp) sz)) 0 0 (va_A ([(o, .inr (3, [.int v_signs, .int v_works, .int v_whole, .int v_otherwise, .int v_least, .int v_rates, .ref a_brings, .ref a_costs, .ref a_chances, .ref a_rate, .ref a_mark])), (a_costs, .inl (k_a_costs, 5, .inl f_a_costs)), (a_chances, .inl (k_a_chances, 5, .inr (.inr (.inr (.inr (rows_of 5 R_a_chances)))))), (a_rate, .inl (k_a_rate, 3, .inl f_a_rate)), (a_mark, .inl (k_a_mark, 2, .inl f_a_mark)), (p1, .inl (k_p1, 4, .inl f_p1))] ++ va_pl LP fp) sz) := by
  refine Met.ofW (cc := cX3_worthAt) (maxL := 5) (ret := (some .int)) (by decide) rfl ?_
  intro p e s m args below meth c s₁ B hml hv
  obtain ⟨rfl, hsz, hP, hK, hD0⟩ := hv
  have hx := B.exec
  have hb := B.bytes
  have hr := B.returns
  have hts := atoms_spec (ws := wsX3_worthAt) B.pre
  have hown : s.vm.findClass RX3 = some m.cls := findClass_of_methodNamed B.named
  have hlocks := B.notSynchronized
  subst hsz
  have hD := hD0.self (sz := s.heap.size)
  generalize hAe : va_A ([(o, .inr (3, [.int v_signs, .int v_works, .int v_whole, .int v_otherwise, .int v_least, .int v_rates, .ref a_brings, .ref a_costs, .ref a_chances, .ref a_rate, .ref a_mark])), (a_costs, .inl (k_a_costs, 5, .inl f_a_costs)), (a_chances, .inl (k_a_chances, 5, .inr (.inr (.inr (.inr (rows_of 5 R_a_chances)))))), (a_rate, .inl (k_a_rate, 3, .inl f_a_rate)), (a_mark, .inl (k_a_mark, 2, .inl f_a_mark)), (p1, .inl (k_p1, 4, .inl f_p1))] ++ va_pl LP fp) s.heap.size = A at hD ⊢
  have hA : ∀ q : Nat, s.heap.size ≤ q → A q := fun q h => by rw [← hAe]; exact Or.inr h
  have hS : va_S A s.heap s.heap [] := va_S.rf
  have hP : va_P (dC, dI) vwCl ([(o, .inr (3, [.int v_signs, .int v_works, .int v_whole, .int v_otherwise, .int v_least, .int v_rates, .ref a_brings, .ref a_costs, .ref a_chances, .ref a_rate, .ref a_mark])), (a_costs, .inl (k_a_costs, 5, .inl f_a_costs)), (a_chances, .inl (k_a_chances, 5, .inr (.inr (.inr (.inr (rows_of 5 R_a_chances)))))), (a_rate, .inl (k_a_rate, 3, .inl f_a_rate)), (a_mark, .inl (k_a_mark, 2, .inl f_a_mark)), (p1, .inl (k_p1, 4, .inl f_p1))] ++ va_pl LP fp) s.heap := hP
  have hl := lv_entry ([.ref o, .int p0, .ref p1]) (n := 5) (Nat.le_of_ble_eq_true rfl)
  rw [lg_entry_eq]
  generalize (lg_sl ([.ref o, .int p0, .ref p1]) ++ List.replicate (5 - (lg_sl ([.ref o, .int p0, .ref p1])).length) Slot.unset).toArray = ls at hl ⊢
  have hl : lv_has ls 5 [(0, .ref o), (1, .int p0), (2, .ref p1)] := hl
  refine lv_aload_n hx hb dX3_worthAt_0 rfl (lv_at hl 0 rfl) ?_
  refine va_get (D := (dC, dI)) (ci := 3) (v := .int v_whole) (C := RX3) (T := TX3) (N := 11) hx hb hts iw_X3_worthAt_X3 hown hK hP 0 rfl rfl 2 (by decide) (hts _ kk_X3_worthAt_0) (fun _ h9 => h9) rfl dX3_worthAt_1 ?_
  refine lv_ineg hx hb dX3_worthAt_4 ?_
  refine lv_topi (fun x1 ex1 => ?_)
  have bv_whole := hv_whole.u
  have tx1 := i32_neg ex1 rfl (by omega) (by omega)
  refine lv_aload_n hx hb dX3_worthAt_5 rfl (lv_at hl 0 rfl) ?_
  refine va_get (D := (dC, dI)) (ci := 3) (v := .ref a_costs) (C := RX3) (T := TX3) (N := 11) hx hb hts iw_X3_worthAt_X3 hown hK hP 0 rfl rfl 7 (by decide) (hts _ kk_X3_worthAt_1) (fun _ h9 => h9) rfl dX3_worthAt_6 ?_
  refine lv_iload_n hx hb dX3_worthAt_9 rfl (lv_at hl 1 rfl) ?_
  have bp0 := hp0.u
  refine va_iald hx hb hK hP 1 0 rfl rfl (vq_in p0 5 (by omega)) dX3_worthAt_10 ?_
  refine lv_topi (fun x2 ex2 => ?_)
  refine lv_imul hx hb dX3_worthAt_11 ?_
  refine lv_topi (fun x3 ex3 => ?_)
  refine lv_istore_n (lv' := [(3, .int x3), (0, .ref o), (1, .int p0), (2, .ref p1)]) hx hb dX3_worthAt_12 rfl hl (by decide) rfl (fun ls hl => ?_)
  refine lv_iconst (v := 0) hx hb dX3_worthAt_13 (by decide) ?_
  refine lv_istore (lv' := [(4, .int 0), (3, .int x3), (0, .ref o), (1, .int p0), (2, .ref p1)]) hx hb dX3_worthAt_14 hl (by decide) rfl (fun ls hl => ?_)
  refine tl_loop (I := fun nn H locs ls => ∃ (v4 : Int32) (v5 : Int32), nn = (4 - v4.toInt).toNat ∧ iv v4 0 4 ∧  va_P (dC, dI) vwCl ([(o, .inr (3, [.int v_signs, .int v_works, .int v_whole, .int v_otherwise, .int v_least, .int v_rates, .ref a_brings, .ref a_costs, .ref a_chances, .ref a_rate, .ref a_mark])), (a_costs, .inl (k_a_costs, 5, .inl f_a_costs)), (a_chances, .inl (k_a_chances, 5, .inr (.inr (.inr (.inr (rows_of 5 R_a_chances)))))), (a_rate, .inl (k_a_rate, 3, .inl f_a_rate)), (a_mark, .inl (k_a_mark, 2, .inl f_a_mark)), (p1, .inl (k_p1, 4, .inl f_p1))] ++ va_pl LP fp) H ∧ va_D A ([(o, .inr (3, [.int v_signs, .int v_works, .int v_whole, .int v_otherwise, .int v_least, .int v_rates, .ref a_brings, .ref a_costs, .ref a_chances, .ref a_rate, .ref a_mark])), (a_costs, .inl (k_a_costs, 5, .inl f_a_costs)), (a_chances, .inl (k_a_chances, 5, .inr (.inr (.inr (.inr (rows_of 5 R_a_chances)))))), (a_rate, .inl (k_a_rate, 3, .inl f_a_rate)), (a_mark, .inl (k_a_mark, 2, .inl f_a_mark)), (p1, .inl (k_p1, 4, .inl f_p1))] ++ va_pl LP fp) ∧ va_S A s.heap H locs ∧ lv_has ls 5 [(4, .int v4), (3, .int v5), (0, .ref o), (1, .int p0), (2, .ref p1)]) ?_ ⟨0, x3, rfl, (iv.m (by decide)), hP, hD, hS, lv_sub hl [0, 1, 2, 3, 4] rfl⟩
  clear hP hD hS hl
  intro nn16 H locs ls hI ih16
  obtain ⟨v4, v5, hn16, hv4, hP, hD, hS, hl⟩ := hI
  have bv4 := hv4.u
  have bv5 := i32_rng v5
  refine lv_iload hx hb dX3_worthAt_16 (lv_at hl 0 rfl) ?_
  refine lv_aload_n hx hb dX3_worthAt_18 rfl (lv_at hl 2 rfl) ?_
  refine va_get (D := (dC, dI)) (ci := 3) (v := .int v_signs) (C := RX3) (T := TX3) (N := 11) hx hb hts iw_X3_worthAt_X3 hown hK hP 0 rfl rfl 0 (by decide) (hts _ kk_X3_worthAt_2) (fun _ h9 => h9) rfl dX3_worthAt_19 ?_
  have bv_signs := hv_signs.u
  refine lv_icmp_ge (tgt := 52) hx hb dX3_worthAt_22 (by decide) (fun c6 => ?_) (fun c6 => ?_)
  · have c69 := i32_le c6 rfl rfl
    refine lv_iload_n hx hb dX3_worthAt_52 rfl (lv_at hl 1 rfl) ?_
    have hP9 := hP.part (cx := [(o, .inr (3, [.int v_signs, .int v_works, .int v_whole, .int v_otherwise, .int v_least, .int v_rates, .ref a_brings, .ref a_costs, .ref a_chances, .ref a_rate, .ref a_mark])), (a_costs, .inl (k_a_costs, 5, .inl f_a_costs)), (a_chances, .inl (k_a_chances, 5, .inr (.inr (.inr (.inr (rows_of 5 R_a_chances)))))), (a_rate, .inl (k_a_rate, 3, .inl f_a_rate)), (a_mark, .inl (k_a_mark, 2, .inl f_a_mark)), (p1, .inl (k_p1, 4, .inl f_p1))]) [0, 1, 2, 3, 4, 5] rfl
    have hD9 := hD.part (cx := [(o, .inr (3, [.int v_signs, .int v_works, .int v_whole, .int v_otherwise, .int v_least, .int v_rates, .ref a_brings, .ref a_costs, .ref a_chances, .ref a_rate, .ref a_mark])), (a_costs, .inl (k_a_costs, 5, .inl f_a_costs)), (a_chances, .inl (k_a_chances, 5, .inr (.inr (.inr (.inr (rows_of 5 R_a_chances)))))), (a_rate, .inl (k_a_rate, 3, .inl f_a_rate)), (a_mark, .inl (k_a_mark, 2, .inl f_a_mark)), (p1, .inl (k_p1, 4, .inl f_p1))]) [0, 1, 2, 3, 4, 5] (by decide) rfl
    exact W.iret (v := v5) hx hb hr (fun t ht hW => ⟨⟨v5, v5, rfl, rfl, by rw [ht]; exact hP9, hD9⟩, hS.F ht⟩) hS.2.2 dX3_worthAt_53
  · have c69 := i32_nle c6 rfl rfl
    refine lv_iload_n hx hb dX3_worthAt_25 rfl (lv_at hl 1 rfl) ?_
    refine lv_aload_n hx hb dX3_worthAt_26 rfl (lv_at hl 2 rfl) ?_
    refine va_get (D := (dC, dI)) (ci := 3) (v := .ref a_chances) (C := RX3) (T := TX3) (N := 11) hx hb hts iw_X3_worthAt_X3 hown hK hP 0 rfl rfl 8 (by decide) (hts _ kk_X3_worthAt_3) (fun _ h9 => h9) rfl dX3_worthAt_27 ?_
    refine lv_iload_n hx hb dX3_worthAt_30 rfl (lv_at hl 3 rfl) ?_
    have hinrw7 : vp_in p0 5 := (vq_in p0 5 (by omega))
    refine va_aldA hx hb hK hP 2 1 rfl rfl hinrw7 dX3_worthAt_31 ?_
    refine px_v (row_sel hinrw7) ?_
    obtain ⟨rw7, erw7⟩ : ∃ z : Nat, z = R_a_chances (Int32.toNatClampNeg p0) := ⟨_, rfl⟩
    rw [← erw7]
    have mrw7 : rw7 ∈ LP ∧ sh rw7 = 104 := by rw [erw7]; exact hRR_a_chances _ (vin_lt hinrw7)
    refine lv_iload hx hb dX3_worthAt_32 (lv_at hl 0 rfl) ?_
    obtain ⟨gk8, hgk8, bgk8⟩ := pok_104 (hfp) mrw7
    obtain ⟨kk9, hkk9⟩ := va_pl_get (X := [(o, .inr (3, [.int v_signs, .int v_works, .int v_whole, .int v_otherwise, .int v_least, .int v_rates, .ref a_brings, .ref a_costs, .ref a_chances, .ref a_rate, .ref a_mark])), (a_costs, .inl (k_a_costs, 5, .inl f_a_costs)), (a_chances, .inl (k_a_chances, 5, .inr (.inr (.inr (.inr (rows_of 5 R_a_chances)))))), (a_rate, .inl (k_a_rate, 3, .inl f_a_rate)), (a_mark, .inl (k_a_mark, 2, .inl f_a_mark)), (p1, .inl (k_p1, 4, .inl f_p1))]) (f := fp) mrw7.1
    have qkk9 := hkk9
    rw [hgk8] at qkk9
    refine va_iald hx hb hK hP kk9 5 qkk9 rfl (vq_in v4 4 (by omega)) dX3_worthAt_34 ?_
    refine lv_topi (fun x10 ex10 => ?_)
    have hx10 : iv x10 0 10 := iv.of (bgk8 _) ex10
    refine lv_aload_n hx hb dX3_worthAt_35 rfl (lv_at hl 2 rfl) ?_
    refine lv_aload_n hx hb dX3_worthAt_36 rfl (lv_at hl 4 rfl) ?_
    refine lv_iload hx hb dX3_worthAt_37 (lv_at hl 0 rfl) ?_
    refine va_iald hx hb hK hP 5 4 rfl rfl (vq_in v4 4 (by omega)) dX3_worthAt_39 ?_
    refine lv_topi (fun x11 ex11 => ?_)
    have hPc := hP.sub (ws' := [(o, .inr (3, [.int v_signs, .int v_works, .int v_whole, .int v_otherwise, .int v_least, .int v_rates, .ref a_brings, .ref a_costs, .ref a_chances, .ref a_rate, .ref a_mark])), (a_rate, .inl (k_a_rate, 3, .inl f_a_rate)), (a_mark, .inl (k_a_mark, 2, .inl f_a_mark))]) [0, 3, 4] rfl
    have hDc := hD.sub (ws' := [(o, .inr (3, [.int v_signs, .int v_works, .int v_whole, .int v_otherwise, .int v_least, .int v_rates, .ref a_brings, .ref a_costs, .ref a_chances, .ref a_rate, .ref a_mark])), (a_rate, .inl (k_a_rate, 3, .inl f_a_rate)), (a_mark, .inl (k_a_mark, 2, .inl f_a_mark))]) [0, 3, 4] (by decide) rfl
    have hKc := hK.sub (tys' := [(k_a_rate, .int), (k_a_mark, .int)]) [2, 3] rfl
    have hFc := va_free (wc := [(o, .inr (3, [.int v_signs, .int v_works, .int v_whole, .int v_otherwise, .int v_least, .int v_rates, .ref a_brings, .ref a_costs, .ref a_chances, .ref a_rate, .ref a_mark])), (a_rate, .inl (k_a_rate, 3, .inl f_a_rate)), (a_mark, .inl (k_a_mark, 2, .inl f_a_mark))]) hD hS hA [0, 3, 4] rfl
    refine va_calli (va_runV (As := [.int x11]) (rest := [.int x10, .int v5]) ⟨hx, hb, hml, hown, hts⟩ (ct_X3_feltOf l dC dI o x11 v_signs v_works v_whole v_otherwise v_least v_rates a_brings a_costs a_chances a_rate a_mark k_a_rate f_a_rate k_a_mark f_a_mark hv_rates H.size) (cwV 1 hts gX3_worthAt_X3_feltOf rfl rfl rfl (by decide +kernel) ⟨Nat.le_of_ble_eq_true rfl, Nat.le_of_ble_eq_true rfl⟩) ⟨fun a U g mk q => by obtain ⟨q0, q1, qP, qK, qD⟩ := q; exact ⟨q0, q1, qP, va_K.moved (u := U) (U := U.calling g mk a) (Vm.Alike.refl U.vm) qK, qD⟩, va_recv hKc hPc (ci := 3) (q0 := 0) rfl rfl, fun U hU hW => ⟨rfl, by rw [hU], by rw [hU]; exact hPc, va_K.moved hW.alike hKc, hDc.weaken (fun _ _ _ _ => trivial)⟩⟩ rfl rfl hl.1 rfl (lv_room (Nat.le_of_ble_eq_true rfl)) dX3_worthAt_40 ⟨Nat.le_of_ble_eq_true rfl, Nat.le_of_ble_eq_true rfl⟩) hS (fun q _ h => hFc q h) hFc (fun r12 u t H1 locs ht hvm hw hB hz1 hk1 hS => ?_)
    have hw : r12 = u := hw.symm
    subst hw
    obtain ⟨hP1, hD1⟩ := hB
    rw [ht] at hP1
    obtain ⟨hP, hD⟩ := va_joinQ (X := [(o, .inr (3, [.int v_signs, .int v_works, .int v_whole, .int v_otherwise, .int v_least, .int v_rates, .ref a_brings, .ref a_costs, .ref a_chances, .ref a_rate, .ref a_mark])), (a_costs, .inl (k_a_costs, 5, .inl f_a_costs)), (a_chances, .inl (k_a_chances, 5, .inr (.inr (.inr (.inr (rows_of 5 R_a_chances)))))), (a_rate, .inl (k_a_rate, 3, .inl f_a_rate)), (a_mark, .inl (k_a_mark, 2, .inl f_a_mark)), (p1, .inl (k_p1, 4, .inl f_p1))]) (cx := [(o, .inr (3, [.int v_signs, .int v_works, .int v_whole, .int v_otherwise, .int v_least, .int v_rates, .ref a_brings, .ref a_costs, .ref a_chances, .ref a_rate, .ref a_mark])), (a_rate, .inl (k_a_rate, 3, .inl f_a_rate)), (a_mark, .inl (k_a_mark, 2, .inl f_a_mark))]) (wr := [(a_costs, .inl (k_a_costs, 5, .inl f_a_costs)), (a_chances, .inl (k_a_chances, 5, .inr (.inr (.inr (.inr (rows_of 5 R_a_chances)))))), (p1, .inl (k_p1, 4, .inl f_p1))]) (w1 := [(o, .inr (3, [.int v_signs, .int v_works, .int v_whole, .int v_otherwise, .int v_least, .int v_rates, .ref a_brings, .ref a_costs, .ref a_chances, .ref a_rate, .ref a_mark])), (a_rate, .inl (k_a_rate, 3, .inl f_a_rate)), (a_mark, .inl (k_a_mark, 2, .inl f_a_mark))]) hP hD [0, 3, 4] [1, 2, 5] rfl rfl (by decide) (by decide) hk1 hFc hP1 hD1
    clear hPc hDc hKc hFc hP1 hD1 hk1 hz1
    generalize H1 = H at hP hS ⊢
    have hP : va_P (dC, dI) vwCl ([(a_costs, .inl (k_a_costs, 5, .inl f_a_costs)), (a_chances, .inl (k_a_chances, 5, .inr (.inr (.inr (.inr (rows_of 5 R_a_chances)))))), (p1, .inl (k_p1, 4, .inl f_p1)), (o, .inr (3, [.int v_signs, .int v_works, .int v_whole, .int v_otherwise, .int v_least, .int v_rates, .ref a_brings, .ref a_costs, .ref a_chances, .ref a_rate, .ref a_mark])), (a_rate, .inl (k_a_rate, 3, .inl f_a_rate)), (a_mark, .inl (k_a_mark, 2, .inl f_a_mark))] ++ va_pl LP fp) H := hP
    have hD : va_D A ([(a_costs, .inl (k_a_costs, 5, .inl f_a_costs)), (a_chances, .inl (k_a_chances, 5, .inr (.inr (.inr (.inr (rows_of 5 R_a_chances)))))), (p1, .inl (k_p1, 4, .inl f_p1)), (o, .inr (3, [.int v_signs, .int v_works, .int v_whole, .int v_otherwise, .int v_least, .int v_rates, .ref a_brings, .ref a_costs, .ref a_chances, .ref a_rate, .ref a_mark])), (a_rate, .inl (k_a_rate, 3, .inl f_a_rate)), (a_mark, .inl (k_a_mark, 2, .inl f_a_mark))] ++ va_pl LP fp) := hD
    refine W.widen (k := 0) (n := 0) (by decide) (by decide) ?_
    refine lv_imul hx hb dX3_worthAt_43 ?_
    refine lv_topi (fun x13 ex13 => ?_)
    refine lv_iadd hx hb dX3_worthAt_44 ?_
    refine lv_topi (fun x14 ex14 => ?_)
    refine lv_istore_n (lv' := [(3, .int x14), (4, .int v4), (0, .ref o), (1, .int p0), (2, .ref p1)]) hx hb dX3_worthAt_45 rfl hl (by decide) rfl (fun ls hl => ?_)
    obtain ⟨x15, ex15⟩ : ∃ z : Int32, v4 + Int32.ofInt 1 = z := ⟨_, rfl⟩
    have tx15 := i32_inc ex15 rfl (by decide) (by omega) (by omega)
    refine lv_iinc (v := x15) (lv' := [(4, .int x15), (3, .int x14), (0, .ref o), (1, .int p0), (2, .ref p1)]) hx hb dX3_worthAt_46 hl (k := 1) rfl ex15 (by decide) rfl (fun ls hl => ?_)
    refine lv_goto (tgt := 16) hx hb dX3_worthAt_49 (by decide) ?_
    have bx14 := i32_rng x14
    exact ih16 _ _ _ _ (by omega) ⟨x15, x14, rfl, (iv.m (by omega)), hP.part [3, 0, 1, 4, 5, 2] rfl, hD.part [3, 0, 1, 4, 5, 2] (by decide) rfl, hS, lv_sub hl [0, 1, 2, 3, 4] rfl⟩

