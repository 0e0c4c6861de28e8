abbrev cX10_feeling : ByteArray := prog_12_method_31_code
def yX10_feeling : MethodName := ⟨RX10, "feeling", "(I)I"⟩
abbrev cX10_wage : ByteArray := prog_12_method_32_code
def yX10_wage : MethodName := ⟨RX10, "wage", "(II)I"⟩
abbrev cX10_worthOf : ByteArray := prog_12_method_33_code
def yX10_worthOf : MethodName := ⟨RX10, "worthOf", "(I)I"⟩
abbrev cX10_leftBy : ByteArray := prog_12_method_34_code
def yX10_leftBy : MethodName := ⟨RX10, "leftBy", "(I)I"⟩
abbrev cX10_worth : ByteArray := prog_12_method_35_code
def yX10_worth : MethodName := ⟨RX10, "worth", "(I)I"⟩
def wsX10_feeling : List Cond := .code yX10_feeling cX10_feeling 2 (some .int) :: ([.constantLong RX10 262 (9999), .methodLink RX10 174 yX10_in, .static yX10_in, .initialized RX10, .code yX10_in cX10_in 6 (some .boolean), .methodLink RX10 264 yX10_feel, .instanceMethod yX10_feel, .selects RX10 yX10_feel yX10_feel, .code yX10_feel cX10_feel 6 (some .int), .fieldLink RX10 17 "PaidBySignsModel" "num" "[I", .fieldLink RX10 40 "PaidBySignsModel" "marks" "[I", .fieldLink RX10 37 "PaidBySignsModel" "rates" "[I"] ++ wsX100)
def wsX10_wage : List Cond := .code yX10_wage cX10_wage 4 (some .int) :: ([.fieldLink RX10 17 "PaidBySignsModel" "num" "[I", .constantLong RX10 262 (9999), .fieldLink RX10 43 "PaidBySignsModel" "hand" "[I", .methodLink RX10 256 yX10_isSign, .instanceMethod yX10_isSign, .selects RX10 yX10_isSign yX10_isSign, .initialized RX10, .code yX10_isSign cX10_isSign 2 (some .boolean), .methodLink RX10 174 yX10_in, .static yX10_in, .code yX10_in cX10_in 6 (some .boolean)] ++ wsX100)
def wsX10_worthOf : List Cond := .code yX10_worthOf cX10_worthOf 4 (some .int) :: ([.fieldLink RX10 17 "PaidBySignsModel" "num" "[I", .fieldLink RX10 31 "PaidBySignsModel" "costs" "[I", .fieldLink RX10 43 "PaidBySignsModel" "hand" "[I", .methodLink RX10 259 yX10_chanceOf, .instanceMethod yX10_chanceOf, .selects RX10 yX10_chanceOf yX10_chanceOf, .initialized RX10, .code yX10_chanceOf cX10_chanceOf 3 (some .int), .fieldLink RX10 34 "PaidBySignsModel" "chances" "[I", .methodLink RX10 264 yX10_feel, .instanceMethod yX10_feel, .selects RX10 yX10_feel yX10_feel, .code yX10_feel cX10_feel 6 (some .int), .fieldLink RX10 40 "PaidBySignsModel" "marks" "[I", .fieldLink RX10 37 "PaidBySignsModel" "rates" "[I"] ++ wsX100)
def wsX10_leftBy : List Cond := .code yX10_leftBy cX10_leftBy 4 (some .int) :: ([.fieldLink RX10 17 "PaidBySignsModel" "num" "[I", .fieldLink RX10 28 "PaidBySignsModel" "brings" "[I", .fieldLink RX10 43 "PaidBySignsModel" "hand" "[I", .methodLink RX10 259 yX10_chanceOf, .instanceMethod yX10_chanceOf, .selects RX10 yX10_chanceOf yX10_chanceOf, .initialized RX10, .code yX10_chanceOf cX10_chanceOf 3 (some .int), .fieldLink RX10 34 "PaidBySignsModel" "chances" "[I"] ++ wsX100)
def wsX10_worth_r1 : List Cond := [Cond.constant RX10 270 (-2000000000), Cond.methodLink RX10 253 yX10_isWork, Cond.instanceMethod yX10_isWork, Cond.selects RX10 yX10_isWork yX10_isWork, Cond.initialized RX10, Cond.code yX10_isWork cX10_isWork 2 (some .boolean), Cond.fieldLink RX10 17 "PaidBySignsModel" "num" "[I", Cond.methodLink RX10 174 yX10_in, Cond.static yX10_in, Cond.code yX10_in cX10_in 6 (some .boolean), Cond.methodLink RX10 267 yX10_worthOf, Cond.instanceMethod yX10_worthOf, Cond.selects RX10 yX10_worthOf yX10_worthOf, Cond.code yX10_worthOf cX10_worthOf 4 (some .int), Cond.fieldLink RX10 31 "PaidBySignsModel" "costs" "[I", Cond.fieldLink RX10 43 "PaidBySignsModel" "hand" "[I", Cond.methodLink RX10 259 yX10_chanceOf, Cond.instanceMethod yX10_chanceOf, Cond.selects RX10 yX10_chanceOf yX10_chanceOf, Cond.code yX10_chanceOf cX10_chanceOf 3 (some .int), Cond.fieldLink RX10 34 "PaidBySignsModel" "chances" "[I", Cond.methodLink RX10 264 yX10_feel, Cond.instanceMethod yX10_feel, Cond.selects RX10 yX10_feel yX10_feel]
def wsX10_worth_r2 : List Cond := [Cond.code yX10_feel cX10_feel 6 (some .int), Cond.fieldLink RX10 40 "PaidBySignsModel" "marks" "[I", Cond.fieldLink RX10 37 "PaidBySignsModel" "rates" "[I"]
def wsX10_worth : List Cond := .code yX10_worth cX10_worth 2 (some .int) :: ((wsX10_worth_r1 ++ wsX10_worth_r2) ++ wsX100)
set_option maxRecDepth 20000 in
theorem ggX10_feeling_X10_in : GoodIn wsX10_feeling wsX10_in := goodIn_sub (List.forall_mem_cons.mpr ⟨List.mem_cons_of_mem _ (List.mem_append_left _ (List.mem_of_getElem? (i := 4) rfl)), fun _ h => absurd h List.not_mem_nil⟩) (by decide +kernel)
set_option maxRecDepth 20000 in
theorem gX10_feeling_X10_in : GoodIn wsX10_feeling (va_wsS RX10 174 yX10_in wsX10_in) := goodIn_app (goodIn_sub (List.forall_mem_cons.mpr ⟨List.mem_cons_of_mem _ (List.mem_append_left _ (List.mem_of_getElem? (i := 1) rfl)), List.forall_mem_cons.mpr ⟨List.mem_cons_of_mem _ (List.mem_append_left _ (List.mem_of_getElem? (i := 2) rfl)), List.forall_mem_cons.mpr ⟨List.mem_cons_of_mem _ (List.mem_append_left _ (List.mem_of_getElem? (i := 3) rfl)), fun _ h => absurd h List.not_mem_nil⟩⟩⟩) (by decide +kernel)) ggX10_feeling_X10_in
set_option maxRecDepth 20000 in
theorem ggX10_feeling_X10_feel : GoodIn wsX10_feeling wsX10_feel := goodIn_sub (List.forall_mem_cons.mpr ⟨List.mem_cons_of_mem _ (List.mem_append_left _ (List.mem_of_getElem? (i := 8) rfl)), List.forall_mem_append.mpr ⟨List.forall_mem_cons.mpr ⟨List.mem_cons_of_mem _ (List.mem_append_left _ (List.mem_of_getElem? (i := 9) rfl)), List.forall_mem_cons.mpr ⟨List.mem_cons_of_mem _ (List.mem_append_left _ (List.mem_of_getElem? (i := 10) rfl)), List.forall_mem_cons.mpr ⟨List.mem_cons_of_mem _ (List.mem_append_left _ (List.mem_of_getElem? (i := 11) rfl)), fun _ h => absurd h List.not_mem_nil⟩⟩⟩, fun _ h => List.mem_cons_of_mem _ (List.mem_append_right _ h)⟩⟩) (by decide +kernel)
set_option maxRecDepth 20000 in
theorem gX10_feeling_X10_feel : GoodIn wsX10_feeling (wsV RX10 264 RX10 yX10_feel wsX10_feel) := goodIn_app (goodIn_sub (List.forall_mem_cons.mpr ⟨List.mem_cons_of_mem _ (List.mem_append_left _ (List.mem_of_getElem? (i := 5) rfl)), List.forall_mem_cons.mpr ⟨List.mem_cons_of_mem _ (List.mem_append_left _ (List.mem_of_getElem? (i := 6) rfl)), List.forall_mem_cons.mpr ⟨List.mem_cons_of_mem _ (List.mem_append_left _ (List.mem_of_getElem? (i := 7) rfl)), List.forall_mem_cons.mpr ⟨List.mem_cons_of_mem _ (List.mem_append_left _ (List.mem_of_getElem? (i := 3) rfl)), fun _ h => absurd h List.not_mem_nil⟩⟩⟩⟩) (by decide +kernel)) ggX10_feeling_X10_feel
theorem bX10_feeling_0 : ((bys cX10_feeling).drop 0).take 16 = [27, 133, 9, 20, 1, 6, 184, 0, 174, 153, 0, 11, 42, 27, 182, 1] := by decide +kernel
theorem dX10_feeling_0 : decode cX10_feeling 0 = .ok (.iload_n 1, 1) := do_27 (byt_at bX10_feeling_0 (j := 0) rfl)
theorem dX10_feeling_1 : decode cX10_feeling 1 = .ok (.i2l, 1) := do_133 (byt_at bX10_feeling_0 (j := 1) rfl)
theorem dX10_feeling_2 : decode cX10_feeling 2 = .ok (.lconst 0, 1) := do_9 (byt_at bX10_feeling_0 (j := 2) rfl)
theorem dX10_feeling_3 : decode cX10_feeling 3 = .ok (.ldc2_w 262, 3) := do_20 1 6 (byt_at bX10_feeling_0 (j := 3) rfl) (byt_at bX10_feeling_0 (j := 4) rfl) (byt_at bX10_feeling_0 (j := 5) rfl)
theorem dX10_feeling_6 : decode cX10_feeling 6 = .ok (.invokestatic 174, 3) := do_184 0 174 (byt_at bX10_feeling_0 (j := 6) rfl) (byt_at bX10_feeling_0 (j := 7) rfl) (byt_at bX10_feeling_0 (j := 8) rfl)
theorem dX10_feeling_9 : decode cX10_feeling 9 = .ok (.ifCond .eq 11, 3) := do_153 0 11 (byt_at bX10_feeling_0 (j := 9) rfl) (byt_at bX10_feeling_0 (j := 10) rfl) (byt_at bX10_feeling_0 (j := 11) rfl) (by decide)
theorem dX10_feeling_12 : decode cX10_feeling 12 = .ok (.aload_n 0, 1) := do_42 (byt_at bX10_feeling_0 (j := 12) rfl)
theorem dX10_feeling_13 : decode cX10_feeling 13 = .ok (.iload_n 1, 1) := do_27 (byt_at bX10_feeling_0 (j := 13) rfl)
theorem bX10_feeling_1 : ((bys cX10_feeling).drop 16).take 16 = [8, 167, 0, 5, 16, 254, 172] := by decide +kernel
theorem dX10_feeling_14 : decode cX10_feeling 14 = .ok (.invokevirtual 264, 3) := do_182 1 8 (byt_at bX10_feeling_0 (j := 14) rfl) (byt_at bX10_feeling_0 (j := 15) rfl) (byt_at bX10_feeling_1 (j := 0) rfl)
theorem dX10_feeling_17 : decode cX10_feeling 17 = .ok (.goto 5, 3) := do_167 0 5 (byt_at bX10_feeling_1 (j := 1) rfl) (byt_at bX10_feeling_1 (j := 2) rfl) (byt_at bX10_feeling_1 (j := 3) rfl) (by decide)
theorem dX10_feeling_20 : decode cX10_feeling 20 = .ok (.bipush (-2), 2) := do_16 254 (byt_at bX10_feeling_1 (j := 4) rfl) (byt_at bX10_feeling_1 (j := 5) rfl) (by decide)
theorem dX10_feeling_22 : decode cX10_feeling 22 = .ok (.ireturn, 1) := do_172 (byt_at bX10_feeling_1 (j := 6) rfl)
set_option maxRecDepth 20000 in
theorem ggX10_wage_X10_isSign : GoodIn wsX10_wage wsX10_isSign := goodIn_sub (List.forall_mem_cons.mpr ⟨List.mem_cons_of_mem _ (List.mem_append_left _ (List.mem_of_getElem? (i := 7) rfl)), List.forall_mem_append.mpr ⟨List.forall_mem_cons.mpr ⟨List.mem_cons_of_mem _ (List.mem_append_left _ (List.mem_of_getElem? (i := 0) rfl)), List.forall_mem_cons.mpr ⟨List.mem_cons_of_mem _ (List.mem_append_left _ (List.mem_of_getElem? (i := 8) rfl)), List.forall_mem_cons.mpr ⟨List.mem_cons_of_mem _ (List.mem_append_left _ (List.mem_of_getElem? (i := 9) rfl)), List.forall_mem_cons.mpr ⟨List.mem_cons_of_mem _ (List.mem_append_left _ (List.mem_of_getElem? (i := 6) rfl)), List.forall_mem_cons.mpr ⟨List.mem_cons_of_mem _ (List.mem_append_left _ (List.mem_of_getElem? (i := 10) rfl)), fun _ h => absurd h List.not_mem_nil⟩⟩⟩⟩⟩, fun _ h => List.mem_cons_of_mem _ (List.mem_append_right _ h)⟩⟩) (by decide +kernel)
set_option maxRecDepth 20000 in
theorem gX10_wage_X10_isSign : GoodIn wsX10_wage (wsV RX10 256 RX10 yX10_isSign wsX10_isSign) := goodIn_app (goodIn_sub (List.forall_mem_cons.mpr ⟨List.mem_cons_of_mem _ (List.mem_append_left _ (List.mem_of_getElem? (i := 3) rfl)), List.forall_mem_cons.mpr ⟨List.mem_cons_of_mem _ (List.mem_append_left _ (List.mem_of_getElem? (i := 4) rfl)), List.forall_mem_cons.mpr ⟨List.mem_cons_of_mem _ (List.mem_append_left _ (List.mem_of_getElem? (i := 5) rfl)), List.forall_mem_cons.mpr ⟨List.mem_cons_of_mem _ (List.mem_append_left _ (List.mem_of_getElem? (i := 6) rfl)), fun _ h => absurd h List.not_mem_nil⟩⟩⟩⟩) (by decide +kernel)) ggX10_wage_X10_isSign
set_option maxRecDepth 20000 in
theorem ggX10_wage_X10_in : GoodIn wsX10_wage wsX10_in := goodIn_sub (List.forall_mem_cons.mpr ⟨List.mem_cons_of_mem _ (List.mem_append_left _ (List.mem_of_getElem? (i := 10) rfl)), fun _ h => absurd h List.not_mem_nil⟩) (by decide +kernel)
set_option maxRecDepth 20000 in
theorem gX10_wage_X10_in : GoodIn wsX10_wage (va_wsS RX10 174 yX10_in wsX10_in) := goodIn_app (goodIn_sub (List.forall_mem_cons.mpr ⟨List.mem_cons_of_mem _ (List.mem_append_left _ (List.mem_of_getElem? (i := 8) rfl)), List.forall_mem_cons.mpr ⟨List.mem_cons_of_mem _ (List.mem_append_left _ (List.mem_of_getElem? (i := 9) rfl)), List.forall_mem_cons.mpr ⟨List.mem_cons_of_mem _ (List.mem_append_left _ (List.mem_of_getElem? (i := 6) rfl)), fun _ h => absurd h List.not_mem_nil⟩⟩⟩) (by decide +kernel)) ggX10_wage_X10_in
theorem bX10_wage_0 : ((bys cX10_wage).drop 0).take 16 = [42, 27, 182, 1, 0, 153, 0, 21, 28, 133, 42, 180, 0, 17, 5, 46] := by decide +kernel
theorem dX10_wage_0 : decode cX10_wage 0 = .ok (.aload_n 0, 1) := do_42 (byt_at bX10_wage_0 (j := 0) rfl)
theorem dX10_wage_1 : decode cX10_wage 1 = .ok (.iload_n 1, 1) := do_27 (byt_at bX10_wage_0 (j := 1) rfl)
theorem dX10_wage_2 : decode cX10_wage 2 = .ok (.invokevirtual 256, 3) := do_182 1 0 (byt_at bX10_wage_0 (j := 2) rfl) (byt_at bX10_wage_0 (j := 3) rfl) (byt_at bX10_wage_0 (j := 4) rfl)
theorem dX10_wage_5 : decode cX10_wage 5 = .ok (.ifCond .eq 21, 3) := do_153 0 21 (byt_at bX10_wage_0 (j := 5) rfl) (byt_at bX10_wage_0 (j := 6) rfl) (byt_at bX10_wage_0 (j := 7) rfl) (by decide)
theorem dX10_wage_8 : decode cX10_wage 8 = .ok (.iload_n 2, 1) := do_28 (byt_at bX10_wage_0 (j := 8) rfl)
theorem dX10_wage_9 : decode cX10_wage 9 = .ok (.i2l, 1) := do_133 (byt_at bX10_wage_0 (j := 9) rfl)
theorem dX10_wage_10 : decode cX10_wage 10 = .ok (.aload_n 0, 1) := do_42 (byt_at bX10_wage_0 (j := 10) rfl)
theorem dX10_wage_11 : decode cX10_wage 11 = .ok (.getfield 17, 3) := do_180 0 17 (byt_at bX10_wage_0 (j := 11) rfl) (byt_at bX10_wage_0 (j := 12) rfl) (byt_at bX10_wage_0 (j := 13) rfl)
theorem dX10_wage_14 : decode cX10_wage 14 = .ok (.iconst 2, 1) := do_5 (byt_at bX10_wage_0 (j := 14) rfl)
theorem dX10_wage_15 : decode cX10_wage 15 = .ok (.iaload, 1) := do_46 (byt_at bX10_wage_0 (j := 15) rfl)
theorem bX10_wage_1 : ((bys cX10_wage).drop 16).take 16 = [133, 20, 1, 6, 184, 0, 174, 154, 0, 6, 16, 254, 172, 42, 180, 0] := by decide +kernel
theorem dX10_wage_16 : decode cX10_wage 16 = .ok (.i2l, 1) := do_133 (byt_at bX10_wage_1 (j := 0) rfl)
theorem dX10_wage_17 : decode cX10_wage 17 = .ok (.ldc2_w 262, 3) := do_20 1 6 (byt_at bX10_wage_1 (j := 1) rfl) (byt_at bX10_wage_1 (j := 2) rfl) (byt_at bX10_wage_1 (j := 3) rfl)
theorem dX10_wage_20 : decode cX10_wage 20 = .ok (.invokestatic 174, 3) := do_184 0 174 (byt_at bX10_wage_1 (j := 4) rfl) (byt_at bX10_wage_1 (j := 5) rfl) (byt_at bX10_wage_1 (j := 6) rfl)
theorem dX10_wage_23 : decode cX10_wage 23 = .ok (.ifCond .ne 6, 3) := do_154 0 6 (byt_at bX10_wage_1 (j := 7) rfl) (byt_at bX10_wage_1 (j := 8) rfl) (byt_at bX10_wage_1 (j := 9) rfl) (by decide)
theorem dX10_wage_26 : decode cX10_wage 26 = .ok (.bipush (-2), 2) := do_16 254 (byt_at bX10_wage_1 (j := 10) rfl) (byt_at bX10_wage_1 (j := 11) rfl) (by decide)
theorem dX10_wage_28 : decode cX10_wage 28 = .ok (.ireturn, 1) := do_172 (byt_at bX10_wage_1 (j := 12) rfl)
theorem dX10_wage_29 : decode cX10_wage 29 = .ok (.aload_n 0, 1) := do_42 (byt_at bX10_wage_1 (j := 13) rfl)
theorem bX10_wage_2 : ((bys cX10_wage).drop 32).take 16 = [43, 27, 46, 62, 42, 180, 0, 43, 27, 28, 79, 29, 172] := by decide +kernel
theorem dX10_wage_30 : decode cX10_wage 30 = .ok (.getfield 43, 3) := do_180 0 43 (byt_at bX10_wage_1 (j := 14) rfl) (byt_at bX10_wage_1 (j := 15) rfl) (byt_at bX10_wage_2 (j := 0) rfl)
theorem dX10_wage_33 : decode cX10_wage 33 = .ok (.iload_n 1, 1) := do_27 (byt_at bX10_wage_2 (j := 1) rfl)
theorem dX10_wage_34 : decode cX10_wage 34 = .ok (.iaload, 1) := do_46 (byt_at bX10_wage_2 (j := 2) rfl)
theorem dX10_wage_35 : decode cX10_wage 35 = .ok (.istore_n 3, 1) := do_62 (byt_at bX10_wage_2 (j := 3) rfl)
theorem dX10_wage_36 : decode cX10_wage 36 = .ok (.aload_n 0, 1) := do_42 (byt_at bX10_wage_2 (j := 4) rfl)
theorem dX10_wage_37 : decode cX10_wage 37 = .ok (.getfield 43, 3) := do_180 0 43 (byt_at bX10_wage_2 (j := 5) rfl) (byt_at bX10_wage_2 (j := 6) rfl) (byt_at bX10_wage_2 (j := 7) rfl)
theorem dX10_wage_40 : decode cX10_wage 40 = .ok (.iload_n 1, 1) := do_27 (byt_at bX10_wage_2 (j := 8) rfl)
theorem dX10_wage_41 : decode cX10_wage 41 = .ok (.iload_n 2, 1) := do_28 (byt_at bX10_wage_2 (j := 9) rfl)
theorem dX10_wage_42 : decode cX10_wage 42 = .ok (.iastore, 1) := do_79 (byt_at bX10_wage_2 (j := 10) rfl)
theorem dX10_wage_43 : decode cX10_wage 43 = .ok (.iload_n 3, 1) := do_29 (byt_at bX10_wage_2 (j := 11) rfl)
theorem dX10_wage_44 : decode cX10_wage 44 = .ok (.ireturn, 1) := do_172 (byt_at bX10_wage_2 (j := 12) rfl)
set_option maxRecDepth 20000 in
theorem ggX10_worthOf_X10_chanceOf : GoodIn wsX10_worthOf wsX10_chanceOf := goodIn_sub (List.forall_mem_cons.mpr ⟨List.mem_cons_of_mem _ (List.mem_append_left _ (List.mem_of_getElem? (i := 7) rfl)), List.forall_mem_append.mpr ⟨List.forall_mem_cons.mpr ⟨List.mem_cons_of_mem _ (List.mem_append_left _ (List.mem_of_getElem? (i := 8) rfl)), fun _ h => absurd h List.not_mem_nil⟩, fun _ h => List.mem_cons_of_mem _ (List.mem_append_right _ h)⟩⟩) (by decide +kernel)
set_option maxRecDepth 20000 in
theorem gX10_worthOf_X10_chanceOf : GoodIn wsX10_worthOf (wsV RX10 259 RX10 yX10_chanceOf wsX10_chanceOf) := goodIn_app (goodIn_sub (List.forall_mem_cons.mpr ⟨List.mem_cons_of_mem _ (List.mem_append_left _ (List.mem_of_getElem? (i := 3) rfl)), List.forall_mem_cons.mpr ⟨List.mem_cons_of_mem _ (List.mem_append_left _ (List.mem_of_getElem? (i := 4) rfl)), List.forall_mem_cons.mpr ⟨List.mem_cons_of_mem _ (List.mem_append_left _ (List.mem_of_getElem? (i := 5) rfl)), List.forall_mem_cons.mpr ⟨List.mem_cons_of_mem _ (List.mem_append_left _ (List.mem_of_getElem? (i := 6) rfl)), fun _ h => absurd h List.not_mem_nil⟩⟩⟩⟩) (by decide +kernel)) ggX10_worthOf_X10_chanceOf
set_option maxRecDepth 20000 in
theorem ggX10_worthOf_X10_feel : GoodIn wsX10_worthOf wsX10_feel := goodIn_sub (List.forall_mem_cons.mpr ⟨List.mem_cons_of_mem _ (List.mem_append_left _ (List.mem_of_getElem? (i := 12) rfl)), List.forall_mem_append.mpr ⟨List.forall_mem_cons.mpr ⟨List.mem_cons_of_mem _ (List.mem_append_left _ (List.mem_of_getElem? (i := 0) rfl)), List.forall_mem_cons.mpr ⟨List.mem_cons_of_mem _ (List.mem_append_left _ (List.mem_of_getElem? (i := 13) rfl)), List.forall_mem_cons.mpr ⟨List.mem_cons_of_mem _ (List.mem_append_left _ (List.mem_of_getElem? (i := 14) rfl)), fun _ h => absurd h List.not_mem_nil⟩⟩⟩, fun _ h => List.mem_cons_of_mem _ (List.mem_append_right _ h)⟩⟩) (by decide +kernel)
set_option maxRecDepth 20000 in
theorem gX10_worthOf_X10_feel : GoodIn wsX10_worthOf (wsV RX10 264 RX10 yX10_feel wsX10_feel) := goodIn_app (goodIn_sub (List.forall_mem_cons.mpr ⟨List.mem_cons_of_mem _ (List.mem_append_left _ (List.mem_of_getElem? (i := 9) rfl)), List.forall_mem_cons.mpr ⟨List.mem_cons_of_mem _ (List.mem_append_left _ (List.mem_of_getElem? (i := 10) rfl)), List.forall_mem_cons.mpr ⟨List.mem_cons_of_mem _ (List.mem_append_left _ (List.mem_of_getElem? (i := 11) rfl)), List.forall_mem_cons.mpr ⟨List.mem_cons_of_mem _ (List.mem_append_left _ (List.mem_of_getElem? (i := 6) rfl)), fun _ h => absurd h List.not_mem_nil⟩⟩⟩⟩) (by decide +kernel)) ggX10_worthOf_X10_feel
theorem bX10_worthOf_0 : ((bys cX10_worthOf).drop 0).take 16 = [42, 180, 0, 17, 3, 46, 116, 42, 180, 0, 31, 27, 46, 104, 61, 3] := by decide +kernel
theorem dX10_worthOf_0 : decode cX10_worthOf 0 = .ok (.aload_n 0, 1) := do_42 (byt_at bX10_worthOf_0 (j := 0) rfl)
theorem dX10_worthOf_1 : decode cX10_worthOf 1 = .ok (.getfield 17, 3) := do_180 0 17 (byt_at bX10_worthOf_0 (j := 1) rfl) (byt_at bX10_worthOf_0 (j := 2) rfl) (byt_at bX10_worthOf_0 (j := 3) rfl)
theorem dX10_worthOf_4 : decode cX10_worthOf 4 = .ok (.iconst 0, 1) := do_3 (byt_at bX10_worthOf_0 (j := 4) rfl)
theorem dX10_worthOf_5 : decode cX10_worthOf 5 = .ok (.iaload, 1) := do_46 (byt_at bX10_worthOf_0 (j := 5) rfl)
theorem dX10_worthOf_6 : decode cX10_worthOf 6 = .ok (.ineg, 1) := do_116 (byt_at bX10_worthOf_0 (j := 6) rfl)
theorem dX10_worthOf_7 : decode cX10_worthOf 7 = .ok (.aload_n 0, 1) := do_42 (byt_at bX10_worthOf_0 (j := 7) rfl)
theorem dX10_worthOf_8 : decode cX10_worthOf 8 = .ok (.getfield 31, 3) := do_180 0 31 (byt_at bX10_worthOf_0 (j := 8) rfl) (byt_at bX10_worthOf_0 (j := 9) rfl) (byt_at bX10_worthOf_0 (j := 10) rfl)
theorem dX10_worthOf_11 : decode cX10_worthOf 11 = .ok (.iload_n 1, 1) := do_27 (byt_at bX10_worthOf_0 (j := 11) rfl)
theorem dX10_worthOf_12 : decode cX10_worthOf 12 = .ok (.iaload, 1) := do_46 (byt_at bX10_worthOf_0 (j := 12) rfl)
theorem dX10_worthOf_13 : decode cX10_worthOf 13 = .ok (.imul, 1) := do_104 (byt_at bX10_worthOf_0 (j := 13) rfl)
theorem dX10_worthOf_14 : decode cX10_worthOf 14 = .ok (.istore_n 2, 1) := do_61 (byt_at bX10_worthOf_0 (j := 14) rfl)
theorem dX10_worthOf_15 : decode cX10_worthOf 15 = .ok (.iconst 0, 1) := do_3 (byt_at bX10_worthOf_0 (j := 15) rfl)
theorem bX10_worthOf_1 : ((bys cX10_worthOf).drop 16).take 16 = [62, 29, 42, 180, 0, 17, 6, 46, 162, 0, 29, 28, 42, 27, 29, 182] := by decide +kernel
theorem dX10_worthOf_16 : decode cX10_worthOf 16 = .ok (.istore_n 3, 1) := do_62 (byt_at bX10_worthOf_1 (j := 0) rfl)
theorem dX10_worthOf_17 : decode cX10_worthOf 17 = .ok (.iload_n 3, 1) := do_29 (byt_at bX10_worthOf_1 (j := 1) rfl)
theorem dX10_worthOf_18 : decode cX10_worthOf 18 = .ok (.aload_n 0, 1) := do_42 (byt_at bX10_worthOf_1 (j := 2) rfl)
theorem dX10_worthOf_19 : decode cX10_worthOf 19 = .ok (.getfield 17, 3) := do_180 0 17 (byt_at bX10_worthOf_1 (j := 3) rfl) (byt_at bX10_worthOf_1 (j := 4) rfl) (byt_at bX10_worthOf_1 (j := 5) rfl)
theorem dX10_worthOf_22 : decode cX10_worthOf 22 = .ok (.iconst 3, 1) := do_6 (byt_at bX10_worthOf_1 (j := 6) rfl)
theorem dX10_worthOf_23 : decode cX10_worthOf 23 = .ok (.iaload, 1) := do_46 (byt_at bX10_worthOf_1 (j := 7) rfl)
theorem dX10_worthOf_24 : decode cX10_worthOf 24 = .ok (.if_icmp .ge 29, 3) := do_162 0 29 (byt_at bX10_worthOf_1 (j := 8) rfl) (byt_at bX10_worthOf_1 (j := 9) rfl) (byt_at bX10_worthOf_1 (j := 10) rfl) (by decide)
theorem dX10_worthOf_27 : decode cX10_worthOf 27 = .ok (.iload_n 2, 1) := do_28 (byt_at bX10_worthOf_1 (j := 11) rfl)
theorem dX10_worthOf_28 : decode cX10_worthOf 28 = .ok (.aload_n 0, 1) := do_42 (byt_at bX10_worthOf_1 (j := 12) rfl)
theorem dX10_worthOf_29 : decode cX10_worthOf 29 = .ok (.iload_n 1, 1) := do_27 (byt_at bX10_worthOf_1 (j := 13) rfl)
theorem dX10_worthOf_30 : decode cX10_worthOf 30 = .ok (.iload_n 3, 1) := do_29 (byt_at bX10_worthOf_1 (j := 14) rfl)
theorem bX10_worthOf_2 : ((bys cX10_worthOf).drop 32).take 16 = [1, 3, 42, 42, 180, 0, 43, 29, 46, 182, 1, 8, 104, 96, 61, 132] := by decide +kernel
theorem dX10_worthOf_31 : decode cX10_worthOf 31 = .ok (.invokevirtual 259, 3) := do_182 1 3 (byt_at bX10_worthOf_1 (j := 15) rfl) (byt_at bX10_worthOf_2 (j := 0) rfl) (byt_at bX10_worthOf_2 (j := 1) rfl)
theorem dX10_worthOf_34 : decode cX10_worthOf 34 = .ok (.aload_n 0, 1) := do_42 (byt_at bX10_worthOf_2 (j := 2) rfl)
theorem dX10_worthOf_35 : decode cX10_worthOf 35 = .ok (.aload_n 0, 1) := do_42 (byt_at bX10_worthOf_2 (j := 3) rfl)
theorem dX10_worthOf_36 : decode cX10_worthOf 36 = .ok (.getfield 43, 3) := do_180 0 43 (byt_at bX10_worthOf_2 (j := 4) rfl) (byt_at bX10_worthOf_2 (j := 5) rfl) (byt_at bX10_worthOf_2 (j := 6) rfl)
theorem dX10_worthOf_39 : decode cX10_worthOf 39 = .ok (.iload_n 3, 1) := do_29 (byt_at bX10_worthOf_2 (j := 7) rfl)
theorem dX10_worthOf_40 : decode cX10_worthOf 40 = .ok (.iaload, 1) := do_46 (byt_at bX10_worthOf_2 (j := 8) rfl)
theorem dX10_worthOf_41 : decode cX10_worthOf 41 = .ok (.invokevirtual 264, 3) := do_182 1 8 (byt_at bX10_worthOf_2 (j := 9) rfl) (byt_at bX10_worthOf_2 (j := 10) rfl) (byt_at bX10_worthOf_2 (j := 11) rfl)
theorem dX10_worthOf_44 : decode cX10_worthOf 44 = .ok (.imul, 1) := do_104 (byt_at bX10_worthOf_2 (j := 12) rfl)
theorem dX10_worthOf_45 : decode cX10_worthOf 45 = .ok (.iadd, 1) := do_96 (byt_at bX10_worthOf_2 (j := 13) rfl)
theorem dX10_worthOf_46 : decode cX10_worthOf 46 = .ok (.istore_n 2, 1) := do_61 (byt_at bX10_worthOf_2 (j := 14) rfl)
theorem bX10_worthOf_3 : ((bys cX10_worthOf).drop 48).take 16 = [3, 1, 167, 255, 223, 28, 172] := by decide +kernel
theorem dX10_worthOf_47 : decode cX10_worthOf 47 = .ok (.iinc 3 1, 3) := do_132 3 1 (byt_at bX10_worthOf_2 (j := 15) rfl) (byt_at bX10_worthOf_3 (j := 0) rfl) (byt_at bX10_worthOf_3 (j := 1) rfl) (by decide)
theorem dX10_worthOf_50 : decode cX10_worthOf 50 = .ok (.goto (-33), 3) := do_167 255 223 (byt_at bX10_worthOf_3 (j := 2) rfl) (byt_at bX10_worthOf_3 (j := 3) rfl) (byt_at bX10_worthOf_3 (j := 4) rfl) (by decide)
theorem dX10_worthOf_53 : decode cX10_worthOf 53 = .ok (.iload_n 2, 1) := do_28 (byt_at bX10_worthOf_3 (j := 5) rfl)
theorem dX10_worthOf_54 : decode cX10_worthOf 54 = .ok (.ireturn, 1) := do_172 (byt_at bX10_worthOf_3 (j := 6) rfl)
set_option maxRecDepth 20000 in
theorem ggX10_leftBy_X10_chanceOf : GoodIn wsX10_leftBy wsX10_chanceOf := goodIn_sub (List.forall_mem_cons.mpr ⟨List.mem_cons_of_mem _ (List.mem_append_left _ (List.mem_of_getElem? (i := 7) rfl)), List.forall_mem_append.mpr ⟨List.forall_mem_cons.mpr ⟨List.mem_cons_of_mem _ (List.mem_append_left _ (List.mem_of_getElem? (i := 8) rfl)), fun _ h => absurd h List.not_mem_nil⟩, fun _ h => List.mem_cons_of_mem _ (List.mem_append_right _ h)⟩⟩) (by decide +kernel)
set_option maxRecDepth 20000 in
theorem gX10_leftBy_X10_chanceOf : GoodIn wsX10_leftBy (wsV RX10 259 RX10 yX10_chanceOf wsX10_chanceOf) := goodIn_app (goodIn_sub (List.forall_mem_cons.mpr ⟨List.mem_cons_of_mem _ (List.mem_append_left _ (List.mem_of_getElem? (i := 3) rfl)), List.forall_mem_cons.mpr ⟨List.mem_cons_of_mem _ (List.mem_append_left _ (List.mem_of_getElem? (i := 4) rfl)), List.forall_mem_cons.mpr ⟨List.mem_cons_of_mem _ (List.mem_append_left _ (List.mem_of_getElem? (i := 5) rfl)), List.forall_mem_cons.mpr ⟨List.mem_cons_of_mem _ (List.mem_append_left _ (List.mem_of_getElem? (i := 6) rfl)), fun _ h => absurd h List.not_mem_nil⟩⟩⟩⟩) (by decide +kernel)) ggX10_leftBy_X10_chanceOf
theorem bX10_leftBy_0 : ((bys cX10_leftBy).drop 0).take 16 = [3, 61, 3, 62, 29, 42, 180, 0, 17, 6, 46, 162, 0, 32, 28, 42] := by decide +kernel
theorem dX10_leftBy_0 : decode cX10_leftBy 0 = .ok (.iconst 0, 1) := do_3 (byt_at bX10_leftBy_0 (j := 0) rfl)
theorem dX10_leftBy_1 : decode cX10_leftBy 1 = .ok (.istore_n 2, 1) := do_61 (byt_at bX10_leftBy_0 (j := 1) rfl)
theorem dX10_leftBy_2 : decode cX10_leftBy 2 = .ok (.iconst 0, 1) := do_3 (byt_at bX10_leftBy_0 (j := 2) rfl)
theorem dX10_leftBy_3 : decode cX10_leftBy 3 = .ok (.istore_n 3, 1) := do_62 (byt_at bX10_leftBy_0 (j := 3) rfl)
theorem dX10_leftBy_4 : decode cX10_leftBy 4 = .ok (.iload_n 3, 1) := do_29 (byt_at bX10_leftBy_0 (j := 4) rfl)
theorem dX10_leftBy_5 : decode cX10_leftBy 5 = .ok (.aload_n 0, 1) := do_42 (byt_at bX10_leftBy_0 (j := 5) rfl)
theorem dX10_leftBy_6 : decode cX10_leftBy 6 = .ok (.getfield 17, 3) := do_180 0 17 (byt_at bX10_leftBy_0 (j := 6) rfl) (byt_at bX10_leftBy_0 (j := 7) rfl) (byt_at bX10_leftBy_0 (j := 8) rfl)
theorem dX10_leftBy_9 : decode cX10_leftBy 9 = .ok (.iconst 3, 1) := do_6 (byt_at bX10_leftBy_0 (j := 9) rfl)
theorem dX10_leftBy_10 : decode cX10_leftBy 10 = .ok (.iaload, 1) := do_46 (byt_at bX10_leftBy_0 (j := 10) rfl)
theorem dX10_leftBy_11 : decode cX10_leftBy 11 = .ok (.if_icmp .ge 32, 3) := do_162 0 32 (byt_at bX10_leftBy_0 (j := 11) rfl) (byt_at bX10_leftBy_0 (j := 12) rfl) (byt_at bX10_leftBy_0 (j := 13) rfl) (by decide)
theorem dX10_leftBy_14 : decode cX10_leftBy 14 = .ok (.iload_n 2, 1) := do_28 (byt_at bX10_leftBy_0 (j := 14) rfl)
theorem dX10_leftBy_15 : decode cX10_leftBy 15 = .ok (.aload_n 0, 1) := do_42 (byt_at bX10_leftBy_0 (j := 15) rfl)
theorem bX10_leftBy_1 : ((bys cX10_leftBy).drop 16).take 16 = [27, 29, 182, 1, 3, 42, 180, 0, 28, 29, 46, 42, 180, 0, 43, 29] := by decide +kernel
theorem dX10_leftBy_16 : decode cX10_leftBy 16 = .ok (.iload_n 1, 1) := do_27 (byt_at bX10_leftBy_1 (j := 0) rfl)
theorem dX10_leftBy_17 : decode cX10_leftBy 17 = .ok (.iload_n 3, 1) := do_29 (byt_at bX10_leftBy_1 (j := 1) rfl)
theorem dX10_leftBy_18 : decode cX10_leftBy 18 = .ok (.invokevirtual 259, 3) := do_182 1 3 (byt_at bX10_leftBy_1 (j := 2) rfl) (byt_at bX10_leftBy_1 (j := 3) rfl) (byt_at bX10_leftBy_1 (j := 4) rfl)
theorem dX10_leftBy_21 : decode cX10_leftBy 21 = .ok (.aload_n 0, 1) := do_42 (byt_at bX10_leftBy_1 (j := 5) rfl)
theorem dX10_leftBy_22 : decode cX10_leftBy 22 = .ok (.getfield 28, 3) := do_180 0 28 (byt_at bX10_leftBy_1 (j := 6) rfl) (byt_at bX10_leftBy_1 (j := 7) rfl) (byt_at bX10_leftBy_1 (j := 8) rfl)
theorem dX10_leftBy_25 : decode cX10_leftBy 25 = .ok (.iload_n 3, 1) := do_29 (byt_at bX10_leftBy_1 (j := 9) rfl)
theorem dX10_leftBy_26 : decode cX10_leftBy 26 = .ok (.iaload, 1) := do_46 (byt_at bX10_leftBy_1 (j := 10) rfl)
theorem dX10_leftBy_27 : decode cX10_leftBy 27 = .ok (.aload_n 0, 1) := do_42 (byt_at bX10_leftBy_1 (j := 11) rfl)
theorem dX10_leftBy_28 : decode cX10_leftBy 28 = .ok (.getfield 43, 3) := do_180 0 43 (byt_at bX10_leftBy_1 (j := 12) rfl) (byt_at bX10_leftBy_1 (j := 13) rfl) (byt_at bX10_leftBy_1 (j := 14) rfl)
theorem dX10_leftBy_31 : decode cX10_leftBy 31 = .ok (.iload_n 3, 1) := do_29 (byt_at bX10_leftBy_1 (j := 15) rfl)
theorem bX10_leftBy_2 : ((bys cX10_leftBy).drop 32).take 16 = [46, 100, 104, 96, 61, 132, 3, 1, 167, 255, 220, 28, 172] := by decide +kernel
theorem dX10_leftBy_32 : decode cX10_leftBy 32 = .ok (.iaload, 1) := do_46 (byt_at bX10_leftBy_2 (j := 0) rfl)
theorem dX10_leftBy_33 : decode cX10_leftBy 33 = .ok (.isub, 1) := do_100 (byt_at bX10_leftBy_2 (j := 1) rfl)
theorem dX10_leftBy_34 : decode cX10_leftBy 34 = .ok (.imul, 1) := do_104 (byt_at bX10_leftBy_2 (j := 2) rfl)
theorem dX10_leftBy_35 : decode cX10_leftBy 35 = .ok (.iadd, 1) := do_96 (byt_at bX10_leftBy_2 (j := 3) rfl)
theorem dX10_leftBy_36 : decode cX10_leftBy 36 = .ok (.istore_n 2, 1) := do_61 (byt_at bX10_leftBy_2 (j := 4) rfl)
theorem dX10_leftBy_37 : decode cX10_leftBy 37 = .ok (.iinc 3 1, 3) := do_132 3 1 (byt_at bX10_leftBy_2 (j := 5) rfl) (byt_at bX10_leftBy_2 (j := 6) rfl) (byt_at bX10_leftBy_2 (j := 7) rfl) (by decide)
theorem dX10_leftBy_40 : decode cX10_leftBy 40 = .ok (.goto (-36), 3) := do_167 255 220 (byt_at bX10_leftBy_2 (j := 8) rfl) (byt_at bX10_leftBy_2 (j := 9) rfl) (byt_at bX10_leftBy_2 (j := 10) rfl) (by decide)
theorem dX10_leftBy_43 : decode cX10_leftBy 43 = .ok (.iload_n 2, 1) := do_28 (byt_at bX10_leftBy_2 (j := 11) rfl)
theorem dX10_leftBy_44 : decode cX10_leftBy 44 = .ok (.ireturn, 1) := do_172 (byt_at bX10_leftBy_2 (j := 12) rfl)
theorem pm_X10_worth_r1 : ∀ w ∈ wsX10_worth_r1, w ∈ wsX10_worth := fun _ h => List.mem_cons_of_mem _ (List.mem_append_left _ (List.mem_append_left _ h))
theorem pm_X10_worth_r2 : ∀ w ∈ wsX10_worth_r2, w ∈ wsX10_worth := fun _ h => List.mem_cons_of_mem _ (List.mem_append_left _ (List.mem_append_right _ (h)))
theorem pw_X10_worth_X10 : ∀ w ∈ wsX100, w ∈ wsX10_worth := fun _ h => List.mem_cons_of_mem _ (List.mem_append_right _ h)
set_option maxRecDepth 20000 in
theorem ggX10_worth_X10_isWork : GoodIn wsX10_worth wsX10_isWork := goodIn_sub (List.forall_mem_cons.mpr ⟨pm_X10_worth_r1 _ (List.mem_of_getElem? (i := 5) rfl), List.forall_mem_append.mpr ⟨List.forall_mem_cons.mpr ⟨pm_X10_worth_r1 _ (List.mem_of_getElem? (i := 6) rfl), List.forall_mem_cons.mpr ⟨pm_X10_worth_r1 _ (List.mem_of_getElem? (i := 7) rfl), List.forall_mem_cons.mpr ⟨pm_X10_worth_r1 _ (List.mem_of_getElem? (i := 8) rfl), List.forall_mem_cons.mpr ⟨pm_X10_worth_r1 _ (List.mem_of_getElem? (i := 4) rfl), List.forall_mem_cons.mpr ⟨pm_X10_worth_r1 _ (List.mem_of_getElem? (i := 9) rfl), fun _ h => absurd h List.not_mem_nil⟩⟩⟩⟩⟩, pw_X10_worth_X10⟩⟩) (by decide +kernel)
set_option maxRecDepth 20000 in
theorem gX10_worth_X10_isWork : GoodIn wsX10_worth (wsV RX10 253 RX10 yX10_isWork wsX10_isWork) := goodIn_app (goodIn_sub (List.forall_mem_cons.mpr ⟨pm_X10_worth_r1 _ (List.mem_of_getElem? (i := 1) rfl), List.forall_mem_cons.mpr ⟨pm_X10_worth_r1 _ (List.mem_of_getElem? (i := 2) rfl), List.forall_mem_cons.mpr ⟨pm_X10_worth_r1 _ (List.mem_of_getElem? (i := 3) rfl), List.forall_mem_cons.mpr ⟨pm_X10_worth_r1 _ (List.mem_of_getElem? (i := 4) rfl), fun _ h => absurd h List.not_mem_nil⟩⟩⟩⟩) (by decide +kernel)) ggX10_worth_X10_isWork
set_option maxRecDepth 20000 in
theorem ggX10_worth_X10_worthOf : GoodIn wsX10_worth wsX10_worthOf := goodIn_sub (List.forall_mem_cons.mpr ⟨pm_X10_worth_r1 _ (List.mem_of_getElem? (i := 13) rfl), List.forall_mem_append.mpr ⟨List.forall_mem_cons.mpr ⟨pm_X10_worth_r1 _ (List.mem_of_getElem? (i := 6) rfl), List.forall_mem_cons.mpr ⟨pm_X10_worth_r1 _ (List.mem_of_getElem? (i := 14) rfl), List.forall_mem_cons.mpr ⟨pm_X10_worth_r1 _ (List.mem_of_getElem? (i := 15) rfl), List.forall_mem_cons.mpr ⟨pm_X10_worth_r1 _ (List.mem_of_getElem? (i := 16) rfl), List.forall_mem_cons.mpr ⟨pm_X10_worth_r1 _ (List.mem_of_getElem? (i := 17) rfl), List.forall_mem_cons.mpr ⟨pm_X10_worth_r1 _ (List.mem_of_getElem? (i := 18) rfl), List.forall_mem_cons.mpr ⟨pm_X10_worth_r1 _ (List.mem_of_getElem? (i := 4) rfl), List.forall_mem_cons.mpr ⟨pm_X10_worth_r1 _ (List.mem_of_getElem? (i := 19) rfl), List.forall_mem_cons.mpr ⟨pm_X10_worth_r1 _ (List.mem_of_getElem? (i := 20) rfl), List.forall_mem_cons.mpr ⟨pm_X10_worth_r1 _ (List.mem_of_getElem? (i := 21) rfl), List.forall_mem_cons.mpr ⟨pm_X10_worth_r1 _ (List.mem_of_getElem? (i := 22) rfl), List.forall_mem_cons.mpr ⟨pm_X10_worth_r1 _ (List.mem_of_getElem? (i := 23) rfl), List.forall_mem_cons.mpr ⟨pm_X10_worth_r2 _ (List.mem_of_getElem? (i := 0) rfl), List.forall_mem_cons.mpr ⟨pm_X10_worth_r2 _ (List.mem_of_getElem? (i := 1) rfl), List.forall_mem_cons.mpr ⟨pm_X10_worth_r2 _ (List.mem_of_getElem? (i := 2) rfl), fun _ h => absurd h List.not_mem_nil⟩⟩⟩⟩⟩⟩⟩⟩⟩⟩⟩⟩⟩⟩⟩, pw_X10_worth_X10⟩⟩) (by decide +kernel)
set_option maxRecDepth 20000 in
theorem gX10_worth_X10_worthOf : GoodIn wsX10_worth (wsV RX10 267 RX10 yX10_worthOf wsX10_worthOf) := goodIn_app (goodIn_sub (List.forall_mem_cons.mpr ⟨pm_X10_worth_r1 _ (List.mem_of_getElem? (i := 10) rfl), List.forall_mem_cons.mpr ⟨pm_X10_worth_r1 _ (List.mem_of_getElem? (i := 11) rfl), List.forall_mem_cons.mpr ⟨pm_X10_worth_r1 _ (List.mem_of_getElem? (i := 12) rfl), List.forall_mem_cons.mpr ⟨pm_X10_worth_r1 _ (List.mem_of_getElem? (i := 4) rfl), fun _ h => absurd h List.not_mem_nil⟩⟩⟩⟩) (by decide +kernel)) ggX10_worth_X10_worthOf
theorem bX10_worth_0 : ((bys cX10_worth).drop 0).take 16 = [42, 27, 182, 0, 253, 153, 0, 11, 42, 27, 182, 1, 11, 167, 0, 6] := by decide +kernel
theorem dX10_worth_0 : decode cX10_worth 0 = .ok (.aload_n 0, 1) := do_42 (byt_at bX10_worth_0 (j := 0) rfl)
theorem dX10_worth_1 : decode cX10_worth 1 = .ok (.iload_n 1, 1) := do_27 (byt_at bX10_worth_0 (j := 1) rfl)
theorem dX10_worth_2 : decode cX10_worth 2 = .ok (.invokevirtual 253, 3) := do_182 0 253 (byt_at bX10_worth_0 (j := 2) rfl) (byt_at bX10_worth_0 (j := 3) rfl) (byt_at bX10_worth_0 (j := 4) rfl)
theorem dX10_worth_5 : decode cX10_worth 5 = .ok (.ifCond .eq 11, 3) := do_153 0 11 (byt_at bX10_worth_0 (j := 5) rfl) (byt_at bX10_worth_0 (j := 6) rfl) (byt_at bX10_worth_0 (j := 7) rfl) (by decide)
theorem dX10_worth_8 : decode cX10_worth 8 = .ok (.aload_n 0, 1) := do_42 (byt_at bX10_worth_0 (j := 8) rfl)
theorem dX10_worth_9 : decode cX10_worth 9 = .ok (.iload_n 1, 1) := do_27 (byt_at bX10_worth_0 (j := 9) rfl)
theorem dX10_worth_10 : decode cX10_worth 10 = .ok (.invokevirtual 267, 3) := do_182 1 11 (byt_at bX10_worth_0 (j := 10) rfl) (byt_at bX10_worth_0 (j := 11) rfl) (byt_at bX10_worth_0 (j := 12) rfl)
theorem dX10_worth_13 : decode cX10_worth 13 = .ok (.goto 6, 3) := do_167 0 6 (byt_at bX10_worth_0 (j := 13) rfl) (byt_at bX10_worth_0 (j := 14) rfl) (byt_at bX10_worth_0 (j := 15) rfl) (by decide)
theorem bX10_worth_1 : ((bys cX10_worth).drop 16).take 16 = [19, 1, 14, 172] := by decide +kernel
theorem dX10_worth_16 : decode cX10_worth 16 = .ok (.ldc_w 270, 3) := do_19 1 14 (byt_at bX10_worth_1 (j := 0) rfl) (byt_at bX10_worth_1 (j := 1) rfl) (byt_at bX10_worth_1 (j := 2) rfl)
theorem dX10_worth_19 : decode cX10_worth 19 = .ok (.ireturn, 1) := do_172 (byt_at bX10_worth_1 (j := 3) rfl)
theorem kk_X10_feeling_0 : Cond.constantLong RX10 262 (9999) ∈ wsX10_feeling := List.mem_cons_of_mem _ (List.mem_append_left _ (List.mem_of_getElem? (i := 0) rfl))
theorem kk_X10_wage_0 : Cond.fieldLink RX10 17 "PaidBySignsModel" "num" "[I" ∈ wsX10_wage := List.mem_cons_of_mem _ (List.mem_append_left _ (List.mem_of_getElem? (i := 0) rfl))
theorem kk_X10_wage_1 : Cond.constantLong RX10 262 (9999) ∈ wsX10_wage := List.mem_cons_of_mem _ (List.mem_append_left _ (List.mem_of_getElem? (i := 1) rfl))
theorem kk_X10_wage_2 : Cond.fieldLink RX10 43 "PaidBySignsModel" "hand" "[I" ∈ wsX10_wage := List.mem_cons_of_mem _ (List.mem_append_left _ (List.mem_of_getElem? (i := 2) rfl))
theorem kk_X10_worthOf_0 : Cond.fieldLink RX10 17 "PaidBySignsModel" "num" "[I" ∈ wsX10_worthOf := List.mem_cons_of_mem _ (List.mem_append_left _ (List.mem_of_getElem? (i := 0) rfl))
theorem kk_X10_worthOf_1 : Cond.fieldLink RX10 31 "PaidBySignsModel" "costs" "[I" ∈ wsX10_worthOf := List.mem_cons_of_mem _ (List.mem_append_left _ (List.mem_of_getElem? (i := 1) rfl))
theorem kk_X10_worthOf_2 : Cond.fieldLink RX10 43 "PaidBySignsModel" "hand" "[I" ∈ wsX10_worthOf := List.mem_cons_of_mem _ (List.mem_append_left _ (List.mem_of_getElem? (i := 2) rfl))
theorem kk_X10_leftBy_0 : Cond.fieldLink RX10 17 "PaidBySignsModel" "num" "[I" ∈ wsX10_leftBy := List.mem_cons_of_mem _ (List.mem_append_left _ (List.mem_of_getElem? (i := 0) rfl))
theorem kk_X10_leftBy_1 : Cond.fieldLink RX10 28 "PaidBySignsModel" "brings" "[I" ∈ wsX10_leftBy := List.mem_cons_of_mem _ (List.mem_append_left _ (List.mem_of_getElem? (i := 1) rfl))
theorem kk_X10_leftBy_2 : Cond.fieldLink RX10 43 "PaidBySignsModel" "hand" "[I" ∈ wsX10_leftBy := List.mem_cons_of_mem _ (List.mem_append_left _ (List.mem_of_getElem? (i := 2) rfl))
theorem kk_X10_worth_0 : Cond.constant RX10 270 (-2000000000) ∈ wsX10_worth := pm_X10_worth_r1 _ (List.mem_of_getElem? (i := 0) rfl)
theorem iw_X10_wage_X10 : ∀ w ∈ wsX100, w ∈ wsX10_wage := fun _ h => List.mem_cons_of_mem _ (List.mem_append_right _ h)
theorem iw_X10_worthOf_X10 : ∀ w ∈ wsX100, w ∈ wsX10_worthOf := fun _ h => List.mem_cons_of_mem _ (List.mem_append_right _ h)
theorem iw_X10_leftBy_X10 : ∀ w ∈ wsX100, w ∈ wsX10_leftBy := fun _ h => List.mem_cons_of_mem _ (List.mem_append_right _ h)
