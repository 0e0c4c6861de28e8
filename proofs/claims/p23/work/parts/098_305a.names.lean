abbrev cX10_isSign : ByteArray := prog_12_method_26_code
def yX10_isSign : MethodName := ⟨RX10, "isSign", "(I)Z"⟩
abbrev cX10_isWork : ByteArray := prog_12_method_27_code
def yX10_isWork : MethodName := ⟨RX10, "isWork", "(I)Z"⟩
abbrev cX10_chanceOf : ByteArray := prog_12_method_28_code
def yX10_chanceOf : MethodName := ⟨RX10, "chanceOf", "(II)I"⟩
abbrev cX10_chance : ByteArray := prog_12_method_29_code
def yX10_chance : MethodName := ⟨RX10, "chance", "(II)I"⟩
abbrev cX10_feel : ByteArray := prog_12_method_30_code
def yX10_feel : MethodName := ⟨RX10, "feel", "(I)I"⟩
def wsX10_isSign : List Cond := .code yX10_isSign cX10_isSign 2 (some .boolean) :: ([.fieldLink RX10 17 "PaidBySignsModel" "num" "[I", .methodLink RX10 174 yX10_in, .static yX10_in, .initialized RX10, .code yX10_in cX10_in 6 (some .boolean)] ++ wsX100)
def wsX10_isWork : List Cond := .code yX10_isWork cX10_isWork 2 (some .boolean) :: ([.fieldLink RX10 17 "PaidBySignsModel" "num" "[I", .methodLink RX10 174 yX10_in, .static yX10_in, .initialized RX10, .code yX10_in cX10_in 6 (some .boolean)] ++ wsX100)
def wsX10_chanceOf : List Cond := .code yX10_chanceOf cX10_chanceOf 3 (some .int) :: ([.fieldLink RX10 34 "PaidBySignsModel" "chances" "[I"] ++ wsX100)
def wsX10_chance : List Cond := .code yX10_chance cX10_chance 3 (some .int) :: ([.methodLink RX10 253 yX10_isWork, .instanceMethod yX10_isWork, .selects RX10 yX10_isWork yX10_isWork, .initialized RX10, .code yX10_isWork cX10_isWork 2 (some .boolean), .fieldLink RX10 17 "PaidBySignsModel" "num" "[I", .methodLink RX10 174 yX10_in, .static yX10_in, .code yX10_in cX10_in 6 (some .boolean), .methodLink RX10 256 yX10_isSign, .instanceMethod yX10_isSign, .selects RX10 yX10_isSign yX10_isSign, .code yX10_isSign cX10_isSign 2 (some .boolean), .methodLink RX10 259 yX10_chanceOf, .instanceMethod yX10_chanceOf, .selects RX10 yX10_chanceOf yX10_chanceOf, .code yX10_chanceOf cX10_chanceOf 3 (some .int), .fieldLink RX10 34 "PaidBySignsModel" "chances" "[I"] ++ wsX100)
def wsX10_feel : List Cond := .code yX10_feel cX10_feel 6 (some .int) :: ([.fieldLink RX10 17 "PaidBySignsModel" "num" "[I", .fieldLink RX10 40 "PaidBySignsModel" "marks" "[I", .fieldLink RX10 37 "PaidBySignsModel" "rates" "[I"] ++ wsX100)
set_option maxRecDepth 20000 in
theorem ggX10_isSign_X10_in : GoodIn wsX10_isSign wsX10_in := goodIn_sub (List.forall_mem_cons.mpr ⟨List.mem_cons_of_mem _ (List.mem_append_left _ (List.mem_of_getElem? (i := 4) rfl)), fun _ h => absurd h List.not_mem_nil⟩) (by decide +kernel)
set_option maxRecDepth 20000 in
theorem gX10_isSign_X10_in : GoodIn wsX10_isSign (va_wsS RX10 174 yX10_in wsX10_in) := goodIn_app (goodIn_sub (List.forall_mem_cons.mpr ⟨List.mem_cons_of_mem _ (List.mem_append_left _ (List.mem_of_getElem? (i := 1) rfl)), List.forall_mem_cons.mpr ⟨List.mem_cons_of_mem _ (List.mem_append_left _ (List.mem_of_getElem? (i := 2) rfl)), List.forall_mem_cons.mpr ⟨List.mem_cons_of_mem _ (List.mem_append_left _ (List.mem_of_getElem? (i := 3) rfl)), fun _ h => absurd h List.not_mem_nil⟩⟩⟩) (by decide +kernel)) ggX10_isSign_X10_in
theorem bX10_isSign_0 : ((bys cX10_isSign).drop 0).take 16 = [27, 133, 9, 42, 180, 0, 17, 6, 46, 4, 100, 133, 184, 0, 174, 172] := by decide +kernel
theorem dX10_isSign_0 : decode cX10_isSign 0 = .ok (.iload_n 1, 1) := do_27 (byt_at bX10_isSign_0 (j := 0) rfl)
theorem dX10_isSign_1 : decode cX10_isSign 1 = .ok (.i2l, 1) := do_133 (byt_at bX10_isSign_0 (j := 1) rfl)
theorem dX10_isSign_2 : decode cX10_isSign 2 = .ok (.lconst 0, 1) := do_9 (byt_at bX10_isSign_0 (j := 2) rfl)
theorem dX10_isSign_3 : decode cX10_isSign 3 = .ok (.aload_n 0, 1) := do_42 (byt_at bX10_isSign_0 (j := 3) rfl)
theorem dX10_isSign_4 : decode cX10_isSign 4 = .ok (.getfield 17, 3) := do_180 0 17 (byt_at bX10_isSign_0 (j := 4) rfl) (byt_at bX10_isSign_0 (j := 5) rfl) (byt_at bX10_isSign_0 (j := 6) rfl)
theorem dX10_isSign_7 : decode cX10_isSign 7 = .ok (.iconst 3, 1) := do_6 (byt_at bX10_isSign_0 (j := 7) rfl)
theorem dX10_isSign_8 : decode cX10_isSign 8 = .ok (.iaload, 1) := do_46 (byt_at bX10_isSign_0 (j := 8) rfl)
theorem dX10_isSign_9 : decode cX10_isSign 9 = .ok (.iconst 1, 1) := do_4 (byt_at bX10_isSign_0 (j := 9) rfl)
theorem dX10_isSign_10 : decode cX10_isSign 10 = .ok (.isub, 1) := do_100 (byt_at bX10_isSign_0 (j := 10) rfl)
theorem dX10_isSign_11 : decode cX10_isSign 11 = .ok (.i2l, 1) := do_133 (byt_at bX10_isSign_0 (j := 11) rfl)
theorem dX10_isSign_12 : decode cX10_isSign 12 = .ok (.invokestatic 174, 3) := do_184 0 174 (byt_at bX10_isSign_0 (j := 12) rfl) (byt_at bX10_isSign_0 (j := 13) rfl) (byt_at bX10_isSign_0 (j := 14) rfl)
theorem dX10_isSign_15 : decode cX10_isSign 15 = .ok (.ireturn, 1) := do_172 (byt_at bX10_isSign_0 (j := 15) rfl)
set_option maxRecDepth 20000 in
theorem ggX10_isWork_X10_in : GoodIn wsX10_isWork wsX10_in := goodIn_sub (List.forall_mem_cons.mpr ⟨List.mem_cons_of_mem _ (List.mem_append_left _ (List.mem_of_getElem? (i := 4) rfl)), fun _ h => absurd h List.not_mem_nil⟩) (by decide +kernel)
set_option maxRecDepth 20000 in
theorem gX10_isWork_X10_in : GoodIn wsX10_isWork (va_wsS RX10 174 yX10_in wsX10_in) := goodIn_app (goodIn_sub (List.forall_mem_cons.mpr ⟨List.mem_cons_of_mem _ (List.mem_append_left _ (List.mem_of_getElem? (i := 1) rfl)), List.forall_mem_cons.mpr ⟨List.mem_cons_of_mem _ (List.mem_append_left _ (List.mem_of_getElem? (i := 2) rfl)), List.forall_mem_cons.mpr ⟨List.mem_cons_of_mem _ (List.mem_append_left _ (List.mem_of_getElem? (i := 3) rfl)), fun _ h => absurd h List.not_mem_nil⟩⟩⟩) (by decide +kernel)) ggX10_isWork_X10_in
theorem bX10_isWork_0 : ((bys cX10_isWork).drop 0).take 16 = [27, 133, 9, 42, 180, 0, 17, 7, 46, 4, 100, 133, 184, 0, 174, 172] := by decide +kernel
theorem dX10_isWork_0 : decode cX10_isWork 0 = .ok (.iload_n 1, 1) := do_27 (byt_at bX10_isWork_0 (j := 0) rfl)
theorem dX10_isWork_1 : decode cX10_isWork 1 = .ok (.i2l, 1) := do_133 (byt_at bX10_isWork_0 (j := 1) rfl)
theorem dX10_isWork_2 : decode cX10_isWork 2 = .ok (.lconst 0, 1) := do_9 (byt_at bX10_isWork_0 (j := 2) rfl)
theorem dX10_isWork_3 : decode cX10_isWork 3 = .ok (.aload_n 0, 1) := do_42 (byt_at bX10_isWork_0 (j := 3) rfl)
theorem dX10_isWork_4 : decode cX10_isWork 4 = .ok (.getfield 17, 3) := do_180 0 17 (byt_at bX10_isWork_0 (j := 4) rfl) (byt_at bX10_isWork_0 (j := 5) rfl) (byt_at bX10_isWork_0 (j := 6) rfl)
theorem dX10_isWork_7 : decode cX10_isWork 7 = .ok (.iconst 4, 1) := do_7 (byt_at bX10_isWork_0 (j := 7) rfl)
theorem dX10_isWork_8 : decode cX10_isWork 8 = .ok (.iaload, 1) := do_46 (byt_at bX10_isWork_0 (j := 8) rfl)
theorem dX10_isWork_9 : decode cX10_isWork 9 = .ok (.iconst 1, 1) := do_4 (byt_at bX10_isWork_0 (j := 9) rfl)
theorem dX10_isWork_10 : decode cX10_isWork 10 = .ok (.isub, 1) := do_100 (byt_at bX10_isWork_0 (j := 10) rfl)
theorem dX10_isWork_11 : decode cX10_isWork 11 = .ok (.i2l, 1) := do_133 (byt_at bX10_isWork_0 (j := 11) rfl)
theorem dX10_isWork_12 : decode cX10_isWork 12 = .ok (.invokestatic 174, 3) := do_184 0 174 (byt_at bX10_isWork_0 (j := 12) rfl) (byt_at bX10_isWork_0 (j := 13) rfl) (byt_at bX10_isWork_0 (j := 14) rfl)
theorem dX10_isWork_15 : decode cX10_isWork 15 = .ok (.ireturn, 1) := do_172 (byt_at bX10_isWork_0 (j := 15) rfl)
theorem bX10_chanceOf_0 : ((bys cX10_chanceOf).drop 0).take 16 = [42, 180, 0, 34, 7, 27, 104, 28, 96, 46, 172] := by decide +kernel
theorem dX10_chanceOf_0 : decode cX10_chanceOf 0 = .ok (.aload_n 0, 1) := do_42 (byt_at bX10_chanceOf_0 (j := 0) rfl)
theorem dX10_chanceOf_1 : decode cX10_chanceOf 1 = .ok (.getfield 34, 3) := do_180 0 34 (byt_at bX10_chanceOf_0 (j := 1) rfl) (byt_at bX10_chanceOf_0 (j := 2) rfl) (byt_at bX10_chanceOf_0 (j := 3) rfl)
theorem dX10_chanceOf_4 : decode cX10_chanceOf 4 = .ok (.iconst 4, 1) := do_7 (byt_at bX10_chanceOf_0 (j := 4) rfl)
theorem dX10_chanceOf_5 : decode cX10_chanceOf 5 = .ok (.iload_n 1, 1) := do_27 (byt_at bX10_chanceOf_0 (j := 5) rfl)
theorem dX10_chanceOf_6 : decode cX10_chanceOf 6 = .ok (.imul, 1) := do_104 (byt_at bX10_chanceOf_0 (j := 6) rfl)
theorem dX10_chanceOf_7 : decode cX10_chanceOf 7 = .ok (.iload_n 2, 1) := do_28 (byt_at bX10_chanceOf_0 (j := 7) rfl)
theorem dX10_chanceOf_8 : decode cX10_chanceOf 8 = .ok (.iadd, 1) := do_96 (byt_at bX10_chanceOf_0 (j := 8) rfl)
theorem dX10_chanceOf_9 : decode cX10_chanceOf 9 = .ok (.iaload, 1) := do_46 (byt_at bX10_chanceOf_0 (j := 9) rfl)
theorem dX10_chanceOf_10 : decode cX10_chanceOf 10 = .ok (.ireturn, 1) := do_172 (byt_at bX10_chanceOf_0 (j := 10) rfl)
set_option maxRecDepth 20000 in
theorem ggX10_chance_X10_isWork : GoodIn wsX10_chance wsX10_isWork := goodIn_sub (List.forall_mem_cons.mpr ⟨List.mem_cons_of_mem _ (List.mem_append_left _ (List.mem_of_getElem? (i := 4) rfl)), List.forall_mem_append.mpr ⟨List.forall_mem_cons.mpr ⟨List.mem_cons_of_mem _ (List.mem_append_left _ (List.mem_of_getElem? (i := 5) rfl)), List.forall_mem_cons.mpr ⟨List.mem_cons_of_mem _ (List.mem_append_left _ (List.mem_of_getElem? (i := 6) rfl)), List.forall_mem_cons.mpr ⟨List.mem_cons_of_mem _ (List.mem_append_left _ (List.mem_of_getElem? (i := 7) rfl)), List.forall_mem_cons.mpr ⟨List.mem_cons_of_mem _ (List.mem_append_left _ (List.mem_of_getElem? (i := 3) rfl)), List.forall_mem_cons.mpr ⟨List.mem_cons_of_mem _ (List.mem_append_left _ (List.mem_of_getElem? (i := 8) rfl)), fun _ h => absurd h List.not_mem_nil⟩⟩⟩⟩⟩, fun _ h => List.mem_cons_of_mem _ (List.mem_append_right _ h)⟩⟩) (by decide +kernel)
set_option maxRecDepth 20000 in
theorem gX10_chance_X10_isWork : GoodIn wsX10_chance (wsV RX10 253 RX10 yX10_isWork wsX10_isWork) := goodIn_app (goodIn_sub (List.forall_mem_cons.mpr ⟨List.mem_cons_of_mem _ (List.mem_append_left _ (List.mem_of_getElem? (i := 0) rfl)), List.forall_mem_cons.mpr ⟨List.mem_cons_of_mem _ (List.mem_append_left _ (List.mem_of_getElem? (i := 1) rfl)), List.forall_mem_cons.mpr ⟨List.mem_cons_of_mem _ (List.mem_append_left _ (List.mem_of_getElem? (i := 2) rfl)), List.forall_mem_cons.mpr ⟨List.mem_cons_of_mem _ (List.mem_append_left _ (List.mem_of_getElem? (i := 3) rfl)), fun _ h => absurd h List.not_mem_nil⟩⟩⟩⟩) (by decide +kernel)) ggX10_chance_X10_isWork
set_option maxRecDepth 20000 in
theorem ggX10_chance_X10_isSign : GoodIn wsX10_chance wsX10_isSign := goodIn_sub (List.forall_mem_cons.mpr ⟨List.mem_cons_of_mem _ (List.mem_append_left _ (List.mem_of_getElem? (i := 12) rfl)), List.forall_mem_append.mpr ⟨List.forall_mem_cons.mpr ⟨List.mem_cons_of_mem _ (List.mem_append_left _ (List.mem_of_getElem? (i := 5) rfl)), List.forall_mem_cons.mpr ⟨List.mem_cons_of_mem _ (List.mem_append_left _ (List.mem_of_getElem? (i := 6) rfl)), List.forall_mem_cons.mpr ⟨List.mem_cons_of_mem _ (List.mem_append_left _ (List.mem_of_getElem? (i := 7) rfl)), List.forall_mem_cons.mpr ⟨List.mem_cons_of_mem _ (List.mem_append_left _ (List.mem_of_getElem? (i := 3) rfl)), List.forall_mem_cons.mpr ⟨List.mem_cons_of_mem _ (List.mem_append_left _ (List.mem_of_getElem? (i := 8) rfl)), fun _ h => absurd h List.not_mem_nil⟩⟩⟩⟩⟩, fun _ h => List.mem_cons_of_mem _ (List.mem_append_right _ h)⟩⟩) (by decide +kernel)
set_option maxRecDepth 20000 in
theorem gX10_chance_X10_isSign : GoodIn wsX10_chance (wsV RX10 256 RX10 yX10_isSign wsX10_isSign) := goodIn_app (goodIn_sub (List.forall_mem_cons.mpr ⟨List.mem_cons_of_mem _ (List.mem_append_left _ (List.mem_of_getElem? (i := 9) rfl)), List.forall_mem_cons.mpr ⟨List.mem_cons_of_mem _ (List.mem_append_left _ (List.mem_of_getElem? (i := 10) rfl)), List.forall_mem_cons.mpr ⟨List.mem_cons_of_mem _ (List.mem_append_left _ (List.mem_of_getElem? (i := 11) rfl)), List.forall_mem_cons.mpr ⟨List.mem_cons_of_mem _ (List.mem_append_left _ (List.mem_of_getElem? (i := 3) rfl)), fun _ h => absurd h List.not_mem_nil⟩⟩⟩⟩) (by decide +kernel)) ggX10_chance_X10_isSign
set_option maxRecDepth 20000 in
theorem ggX10_chance_X10_chanceOf : GoodIn wsX10_chance wsX10_chanceOf := goodIn_sub (List.forall_mem_cons.mpr ⟨List.mem_cons_of_mem _ (List.mem_append_left _ (List.mem_of_getElem? (i := 16) rfl)), List.forall_mem_append.mpr ⟨List.forall_mem_cons.mpr ⟨List.mem_cons_of_mem _ (List.mem_append_left _ (List.mem_of_getElem? (i := 17) rfl)), fun _ h => absurd h List.not_mem_nil⟩, fun _ h => List.mem_cons_of_mem _ (List.mem_append_right _ h)⟩⟩) (by decide +kernel)
set_option maxRecDepth 20000 in
theorem gX10_chance_X10_chanceOf : GoodIn wsX10_chance (wsV RX10 259 RX10 yX10_chanceOf wsX10_chanceOf) := goodIn_app (goodIn_sub (List.forall_mem_cons.mpr ⟨List.mem_cons_of_mem _ (List.mem_append_left _ (List.mem_of_getElem? (i := 13) rfl)), List.forall_mem_cons.mpr ⟨List.mem_cons_of_mem _ (List.mem_append_left _ (List.mem_of_getElem? (i := 14) rfl)), List.forall_mem_cons.mpr ⟨List.mem_cons_of_mem _ (List.mem_append_left _ (List.mem_of_getElem? (i := 15) rfl)), List.forall_mem_cons.mpr ⟨List.mem_cons_of_mem _ (List.mem_append_left _ (List.mem_of_getElem? (i := 3) rfl)), fun _ h => absurd h List.not_mem_nil⟩⟩⟩⟩) (by decide +kernel)) ggX10_chance_X10_chanceOf
theorem bX10_chance_0 : ((bys cX10_chance).drop 0).take 16 = [42, 27, 182, 0, 253, 153, 0, 20, 42, 28, 182, 1, 0, 153, 0, 12] := by decide +kernel
theorem dX10_chance_0 : decode cX10_chance 0 = .ok (.aload_n 0, 1) := do_42 (byt_at bX10_chance_0 (j := 0) rfl)
theorem dX10_chance_1 : decode cX10_chance 1 = .ok (.iload_n 1, 1) := do_27 (byt_at bX10_chance_0 (j := 1) rfl)
theorem dX10_chance_2 : decode cX10_chance 2 = .ok (.invokevirtual 253, 3) := do_182 0 253 (byt_at bX10_chance_0 (j := 2) rfl) (byt_at bX10_chance_0 (j := 3) rfl) (byt_at bX10_chance_0 (j := 4) rfl)
theorem dX10_chance_5 : decode cX10_chance 5 = .ok (.ifCond .eq 20, 3) := do_153 0 20 (byt_at bX10_chance_0 (j := 5) rfl) (byt_at bX10_chance_0 (j := 6) rfl) (byt_at bX10_chance_0 (j := 7) rfl) (by decide)
theorem dX10_chance_8 : decode cX10_chance 8 = .ok (.aload_n 0, 1) := do_42 (byt_at bX10_chance_0 (j := 8) rfl)
theorem dX10_chance_9 : decode cX10_chance 9 = .ok (.iload_n 2, 1) := do_28 (byt_at bX10_chance_0 (j := 9) rfl)
theorem dX10_chance_10 : decode cX10_chance 10 = .ok (.invokevirtual 256, 3) := do_182 1 0 (byt_at bX10_chance_0 (j := 10) rfl) (byt_at bX10_chance_0 (j := 11) rfl) (byt_at bX10_chance_0 (j := 12) rfl)
theorem dX10_chance_13 : decode cX10_chance 13 = .ok (.ifCond .eq 12, 3) := do_153 0 12 (byt_at bX10_chance_0 (j := 13) rfl) (byt_at bX10_chance_0 (j := 14) rfl) (byt_at bX10_chance_0 (j := 15) rfl) (by decide)
theorem bX10_chance_1 : ((bys cX10_chance).drop 16).take 16 = [42, 27, 28, 182, 1, 3, 167, 0, 5, 16, 254, 172] := by decide +kernel
theorem dX10_chance_16 : decode cX10_chance 16 = .ok (.aload_n 0, 1) := do_42 (byt_at bX10_chance_1 (j := 0) rfl)
theorem dX10_chance_17 : decode cX10_chance 17 = .ok (.iload_n 1, 1) := do_27 (byt_at bX10_chance_1 (j := 1) rfl)
theorem dX10_chance_18 : decode cX10_chance 18 = .ok (.iload_n 2, 1) := do_28 (byt_at bX10_chance_1 (j := 2) rfl)
theorem dX10_chance_19 : decode cX10_chance 19 = .ok (.invokevirtual 259, 3) := do_182 1 3 (byt_at bX10_chance_1 (j := 3) rfl) (byt_at bX10_chance_1 (j := 4) rfl) (byt_at bX10_chance_1 (j := 5) rfl)
theorem dX10_chance_22 : decode cX10_chance 22 = .ok (.goto 5, 3) := do_167 0 5 (byt_at bX10_chance_1 (j := 6) rfl) (byt_at bX10_chance_1 (j := 7) rfl) (byt_at bX10_chance_1 (j := 8) rfl) (by decide)
theorem dX10_chance_25 : decode cX10_chance 25 = .ok (.bipush (-2), 2) := do_16 254 (byt_at bX10_chance_1 (j := 9) rfl) (byt_at bX10_chance_1 (j := 10) rfl) (by decide)
theorem dX10_chance_27 : decode cX10_chance 27 = .ok (.ireturn, 1) := do_172 (byt_at bX10_chance_1 (j := 11) rfl)
theorem bX10_feel_0 : ((bys cX10_feel).drop 0).take 16 = [3, 61, 3, 62, 3, 54, 4, 21, 4, 42, 180, 0, 17, 8, 46, 162] := by decide +kernel
theorem dX10_feel_0 : decode cX10_feel 0 = .ok (.iconst 0, 1) := do_3 (byt_at bX10_feel_0 (j := 0) rfl)
theorem dX10_feel_1 : decode cX10_feel 1 = .ok (.istore_n 2, 1) := do_61 (byt_at bX10_feel_0 (j := 1) rfl)
theorem dX10_feel_2 : decode cX10_feel 2 = .ok (.iconst 0, 1) := do_3 (byt_at bX10_feel_0 (j := 2) rfl)
theorem dX10_feel_3 : decode cX10_feel 3 = .ok (.istore_n 3, 1) := do_62 (byt_at bX10_feel_0 (j := 3) rfl)
theorem dX10_feel_4 : decode cX10_feel 4 = .ok (.iconst 0, 1) := do_3 (byt_at bX10_feel_0 (j := 4) rfl)
theorem dX10_feel_5 : decode cX10_feel 5 = .ok (.istore 4, 2) := do_54 4 (byt_at bX10_feel_0 (j := 5) rfl) (byt_at bX10_feel_0 (j := 6) rfl)
theorem dX10_feel_7 : decode cX10_feel 7 = .ok (.iload 4, 2) := do_21 4 (byt_at bX10_feel_0 (j := 7) rfl) (byt_at bX10_feel_0 (j := 8) rfl)
theorem dX10_feel_9 : decode cX10_feel 9 = .ok (.aload_n 0, 1) := do_42 (byt_at bX10_feel_0 (j := 9) rfl)
theorem dX10_feel_10 : decode cX10_feel 10 = .ok (.getfield 17, 3) := do_180 0 17 (byt_at bX10_feel_0 (j := 10) rfl) (byt_at bX10_feel_0 (j := 11) rfl) (byt_at bX10_feel_0 (j := 12) rfl)
theorem dX10_feel_13 : decode cX10_feel 13 = .ok (.iconst 5, 1) := do_8 (byt_at bX10_feel_0 (j := 13) rfl)
theorem dX10_feel_14 : decode cX10_feel 14 = .ok (.iaload, 1) := do_46 (byt_at bX10_feel_0 (j := 14) rfl)
theorem bX10_feel_1 : ((bys cX10_feel).drop 16).take 16 = [0, 70, 21, 4, 4, 96, 42, 180, 0, 17, 8, 46, 162, 0, 24, 42] := by decide +kernel
theorem dX10_feel_15 : decode cX10_feel 15 = .ok (.if_icmp .ge 70, 3) := do_162 0 70 (byt_at bX10_feel_0 (j := 15) rfl) (byt_at bX10_feel_1 (j := 0) rfl) (byt_at bX10_feel_1 (j := 1) rfl) (by decide)
theorem dX10_feel_18 : decode cX10_feel 18 = .ok (.iload 4, 2) := do_21 4 (byt_at bX10_feel_1 (j := 2) rfl) (byt_at bX10_feel_1 (j := 3) rfl)
theorem dX10_feel_20 : decode cX10_feel 20 = .ok (.iconst 1, 1) := do_4 (byt_at bX10_feel_1 (j := 4) rfl)
theorem dX10_feel_21 : decode cX10_feel 21 = .ok (.iadd, 1) := do_96 (byt_at bX10_feel_1 (j := 5) rfl)
theorem dX10_feel_22 : decode cX10_feel 22 = .ok (.aload_n 0, 1) := do_42 (byt_at bX10_feel_1 (j := 6) rfl)
theorem dX10_feel_23 : decode cX10_feel 23 = .ok (.getfield 17, 3) := do_180 0 17 (byt_at bX10_feel_1 (j := 7) rfl) (byt_at bX10_feel_1 (j := 8) rfl) (byt_at bX10_feel_1 (j := 9) rfl)
theorem dX10_feel_26 : decode cX10_feel 26 = .ok (.iconst 5, 1) := do_8 (byt_at bX10_feel_1 (j := 10) rfl)
theorem dX10_feel_27 : decode cX10_feel 27 = .ok (.iaload, 1) := do_46 (byt_at bX10_feel_1 (j := 11) rfl)
theorem dX10_feel_28 : decode cX10_feel 28 = .ok (.if_icmp .ge 24, 3) := do_162 0 24 (byt_at bX10_feel_1 (j := 12) rfl) (byt_at bX10_feel_1 (j := 13) rfl) (byt_at bX10_feel_1 (j := 14) rfl) (by decide)
theorem dX10_feel_31 : decode cX10_feel 31 = .ok (.aload_n 0, 1) := do_42 (byt_at bX10_feel_1 (j := 15) rfl)
theorem bX10_feel_2 : ((bys cX10_feel).drop 32).take 16 = [180, 0, 40, 21, 4, 46, 27, 162, 0, 13, 42, 180, 0, 40, 21, 4] := by decide +kernel
theorem dX10_feel_32 : decode cX10_feel 32 = .ok (.getfield 40, 3) := do_180 0 40 (byt_at bX10_feel_2 (j := 0) rfl) (byt_at bX10_feel_2 (j := 1) rfl) (byt_at bX10_feel_2 (j := 2) rfl)
theorem dX10_feel_35 : decode cX10_feel 35 = .ok (.iload 4, 2) := do_21 4 (byt_at bX10_feel_2 (j := 3) rfl) (byt_at bX10_feel_2 (j := 4) rfl)
theorem dX10_feel_37 : decode cX10_feel 37 = .ok (.iaload, 1) := do_46 (byt_at bX10_feel_2 (j := 5) rfl)
theorem dX10_feel_38 : decode cX10_feel 38 = .ok (.iload_n 1, 1) := do_27 (byt_at bX10_feel_2 (j := 6) rfl)
theorem dX10_feel_39 : decode cX10_feel 39 = .ok (.if_icmp .ge 13, 3) := do_162 0 13 (byt_at bX10_feel_2 (j := 7) rfl) (byt_at bX10_feel_2 (j := 8) rfl) (byt_at bX10_feel_2 (j := 9) rfl) (by decide)
theorem dX10_feel_42 : decode cX10_feel 42 = .ok (.aload_n 0, 1) := do_42 (byt_at bX10_feel_2 (j := 10) rfl)
theorem dX10_feel_43 : decode cX10_feel 43 = .ok (.getfield 40, 3) := do_180 0 40 (byt_at bX10_feel_2 (j := 11) rfl) (byt_at bX10_feel_2 (j := 12) rfl) (byt_at bX10_feel_2 (j := 13) rfl)
theorem dX10_feel_46 : decode cX10_feel 46 = .ok (.iload 4, 2) := do_21 4 (byt_at bX10_feel_2 (j := 14) rfl) (byt_at bX10_feel_2 (j := 15) rfl)
theorem bX10_feel_3 : ((bys cX10_feel).drop 48).take 16 = [46, 167, 0, 4, 27, 54, 5, 21, 5, 29, 164, 0, 18, 28, 42, 180] := by decide +kernel
theorem dX10_feel_48 : decode cX10_feel 48 = .ok (.iaload, 1) := do_46 (byt_at bX10_feel_3 (j := 0) rfl)
theorem dX10_feel_49 : decode cX10_feel 49 = .ok (.goto 4, 3) := do_167 0 4 (byt_at bX10_feel_3 (j := 1) rfl) (byt_at bX10_feel_3 (j := 2) rfl) (byt_at bX10_feel_3 (j := 3) rfl) (by decide)
theorem dX10_feel_52 : decode cX10_feel 52 = .ok (.iload_n 1, 1) := do_27 (byt_at bX10_feel_3 (j := 4) rfl)
theorem dX10_feel_53 : decode cX10_feel 53 = .ok (.istore 5, 2) := do_54 5 (byt_at bX10_feel_3 (j := 5) rfl) (byt_at bX10_feel_3 (j := 6) rfl)
theorem dX10_feel_55 : decode cX10_feel 55 = .ok (.iload 5, 2) := do_21 5 (byt_at bX10_feel_3 (j := 7) rfl) (byt_at bX10_feel_3 (j := 8) rfl)
theorem dX10_feel_57 : decode cX10_feel 57 = .ok (.iload_n 3, 1) := do_29 (byt_at bX10_feel_3 (j := 9) rfl)
theorem dX10_feel_58 : decode cX10_feel 58 = .ok (.if_icmp .le 18, 3) := do_164 0 18 (byt_at bX10_feel_3 (j := 10) rfl) (byt_at bX10_feel_3 (j := 11) rfl) (byt_at bX10_feel_3 (j := 12) rfl) (by decide)
theorem dX10_feel_61 : decode cX10_feel 61 = .ok (.iload_n 2, 1) := do_28 (byt_at bX10_feel_3 (j := 13) rfl)
theorem dX10_feel_62 : decode cX10_feel 62 = .ok (.aload_n 0, 1) := do_42 (byt_at bX10_feel_3 (j := 14) rfl)
theorem bX10_feel_4 : ((bys cX10_feel).drop 64).take 16 = [0, 37, 21, 4, 46, 21, 5, 29, 100, 104, 96, 61, 21, 5, 62, 132] := by decide +kernel
theorem dX10_feel_63 : decode cX10_feel 63 = .ok (.getfield 37, 3) := do_180 0 37 (byt_at bX10_feel_3 (j := 15) rfl) (byt_at bX10_feel_4 (j := 0) rfl) (byt_at bX10_feel_4 (j := 1) rfl)
theorem dX10_feel_66 : decode cX10_feel 66 = .ok (.iload 4, 2) := do_21 4 (byt_at bX10_feel_4 (j := 2) rfl) (byt_at bX10_feel_4 (j := 3) rfl)
theorem dX10_feel_68 : decode cX10_feel 68 = .ok (.iaload, 1) := do_46 (byt_at bX10_feel_4 (j := 4) rfl)
theorem dX10_feel_69 : decode cX10_feel 69 = .ok (.iload 5, 2) := do_21 5 (byt_at bX10_feel_4 (j := 5) rfl) (byt_at bX10_feel_4 (j := 6) rfl)
theorem dX10_feel_71 : decode cX10_feel 71 = .ok (.iload_n 3, 1) := do_29 (byt_at bX10_feel_4 (j := 7) rfl)
theorem dX10_feel_72 : decode cX10_feel 72 = .ok (.isub, 1) := do_100 (byt_at bX10_feel_4 (j := 8) rfl)
theorem dX10_feel_73 : decode cX10_feel 73 = .ok (.imul, 1) := do_104 (byt_at bX10_feel_4 (j := 9) rfl)
theorem dX10_feel_74 : decode cX10_feel 74 = .ok (.iadd, 1) := do_96 (byt_at bX10_feel_4 (j := 10) rfl)
theorem dX10_feel_75 : decode cX10_feel 75 = .ok (.istore_n 2, 1) := do_61 (byt_at bX10_feel_4 (j := 11) rfl)
theorem dX10_feel_76 : decode cX10_feel 76 = .ok (.iload 5, 2) := do_21 5 (byt_at bX10_feel_4 (j := 12) rfl) (byt_at bX10_feel_4 (j := 13) rfl)
theorem dX10_feel_78 : decode cX10_feel 78 = .ok (.istore_n 3, 1) := do_62 (byt_at bX10_feel_4 (j := 14) rfl)
theorem bX10_feel_5 : ((bys cX10_feel).drop 80).take 16 = [4, 1, 167, 255, 181, 28, 172] := by decide +kernel
theorem dX10_feel_79 : decode cX10_feel 79 = .ok (.iinc 4 1, 3) := do_132 4 1 (byt_at bX10_feel_4 (j := 15) rfl) (byt_at bX10_feel_5 (j := 0) rfl) (byt_at bX10_feel_5 (j := 1) rfl) (by decide)
theorem dX10_feel_82 : decode cX10_feel 82 = .ok (.goto (-75), 3) := do_167 255 181 (byt_at bX10_feel_5 (j := 2) rfl) (byt_at bX10_feel_5 (j := 3) rfl) (byt_at bX10_feel_5 (j := 4) rfl) (by decide)
theorem dX10_feel_85 : decode cX10_feel 85 = .ok (.iload_n 2, 1) := do_28 (byt_at bX10_feel_5 (j := 5) rfl)
theorem dX10_feel_86 : decode cX10_feel 86 = .ok (.ireturn, 1) := do_172 (byt_at bX10_feel_5 (j := 6) rfl)
theorem kk_X10_isSign_0 : Cond.fieldLink RX10 17 "PaidBySignsModel" "num" "[I" ∈ wsX10_isSign := List.mem_cons_of_mem _ (List.mem_append_left _ (List.mem_of_getElem? (i := 0) rfl))
theorem kk_X10_isWork_0 : Cond.fieldLink RX10 17 "PaidBySignsModel" "num" "[I" ∈ wsX10_isWork := List.mem_cons_of_mem _ (List.mem_append_left _ (List.mem_of_getElem? (i := 0) rfl))
theorem kk_X10_chanceOf_0 : Cond.fieldLink RX10 34 "PaidBySignsModel" "chances" "[I" ∈ wsX10_chanceOf := List.mem_cons_of_mem _ (List.mem_append_left _ (List.mem_of_getElem? (i := 0) rfl))
theorem kk_X10_feel_0 : Cond.fieldLink RX10 17 "PaidBySignsModel" "num" "[I" ∈ wsX10_feel := List.mem_cons_of_mem _ (List.mem_append_left _ (List.mem_of_getElem? (i := 0) rfl))
theorem kk_X10_feel_1 : Cond.fieldLink RX10 37 "PaidBySignsModel" "rates" "[I" ∈ wsX10_feel := List.mem_cons_of_mem _ (List.mem_append_left _ (List.mem_of_getElem? (i := 2) rfl))
theorem kk_X10_feel_2 : Cond.fieldLink RX10 40 "PaidBySignsModel" "marks" "[I" ∈ wsX10_feel := List.mem_cons_of_mem _ (List.mem_append_left _ (List.mem_of_getElem? (i := 1) rfl))
theorem iw_X10_isSign_X10 : ∀ w ∈ wsX100, w ∈ wsX10_isSign := fun _ h => List.mem_cons_of_mem _ (List.mem_append_right _ h)
theorem iw_X10_isWork_X10 : ∀ w ∈ wsX100, w ∈ wsX10_isWork := fun _ h => List.mem_cons_of_mem _ (List.mem_append_right _ h)
theorem iw_X10_chanceOf_X10 : ∀ w ∈ wsX100, w ∈ wsX10_chanceOf := fun _ h => List.mem_cons_of_mem _ (List.mem_append_right _ h)
theorem iw_X10_feel_X10 : ∀ w ∈ wsX100, w ∈ wsX10_feel := fun _ h => List.mem_cons_of_mem _ (List.mem_append_right _ h)
