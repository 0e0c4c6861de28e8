abbrev cX10_odds : ByteArray := prog_12_method_83_code
def yX10_odds : MethodName := ⟨RX10, "odds", "(II)I"⟩
abbrev cX10_guess : ByteArray := prog_12_method_84_code
def yX10_guess : MethodName := ⟨RX10, "guess", "(I)I"⟩
abbrev cX10_count : ByteArray := prog_12_method_85_code
def yX10_count : MethodName := ⟨RX10, "count", "(I)I"⟩
def wsX10_odds_r1 : List Cond := [Cond.constantLong RX10 407 (999), Cond.fieldLink RX10 17 "PaidBySignsModel" "num" "[I", Cond.methodLink RX10 253 yX10_isWork, Cond.instanceMethod yX10_isWork, Cond.selects RX10 yX10_isWork yX10_isWork, Cond.initialized RX10, Cond.code yX10_isWork cX10_isWork 2 (some .boolean), Cond.methodLink RX10 174 yX10_in, Cond.static yX10_in, Cond.code yX10_in cX10_in 6 (some .boolean), Cond.methodLink RX10 409 yX10_product, Cond.instanceMethod yX10_product, Cond.selects RX10 yX10_product yX10_product, Cond.code yX10_product cX10_product 8 (some .long), Cond.fieldLink RX10 193 "PaidBySignsModel" "seenMany" "I", Cond.fieldLink RX10 91 "PaidBySignsModel" "sTold" "[I", Cond.fieldLink RX10 94 "PaidBySignsModel" "sSign" "[I", Cond.fieldLink RX10 196 "PaidBySignsModel" "rightMany" "I", Cond.fieldLink RX10 97 "PaidBySignsModel" "rOf" "[I", Cond.fieldLink RX10 100 "PaidBySignsModel" "rTold" "[I", Cond.fieldLink RX10 103 "PaidBySignsModel" "rSign" "[I", Cond.methodLink RX10 259 yX10_chanceOf, Cond.instanceMethod yX10_chanceOf, Cond.selects RX10 yX10_chanceOf yX10_chanceOf]
def wsX10_odds_r2 : List Cond := [Cond.code yX10_chanceOf cX10_chanceOf 3 (some .int), Cond.fieldLink RX10 34 "PaidBySignsModel" "chances" "[I", Cond.methodLink RX10 355 yX10_tell, Cond.instanceMethod yX10_tell, Cond.selects RX10 yX10_tell yX10_tell, Cond.code yX10_tell cX10_tell 7 none, Cond.fieldLink RX10 281 "PaidBySignsModel" "upper" "J", Cond.fieldLink RX10 284 "PaidBySignsModel" "lower" "J", Cond.fieldLink RX10 202 "PaidBySignsModel" "hasFraction" "Z", Cond.methodLink RX10 277 yX10_common, Cond.static yX10_common, Cond.code yX10_common cX10_common 10 (some .long)]
def wsX10_odds : List Cond := .code yX10_odds cX10_odds 6 (some .int) :: ((wsX10_odds_r1 ++ wsX10_odds_r2) ++ wsX100)
def wsX10_guess : List Cond := .code yX10_guess cX10_guess 8 (some .int) :: ([.constantLong RX10 407 (999), .fieldLink RX10 17 "PaidBySignsModel" "num" "[I", .methodLink RX10 174 yX10_in, .static yX10_in, .initialized RX10, .code yX10_in cX10_in 6 (some .boolean), .methodLink RX10 409 yX10_product, .instanceMethod yX10_product, .selects RX10 yX10_product yX10_product, .code yX10_product cX10_product 8 (some .long), .fieldLink RX10 193 "PaidBySignsModel" "seenMany" "I", .fieldLink RX10 91 "PaidBySignsModel" "sTold" "[I", .fieldLink RX10 94 "PaidBySignsModel" "sSign" "[I", .fieldLink RX10 196 "PaidBySignsModel" "rightMany" "I", .fieldLink RX10 97 "PaidBySignsModel" "rOf" "[I", .fieldLink RX10 100 "PaidBySignsModel" "rTold" "[I", .fieldLink RX10 103 "PaidBySignsModel" "rSign" "[I", .methodLink RX10 259 yX10_chanceOf, .instanceMethod yX10_chanceOf, .selects RX10 yX10_chanceOf yX10_chanceOf, .code yX10_chanceOf cX10_chanceOf 3 (some .int), .fieldLink RX10 34 "PaidBySignsModel" "chances" "[I"] ++ wsX100)
def wsX10_count : List Cond := .code yX10_count cX10_count 2 (some .int) :: ([.fieldLink RX10 193 "PaidBySignsModel" "seenMany" "I", .fieldLink RX10 196 "PaidBySignsModel" "rightMany" "I", .fieldLink RX10 190 "PaidBySignsModel" "lowerPress" "I", .fieldLink RX10 112 "PaidBySignsModel" "taped" "I"] ++ wsX100)
theorem pm_X10_odds_r1 : ∀ w ∈ wsX10_odds_r1, w ∈ wsX10_odds := fun _ h => List.mem_cons_of_mem _ (List.mem_append_left _ (List.mem_append_left _ h))
theorem pm_X10_odds_r2 : ∀ w ∈ wsX10_odds_r2, w ∈ wsX10_odds := fun _ h => List.mem_cons_of_mem _ (List.mem_append_left _ (List.mem_append_right _ (h)))
theorem pw_X10_odds_X10 : ∀ w ∈ wsX100, w ∈ wsX10_odds := fun _ h => List.mem_cons_of_mem _ (List.mem_append_right _ h)
set_option maxRecDepth 20000 in
theorem ggX10_odds_X10_isWork : GoodIn wsX10_odds wsX10_isWork := goodIn_sub (List.forall_mem_cons.mpr ⟨pm_X10_odds_r1 _ (List.mem_of_getElem? (i := 6) rfl), List.forall_mem_append.mpr ⟨List.forall_mem_cons.mpr ⟨pm_X10_odds_r1 _ (List.mem_of_getElem? (i := 1) rfl), List.forall_mem_cons.mpr ⟨pm_X10_odds_r1 _ (List.mem_of_getElem? (i := 7) rfl), List.forall_mem_cons.mpr ⟨pm_X10_odds_r1 _ (List.mem_of_getElem? (i := 8) rfl), List.forall_mem_cons.mpr ⟨pm_X10_odds_r1 _ (List.mem_of_getElem? (i := 5) rfl), List.forall_mem_cons.mpr ⟨pm_X10_odds_r1 _ (List.mem_of_getElem? (i := 9) rfl), fun _ h => absurd h List.not_mem_nil⟩⟩⟩⟩⟩, pw_X10_odds_X10⟩⟩) (by decide +kernel)
set_option maxRecDepth 20000 in
theorem gX10_odds_X10_isWork : GoodIn wsX10_odds (wsV RX10 253 RX10 yX10_isWork wsX10_isWork) := goodIn_app (goodIn_sub (List.forall_mem_cons.mpr ⟨pm_X10_odds_r1 _ (List.mem_of_getElem? (i := 2) rfl), List.forall_mem_cons.mpr ⟨pm_X10_odds_r1 _ (List.mem_of_getElem? (i := 3) rfl), List.forall_mem_cons.mpr ⟨pm_X10_odds_r1 _ (List.mem_of_getElem? (i := 4) rfl), List.forall_mem_cons.mpr ⟨pm_X10_odds_r1 _ (List.mem_of_getElem? (i := 5) rfl), fun _ h => absurd h List.not_mem_nil⟩⟩⟩⟩) (by decide +kernel)) ggX10_odds_X10_isWork
set_option maxRecDepth 20000 in
theorem ggX10_odds_X10_in : GoodIn wsX10_odds wsX10_in := goodIn_sub (List.forall_mem_cons.mpr ⟨pm_X10_odds_r1 _ (List.mem_of_getElem? (i := 9) rfl), fun _ h => absurd h List.not_mem_nil⟩) (by decide +kernel)
set_option maxRecDepth 20000 in
theorem gX10_odds_X10_in : GoodIn wsX10_odds (va_wsS RX10 174 yX10_in wsX10_in) := goodIn_app (goodIn_sub (List.forall_mem_cons.mpr ⟨pm_X10_odds_r1 _ (List.mem_of_getElem? (i := 7) rfl), List.forall_mem_cons.mpr ⟨pm_X10_odds_r1 _ (List.mem_of_getElem? (i := 8) rfl), List.forall_mem_cons.mpr ⟨pm_X10_odds_r1 _ (List.mem_of_getElem? (i := 5) rfl), fun _ h => absurd h List.not_mem_nil⟩⟩⟩) (by decide +kernel)) ggX10_odds_X10_in
set_option maxRecDepth 20000 in
theorem ggX10_odds_X10_product : GoodIn wsX10_odds wsX10_product := goodIn_sub (List.forall_mem_cons.mpr ⟨pm_X10_odds_r1 _ (List.mem_of_getElem? (i := 13) rfl), List.forall_mem_append.mpr ⟨List.forall_mem_cons.mpr ⟨pm_X10_odds_r1 _ (List.mem_of_getElem? (i := 14) rfl), List.forall_mem_cons.mpr ⟨pm_X10_odds_r1 _ (List.mem_of_getElem? (i := 15) rfl), List.forall_mem_cons.mpr ⟨pm_X10_odds_r1 _ (List.mem_of_getElem? (i := 16) rfl), List.forall_mem_cons.mpr ⟨pm_X10_odds_r1 _ (List.mem_of_getElem? (i := 17) rfl), List.forall_mem_cons.mpr ⟨pm_X10_odds_r1 _ (List.mem_of_getElem? (i := 18) rfl), List.forall_mem_cons.mpr ⟨pm_X10_odds_r1 _ (List.mem_of_getElem? (i := 19) rfl), List.forall_mem_cons.mpr ⟨pm_X10_odds_r1 _ (List.mem_of_getElem? (i := 20) rfl), List.forall_mem_cons.mpr ⟨pm_X10_odds_r1 _ (List.mem_of_getElem? (i := 21) rfl), List.forall_mem_cons.mpr ⟨pm_X10_odds_r1 _ (List.mem_of_getElem? (i := 22) rfl), List.forall_mem_cons.mpr ⟨pm_X10_odds_r1 _ (List.mem_of_getElem? (i := 23) rfl), List.forall_mem_cons.mpr ⟨pm_X10_odds_r1 _ (List.mem_of_getElem? (i := 5) rfl), List.forall_mem_cons.mpr ⟨pm_X10_odds_r2 _ (List.mem_of_getElem? (i := 0) rfl), List.forall_mem_cons.mpr ⟨pm_X10_odds_r2 _ (List.mem_of_getElem? (i := 1) rfl), fun _ h => absurd h List.not_mem_nil⟩⟩⟩⟩⟩⟩⟩⟩⟩⟩⟩⟩⟩, pw_X10_odds_X10⟩⟩) (by decide +kernel)
set_option maxRecDepth 20000 in
theorem gX10_odds_X10_product : GoodIn wsX10_odds (wsV RX10 409 RX10 yX10_product wsX10_product) := goodIn_app (goodIn_sub (List.forall_mem_cons.mpr ⟨pm_X10_odds_r1 _ (List.mem_of_getElem? (i := 10) rfl), List.forall_mem_cons.mpr ⟨pm_X10_odds_r1 _ (List.mem_of_getElem? (i := 11) rfl), List.forall_mem_cons.mpr ⟨pm_X10_odds_r1 _ (List.mem_of_getElem? (i := 12) rfl), List.forall_mem_cons.mpr ⟨pm_X10_odds_r1 _ (List.mem_of_getElem? (i := 5) rfl), fun _ h => absurd h List.not_mem_nil⟩⟩⟩⟩) (by decide +kernel)) ggX10_odds_X10_product
set_option maxRecDepth 20000 in
theorem ggX10_odds_X10_tell : GoodIn wsX10_odds wsX10_tell := goodIn_sub (List.forall_mem_cons.mpr ⟨pm_X10_odds_r2 _ (List.mem_of_getElem? (i := 5) rfl), List.forall_mem_append.mpr ⟨List.forall_mem_cons.mpr ⟨pm_X10_odds_r2 _ (List.mem_of_getElem? (i := 6) rfl), List.forall_mem_cons.mpr ⟨pm_X10_odds_r2 _ (List.mem_of_getElem? (i := 7) rfl), List.forall_mem_cons.mpr ⟨pm_X10_odds_r2 _ (List.mem_of_getElem? (i := 8) rfl), List.forall_mem_cons.mpr ⟨pm_X10_odds_r2 _ (List.mem_of_getElem? (i := 9) rfl), List.forall_mem_cons.mpr ⟨pm_X10_odds_r2 _ (List.mem_of_getElem? (i := 10) rfl), List.forall_mem_cons.mpr ⟨pm_X10_odds_r1 _ (List.mem_of_getElem? (i := 5) rfl), List.forall_mem_cons.mpr ⟨pm_X10_odds_r2 _ (List.mem_of_getElem? (i := 11) rfl), fun _ h => absurd h List.not_mem_nil⟩⟩⟩⟩⟩⟩⟩, pw_X10_odds_X10⟩⟩) (by decide +kernel)
set_option maxRecDepth 20000 in
theorem gX10_odds_X10_tell : GoodIn wsX10_odds (wsV RX10 355 RX10 yX10_tell wsX10_tell) := goodIn_app (goodIn_sub (List.forall_mem_cons.mpr ⟨pm_X10_odds_r2 _ (List.mem_of_getElem? (i := 2) rfl), List.forall_mem_cons.mpr ⟨pm_X10_odds_r2 _ (List.mem_of_getElem? (i := 3) rfl), List.forall_mem_cons.mpr ⟨pm_X10_odds_r2 _ (List.mem_of_getElem? (i := 4) rfl), List.forall_mem_cons.mpr ⟨pm_X10_odds_r1 _ (List.mem_of_getElem? (i := 5) rfl), fun _ h => absurd h List.not_mem_nil⟩⟩⟩⟩) (by decide +kernel)) ggX10_odds_X10_tell
theorem bX10_odds_0 : ((bys cX10_odds).drop 0).take 16 = [42, 27, 182, 0, 253, 153, 0, 15, 28, 133, 9, 20, 1, 151, 184, 0] := by decide +kernel
theorem dX10_odds_0 : decode cX10_odds 0 = .ok (.aload_n 0, 1) := do_42 (byt_at bX10_odds_0 (j := 0) rfl)
theorem dX10_odds_1 : decode cX10_odds 1 = .ok (.iload_n 1, 1) := do_27 (byt_at bX10_odds_0 (j := 1) rfl)
theorem dX10_odds_2 : decode cX10_odds 2 = .ok (.invokevirtual 253, 3) := do_182 0 253 (byt_at bX10_odds_0 (j := 2) rfl) (byt_at bX10_odds_0 (j := 3) rfl) (byt_at bX10_odds_0 (j := 4) rfl)
theorem dX10_odds_5 : decode cX10_odds 5 = .ok (.ifCond .eq 15, 3) := do_153 0 15 (byt_at bX10_odds_0 (j := 5) rfl) (byt_at bX10_odds_0 (j := 6) rfl) (byt_at bX10_odds_0 (j := 7) rfl) (by decide)
theorem dX10_odds_8 : decode cX10_odds 8 = .ok (.iload_n 2, 1) := do_28 (byt_at bX10_odds_0 (j := 8) rfl)
theorem dX10_odds_9 : decode cX10_odds 9 = .ok (.i2l, 1) := do_133 (byt_at bX10_odds_0 (j := 9) rfl)
theorem dX10_odds_10 : decode cX10_odds 10 = .ok (.lconst 0, 1) := do_9 (byt_at bX10_odds_0 (j := 10) rfl)
theorem dX10_odds_11 : decode cX10_odds 11 = .ok (.ldc2_w 407, 3) := do_20 1 151 (byt_at bX10_odds_0 (j := 11) rfl) (byt_at bX10_odds_0 (j := 12) rfl) (byt_at bX10_odds_0 (j := 13) rfl)
theorem bX10_odds_1 : ((bys cX10_odds).drop 16).take 16 = [174, 154, 0, 6, 16, 254, 172, 9, 66, 3, 54, 5, 21, 5, 42, 180] := by decide +kernel
theorem dX10_odds_14 : decode cX10_odds 14 = .ok (.invokestatic 174, 3) := do_184 0 174 (byt_at bX10_odds_0 (j := 14) rfl) (byt_at bX10_odds_0 (j := 15) rfl) (byt_at bX10_odds_1 (j := 0) rfl)
theorem dX10_odds_17 : decode cX10_odds 17 = .ok (.ifCond .ne 6, 3) := do_154 0 6 (byt_at bX10_odds_1 (j := 1) rfl) (byt_at bX10_odds_1 (j := 2) rfl) (byt_at bX10_odds_1 (j := 3) rfl) (by decide)
theorem dX10_odds_20 : decode cX10_odds 20 = .ok (.bipush (-2), 2) := do_16 254 (byt_at bX10_odds_1 (j := 4) rfl) (byt_at bX10_odds_1 (j := 5) rfl) (by decide)
theorem dX10_odds_22 : decode cX10_odds 22 = .ok (.ireturn, 1) := do_172 (byt_at bX10_odds_1 (j := 6) rfl)
theorem dX10_odds_23 : decode cX10_odds 23 = .ok (.lconst 0, 1) := do_9 (byt_at bX10_odds_1 (j := 7) rfl)
theorem dX10_odds_24 : decode cX10_odds 24 = .ok (.lstore_n 3, 1) := do_66 (byt_at bX10_odds_1 (j := 8) rfl)
theorem dX10_odds_25 : decode cX10_odds 25 = .ok (.iconst 0, 1) := do_3 (byt_at bX10_odds_1 (j := 9) rfl)
theorem dX10_odds_26 : decode cX10_odds 26 = .ok (.istore 5, 2) := do_54 5 (byt_at bX10_odds_1 (j := 10) rfl) (byt_at bX10_odds_1 (j := 11) rfl)
theorem dX10_odds_28 : decode cX10_odds 28 = .ok (.iload 5, 2) := do_21 5 (byt_at bX10_odds_1 (j := 12) rfl) (byt_at bX10_odds_1 (j := 13) rfl)
theorem dX10_odds_30 : decode cX10_odds 30 = .ok (.aload_n 0, 1) := do_42 (byt_at bX10_odds_1 (j := 14) rfl)
theorem bX10_odds_2 : ((bys cX10_odds).drop 32).take 16 = [0, 17, 7, 46, 162, 0, 19, 33, 42, 21, 5, 28, 182, 1, 153, 97] := by decide +kernel
theorem dX10_odds_31 : decode cX10_odds 31 = .ok (.getfield 17, 3) := do_180 0 17 (byt_at bX10_odds_1 (j := 15) rfl) (byt_at bX10_odds_2 (j := 0) rfl) (byt_at bX10_odds_2 (j := 1) rfl)
theorem dX10_odds_34 : decode cX10_odds 34 = .ok (.iconst 4, 1) := do_7 (byt_at bX10_odds_2 (j := 2) rfl)
theorem dX10_odds_35 : decode cX10_odds 35 = .ok (.iaload, 1) := do_46 (byt_at bX10_odds_2 (j := 3) rfl)
theorem dX10_odds_36 : decode cX10_odds 36 = .ok (.if_icmp .ge 19, 3) := do_162 0 19 (byt_at bX10_odds_2 (j := 4) rfl) (byt_at bX10_odds_2 (j := 5) rfl) (byt_at bX10_odds_2 (j := 6) rfl) (by decide)
theorem dX10_odds_39 : decode cX10_odds 39 = .ok (.lload_n 3, 1) := do_33 (byt_at bX10_odds_2 (j := 7) rfl)
theorem dX10_odds_40 : decode cX10_odds 40 = .ok (.aload_n 0, 1) := do_42 (byt_at bX10_odds_2 (j := 8) rfl)
theorem dX10_odds_41 : decode cX10_odds 41 = .ok (.iload 5, 2) := do_21 5 (byt_at bX10_odds_2 (j := 9) rfl) (byt_at bX10_odds_2 (j := 10) rfl)
theorem dX10_odds_43 : decode cX10_odds 43 = .ok (.iload_n 2, 1) := do_28 (byt_at bX10_odds_2 (j := 11) rfl)
theorem dX10_odds_44 : decode cX10_odds 44 = .ok (.invokevirtual 409, 3) := do_182 1 153 (byt_at bX10_odds_2 (j := 12) rfl) (byt_at bX10_odds_2 (j := 13) rfl) (byt_at bX10_odds_2 (j := 14) rfl)
theorem dX10_odds_47 : decode cX10_odds 47 = .ok (.ladd, 1) := do_97 (byt_at bX10_odds_2 (j := 15) rfl)
theorem bX10_odds_3 : ((bys cX10_odds).drop 48).take 16 = [66, 132, 5, 1, 167, 255, 232, 33, 9, 148, 154, 0, 5, 2, 172, 42] := by decide +kernel
theorem dX10_odds_48 : decode cX10_odds 48 = .ok (.lstore_n 3, 1) := do_66 (byt_at bX10_odds_3 (j := 0) rfl)
theorem dX10_odds_49 : decode cX10_odds 49 = .ok (.iinc 5 1, 3) := do_132 5 1 (byt_at bX10_odds_3 (j := 1) rfl) (byt_at bX10_odds_3 (j := 2) rfl) (byt_at bX10_odds_3 (j := 3) rfl) (by decide)
theorem dX10_odds_52 : decode cX10_odds 52 = .ok (.goto (-24), 3) := do_167 255 232 (byt_at bX10_odds_3 (j := 4) rfl) (byt_at bX10_odds_3 (j := 5) rfl) (byt_at bX10_odds_3 (j := 6) rfl) (by decide)
theorem dX10_odds_55 : decode cX10_odds 55 = .ok (.lload_n 3, 1) := do_33 (byt_at bX10_odds_3 (j := 7) rfl)
theorem dX10_odds_56 : decode cX10_odds 56 = .ok (.lconst 0, 1) := do_9 (byt_at bX10_odds_3 (j := 8) rfl)
theorem dX10_odds_57 : decode cX10_odds 57 = .ok (.lcmp, 1) := do_148 (byt_at bX10_odds_3 (j := 9) rfl)
theorem dX10_odds_58 : decode cX10_odds 58 = .ok (.ifCond .ne 5, 3) := do_154 0 5 (byt_at bX10_odds_3 (j := 10) rfl) (byt_at bX10_odds_3 (j := 11) rfl) (byt_at bX10_odds_3 (j := 12) rfl) (by decide)
theorem dX10_odds_61 : decode cX10_odds 61 = .ok (.iconst (-1), 1) := do_2 (byt_at bX10_odds_3 (j := 13) rfl)
theorem dX10_odds_62 : decode cX10_odds 62 = .ok (.ireturn, 1) := do_172 (byt_at bX10_odds_3 (j := 14) rfl)
theorem dX10_odds_63 : decode cX10_odds 63 = .ok (.aload_n 0, 1) := do_42 (byt_at bX10_odds_3 (j := 15) rfl)
theorem bX10_odds_4 : ((bys cX10_odds).drop 64).take 16 = [42, 27, 28, 182, 1, 153, 33, 182, 1, 99, 4, 172] := by decide +kernel
theorem dX10_odds_64 : decode cX10_odds 64 = .ok (.aload_n 0, 1) := do_42 (byt_at bX10_odds_4 (j := 0) rfl)
theorem dX10_odds_65 : decode cX10_odds 65 = .ok (.iload_n 1, 1) := do_27 (byt_at bX10_odds_4 (j := 1) rfl)
theorem dX10_odds_66 : decode cX10_odds 66 = .ok (.iload_n 2, 1) := do_28 (byt_at bX10_odds_4 (j := 2) rfl)
theorem dX10_odds_67 : decode cX10_odds 67 = .ok (.invokevirtual 409, 3) := do_182 1 153 (byt_at bX10_odds_4 (j := 3) rfl) (byt_at bX10_odds_4 (j := 4) rfl) (byt_at bX10_odds_4 (j := 5) rfl)
theorem dX10_odds_70 : decode cX10_odds 70 = .ok (.lload_n 3, 1) := do_33 (byt_at bX10_odds_4 (j := 6) rfl)
theorem dX10_odds_71 : decode cX10_odds 71 = .ok (.invokevirtual 355, 3) := do_182 1 99 (byt_at bX10_odds_4 (j := 7) rfl) (byt_at bX10_odds_4 (j := 8) rfl) (byt_at bX10_odds_4 (j := 9) rfl)
theorem dX10_odds_74 : decode cX10_odds 74 = .ok (.iconst 1, 1) := do_4 (byt_at bX10_odds_4 (j := 10) rfl)
theorem dX10_odds_75 : decode cX10_odds 75 = .ok (.ireturn, 1) := do_172 (byt_at bX10_odds_4 (j := 11) rfl)
set_option maxRecDepth 20000 in
theorem ggX10_guess_X10_in : GoodIn wsX10_guess wsX10_in := goodIn_sub (List.forall_mem_cons.mpr ⟨List.mem_cons_of_mem _ (List.mem_append_left _ (List.mem_of_getElem? (i := 5) rfl)), fun _ h => absurd h List.not_mem_nil⟩) (by decide +kernel)
set_option maxRecDepth 20000 in
theorem gX10_guess_X10_in : GoodIn wsX10_guess (va_wsS RX10 174 yX10_in wsX10_in) := goodIn_app (goodIn_sub (List.forall_mem_cons.mpr ⟨List.mem_cons_of_mem _ (List.mem_append_left _ (List.mem_of_getElem? (i := 2) rfl)), List.forall_mem_cons.mpr ⟨List.mem_cons_of_mem _ (List.mem_append_left _ (List.mem_of_getElem? (i := 3) rfl)), List.forall_mem_cons.mpr ⟨List.mem_cons_of_mem _ (List.mem_append_left _ (List.mem_of_getElem? (i := 4) rfl)), fun _ h => absurd h List.not_mem_nil⟩⟩⟩) (by decide +kernel)) ggX10_guess_X10_in
set_option maxRecDepth 20000 in
theorem ggX10_guess_X10_product : GoodIn wsX10_guess wsX10_product := goodIn_sub (List.forall_mem_cons.mpr ⟨List.mem_cons_of_mem _ (List.mem_append_left _ (List.mem_of_getElem? (i := 9) rfl)), List.forall_mem_append.mpr ⟨List.forall_mem_cons.mpr ⟨List.mem_cons_of_mem _ (List.mem_append_left _ (List.mem_of_getElem? (i := 10) rfl)), List.forall_mem_cons.mpr ⟨List.mem_cons_of_mem _ (List.mem_append_left _ (List.mem_of_getElem? (i := 11) rfl)), List.forall_mem_cons.mpr ⟨List.mem_cons_of_mem _ (List.mem_append_left _ (List.mem_of_getElem? (i := 12) rfl)), List.forall_mem_cons.mpr ⟨List.mem_cons_of_mem _ (List.mem_append_left _ (List.mem_of_getElem? (i := 13) rfl)), List.forall_mem_cons.mpr ⟨List.mem_cons_of_mem _ (List.mem_append_left _ (List.mem_of_getElem? (i := 14) rfl)), List.forall_mem_cons.mpr ⟨List.mem_cons_of_mem _ (List.mem_append_left _ (List.mem_of_getElem? (i := 15) rfl)), List.forall_mem_cons.mpr ⟨List.mem_cons_of_mem _ (List.mem_append_left _ (List.mem_of_getElem? (i := 16) rfl)), List.forall_mem_cons.mpr ⟨List.mem_cons_of_mem _ (List.mem_append_left _ (List.mem_of_getElem? (i := 17) rfl)), List.forall_mem_cons.mpr ⟨List.mem_cons_of_mem _ (List.mem_append_left _ (List.mem_of_getElem? (i := 18) rfl)), List.forall_mem_cons.mpr ⟨List.mem_cons_of_mem _ (List.mem_append_left _ (List.mem_of_getElem? (i := 19) rfl)), List.forall_mem_cons.mpr ⟨List.mem_cons_of_mem _ (List.mem_append_left _ (List.mem_of_getElem? (i := 4) rfl)), List.forall_mem_cons.mpr ⟨List.mem_cons_of_mem _ (List.mem_append_left _ (List.mem_of_getElem? (i := 20) rfl)), List.forall_mem_cons.mpr ⟨List.mem_cons_of_mem _ (List.mem_append_left _ (List.mem_of_getElem? (i := 21) rfl)), fun _ h => absurd h List.not_mem_nil⟩⟩⟩⟩⟩⟩⟩⟩⟩⟩⟩⟩⟩, fun _ h => List.mem_cons_of_mem _ (List.mem_append_right _ h)⟩⟩) (by decide +kernel)
set_option maxRecDepth 20000 in
theorem gX10_guess_X10_product : GoodIn wsX10_guess (wsV RX10 409 RX10 yX10_product wsX10_product) := goodIn_app (goodIn_sub (List.forall_mem_cons.mpr ⟨List.mem_cons_of_mem _ (List.mem_append_left _ (List.mem_of_getElem? (i := 6) rfl)), List.forall_mem_cons.mpr ⟨List.mem_cons_of_mem _ (List.mem_append_left _ (List.mem_of_getElem? (i := 7) rfl)), List.forall_mem_cons.mpr ⟨List.mem_cons_of_mem _ (List.mem_append_left _ (List.mem_of_getElem? (i := 8) rfl)), List.forall_mem_cons.mpr ⟨List.mem_cons_of_mem _ (List.mem_append_left _ (List.mem_of_getElem? (i := 4) rfl)), fun _ h => absurd h List.not_mem_nil⟩⟩⟩⟩) (by decide +kernel)) ggX10_guess_X10_product
theorem bX10_guess_0 : ((bys cX10_guess).drop 0).take 16 = [27, 133, 9, 20, 1, 151, 184, 0, 174, 154, 0, 6, 16, 254, 172, 42] := by decide +kernel
theorem dX10_guess_0 : decode cX10_guess 0 = .ok (.iload_n 1, 1) := do_27 (byt_at bX10_guess_0 (j := 0) rfl)
theorem dX10_guess_1 : decode cX10_guess 1 = .ok (.i2l, 1) := do_133 (byt_at bX10_guess_0 (j := 1) rfl)
theorem dX10_guess_2 : decode cX10_guess 2 = .ok (.lconst 0, 1) := do_9 (byt_at bX10_guess_0 (j := 2) rfl)
theorem dX10_guess_3 : decode cX10_guess 3 = .ok (.ldc2_w 407, 3) := do_20 1 151 (byt_at bX10_guess_0 (j := 3) rfl) (byt_at bX10_guess_0 (j := 4) rfl) (byt_at bX10_guess_0 (j := 5) rfl)
theorem dX10_guess_6 : decode cX10_guess 6 = .ok (.invokestatic 174, 3) := do_184 0 174 (byt_at bX10_guess_0 (j := 6) rfl) (byt_at bX10_guess_0 (j := 7) rfl) (byt_at bX10_guess_0 (j := 8) rfl)
theorem dX10_guess_9 : decode cX10_guess 9 = .ok (.ifCond .ne 6, 3) := do_154 0 6 (byt_at bX10_guess_0 (j := 9) rfl) (byt_at bX10_guess_0 (j := 10) rfl) (byt_at bX10_guess_0 (j := 11) rfl) (by decide)
theorem dX10_guess_12 : decode cX10_guess 12 = .ok (.bipush (-2), 2) := do_16 254 (byt_at bX10_guess_0 (j := 12) rfl) (byt_at bX10_guess_0 (j := 13) rfl) (by decide)
theorem dX10_guess_14 : decode cX10_guess 14 = .ok (.ireturn, 1) := do_172 (byt_at bX10_guess_0 (j := 14) rfl)
theorem dX10_guess_15 : decode cX10_guess 15 = .ok (.aload_n 0, 1) := do_42 (byt_at bX10_guess_0 (j := 15) rfl)
theorem bX10_guess_1 : ((bys cX10_guess).drop 16).take 16 = [180, 0, 17, 7, 46, 154, 0, 6, 16, 252, 172, 2, 61, 9, 66, 3] := by decide +kernel
theorem dX10_guess_16 : decode cX10_guess 16 = .ok (.getfield 17, 3) := do_180 0 17 (byt_at bX10_guess_1 (j := 0) rfl) (byt_at bX10_guess_1 (j := 1) rfl) (byt_at bX10_guess_1 (j := 2) rfl)
theorem dX10_guess_19 : decode cX10_guess 19 = .ok (.iconst 4, 1) := do_7 (byt_at bX10_guess_1 (j := 3) rfl)
theorem dX10_guess_20 : decode cX10_guess 20 = .ok (.iaload, 1) := do_46 (byt_at bX10_guess_1 (j := 4) rfl)
theorem dX10_guess_21 : decode cX10_guess 21 = .ok (.ifCond .ne 6, 3) := do_154 0 6 (byt_at bX10_guess_1 (j := 5) rfl) (byt_at bX10_guess_1 (j := 6) rfl) (byt_at bX10_guess_1 (j := 7) rfl) (by decide)
theorem dX10_guess_24 : decode cX10_guess 24 = .ok (.bipush (-4), 2) := do_16 252 (byt_at bX10_guess_1 (j := 8) rfl) (byt_at bX10_guess_1 (j := 9) rfl) (by decide)
theorem dX10_guess_26 : decode cX10_guess 26 = .ok (.ireturn, 1) := do_172 (byt_at bX10_guess_1 (j := 10) rfl)
theorem dX10_guess_27 : decode cX10_guess 27 = .ok (.iconst (-1), 1) := do_2 (byt_at bX10_guess_1 (j := 11) rfl)
theorem dX10_guess_28 : decode cX10_guess 28 = .ok (.istore_n 2, 1) := do_61 (byt_at bX10_guess_1 (j := 12) rfl)
theorem dX10_guess_29 : decode cX10_guess 29 = .ok (.lconst 0, 1) := do_9 (byt_at bX10_guess_1 (j := 13) rfl)
theorem dX10_guess_30 : decode cX10_guess 30 = .ok (.lstore_n 3, 1) := do_66 (byt_at bX10_guess_1 (j := 14) rfl)
theorem dX10_guess_31 : decode cX10_guess 31 = .ok (.iconst 0, 1) := do_3 (byt_at bX10_guess_1 (j := 15) rfl)
theorem bX10_guess_2 : ((bys cX10_guess).drop 32).take 16 = [54, 5, 21, 5, 42, 180, 0, 17, 7, 46, 162, 0, 34, 42, 21, 5] := by decide +kernel
theorem dX10_guess_32 : decode cX10_guess 32 = .ok (.istore 5, 2) := do_54 5 (byt_at bX10_guess_2 (j := 0) rfl) (byt_at bX10_guess_2 (j := 1) rfl)
theorem dX10_guess_34 : decode cX10_guess 34 = .ok (.iload 5, 2) := do_21 5 (byt_at bX10_guess_2 (j := 2) rfl) (byt_at bX10_guess_2 (j := 3) rfl)
theorem dX10_guess_36 : decode cX10_guess 36 = .ok (.aload_n 0, 1) := do_42 (byt_at bX10_guess_2 (j := 4) rfl)
theorem dX10_guess_37 : decode cX10_guess 37 = .ok (.getfield 17, 3) := do_180 0 17 (byt_at bX10_guess_2 (j := 5) rfl) (byt_at bX10_guess_2 (j := 6) rfl) (byt_at bX10_guess_2 (j := 7) rfl)
theorem dX10_guess_40 : decode cX10_guess 40 = .ok (.iconst 4, 1) := do_7 (byt_at bX10_guess_2 (j := 8) rfl)
theorem dX10_guess_41 : decode cX10_guess 41 = .ok (.iaload, 1) := do_46 (byt_at bX10_guess_2 (j := 9) rfl)
theorem dX10_guess_42 : decode cX10_guess 42 = .ok (.if_icmp .ge 34, 3) := do_162 0 34 (byt_at bX10_guess_2 (j := 10) rfl) (byt_at bX10_guess_2 (j := 11) rfl) (byt_at bX10_guess_2 (j := 12) rfl) (by decide)
theorem dX10_guess_45 : decode cX10_guess 45 = .ok (.aload_n 0, 1) := do_42 (byt_at bX10_guess_2 (j := 13) rfl)
theorem dX10_guess_46 : decode cX10_guess 46 = .ok (.iload 5, 2) := do_21 5 (byt_at bX10_guess_2 (j := 14) rfl) (byt_at bX10_guess_2 (j := 15) rfl)
theorem bX10_guess_3 : ((bys cX10_guess).drop 48).take 16 = [27, 182, 1, 153, 55, 6, 22, 6, 33, 148, 157, 0, 6, 167, 0, 9] := by decide +kernel
theorem dX10_guess_48 : decode cX10_guess 48 = .ok (.iload_n 1, 1) := do_27 (byt_at bX10_guess_3 (j := 0) rfl)
theorem dX10_guess_49 : decode cX10_guess 49 = .ok (.invokevirtual 409, 3) := do_182 1 153 (byt_at bX10_guess_3 (j := 1) rfl) (byt_at bX10_guess_3 (j := 2) rfl) (byt_at bX10_guess_3 (j := 3) rfl)
theorem dX10_guess_52 : decode cX10_guess 52 = .ok (.lstore 6, 2) := do_55 6 (byt_at bX10_guess_3 (j := 4) rfl) (byt_at bX10_guess_3 (j := 5) rfl)
theorem dX10_guess_54 : decode cX10_guess 54 = .ok (.lload 6, 2) := do_22 6 (byt_at bX10_guess_3 (j := 6) rfl) (byt_at bX10_guess_3 (j := 7) rfl)
theorem dX10_guess_56 : decode cX10_guess 56 = .ok (.lload_n 3, 1) := do_33 (byt_at bX10_guess_3 (j := 8) rfl)
theorem dX10_guess_57 : decode cX10_guess 57 = .ok (.lcmp, 1) := do_148 (byt_at bX10_guess_3 (j := 9) rfl)
theorem dX10_guess_58 : decode cX10_guess 58 = .ok (.ifCond .gt 6, 3) := do_157 0 6 (byt_at bX10_guess_3 (j := 10) rfl) (byt_at bX10_guess_3 (j := 11) rfl) (byt_at bX10_guess_3 (j := 12) rfl) (by decide)
theorem dX10_guess_61 : decode cX10_guess 61 = .ok (.goto 9, 3) := do_167 0 9 (byt_at bX10_guess_3 (j := 13) rfl) (byt_at bX10_guess_3 (j := 14) rfl) (byt_at bX10_guess_3 (j := 15) rfl) (by decide)
theorem bX10_guess_4 : ((bys cX10_guess).drop 64).take 16 = [22, 6, 66, 21, 5, 61, 132, 5, 1, 167, 255, 217, 28, 172] := by decide +kernel
theorem dX10_guess_64 : decode cX10_guess 64 = .ok (.lload 6, 2) := do_22 6 (byt_at bX10_guess_4 (j := 0) rfl) (byt_at bX10_guess_4 (j := 1) rfl)
theorem dX10_guess_66 : decode cX10_guess 66 = .ok (.lstore_n 3, 1) := do_66 (byt_at bX10_guess_4 (j := 2) rfl)
theorem dX10_guess_67 : decode cX10_guess 67 = .ok (.iload 5, 2) := do_21 5 (byt_at bX10_guess_4 (j := 3) rfl) (byt_at bX10_guess_4 (j := 4) rfl)
theorem dX10_guess_69 : decode cX10_guess 69 = .ok (.istore_n 2, 1) := do_61 (byt_at bX10_guess_4 (j := 5) rfl)
theorem dX10_guess_70 : decode cX10_guess 70 = .ok (.iinc 5 1, 3) := do_132 5 1 (byt_at bX10_guess_4 (j := 6) rfl) (byt_at bX10_guess_4 (j := 7) rfl) (byt_at bX10_guess_4 (j := 8) rfl) (by decide)
theorem dX10_guess_73 : decode cX10_guess 73 = .ok (.goto (-39), 3) := do_167 255 217 (byt_at bX10_guess_4 (j := 9) rfl) (byt_at bX10_guess_4 (j := 10) rfl) (byt_at bX10_guess_4 (j := 11) rfl) (by decide)
theorem dX10_guess_76 : decode cX10_guess 76 = .ok (.iload_n 2, 1) := do_28 (byt_at bX10_guess_4 (j := 12) rfl)
theorem dX10_guess_77 : decode cX10_guess 77 = .ok (.ireturn, 1) := do_172 (byt_at bX10_guess_4 (j := 13) rfl)
theorem bX10_count_0 : ((bys cX10_count).drop 0).take 16 = [27, 170, 0, 0, 0, 0, 0, 51, 0, 0, 0, 0, 0, 0, 0, 3] := by decide +kernel
theorem dX10_count_0 : decode cX10_count 0 = .ok (.iload_n 1, 1) := do_27 (byt_at bX10_count_0 (j := 0) rfl)
theorem dX10_count_1 : decode cX10_count 1 = .ok (.tableswitch 51 0 3 #[31, 36, 41, 46], 31) := by decide +kernel
theorem bX10_count_2 : ((bys cX10_count).drop 32).take 16 = [42, 180, 0, 193, 172, 42, 180, 0, 196, 172, 42, 180, 0, 190, 172, 42] := by decide +kernel
theorem dX10_count_32 : decode cX10_count 32 = .ok (.aload_n 0, 1) := do_42 (byt_at bX10_count_2 (j := 0) rfl)
theorem dX10_count_33 : decode cX10_count 33 = .ok (.getfield 193, 3) := do_180 0 193 (byt_at bX10_count_2 (j := 1) rfl) (byt_at bX10_count_2 (j := 2) rfl) (byt_at bX10_count_2 (j := 3) rfl)
theorem dX10_count_36 : decode cX10_count 36 = .ok (.ireturn, 1) := do_172 (byt_at bX10_count_2 (j := 4) rfl)
theorem dX10_count_37 : decode cX10_count 37 = .ok (.aload_n 0, 1) := do_42 (byt_at bX10_count_2 (j := 5) rfl)
theorem dX10_count_38 : decode cX10_count 38 = .ok (.getfield 196, 3) := do_180 0 196 (byt_at bX10_count_2 (j := 6) rfl) (byt_at bX10_count_2 (j := 7) rfl) (byt_at bX10_count_2 (j := 8) rfl)
theorem dX10_count_41 : decode cX10_count 41 = .ok (.ireturn, 1) := do_172 (byt_at bX10_count_2 (j := 9) rfl)
theorem dX10_count_42 : decode cX10_count 42 = .ok (.aload_n 0, 1) := do_42 (byt_at bX10_count_2 (j := 10) rfl)
theorem dX10_count_43 : decode cX10_count 43 = .ok (.getfield 190, 3) := do_180 0 190 (byt_at bX10_count_2 (j := 11) rfl) (byt_at bX10_count_2 (j := 12) rfl) (byt_at bX10_count_2 (j := 13) rfl)
theorem dX10_count_46 : decode cX10_count 46 = .ok (.ireturn, 1) := do_172 (byt_at bX10_count_2 (j := 14) rfl)
theorem dX10_count_47 : decode cX10_count 47 = .ok (.aload_n 0, 1) := do_42 (byt_at bX10_count_2 (j := 15) rfl)
theorem bX10_count_3 : ((bys cX10_count).drop 48).take 16 = [180, 0, 112, 172, 2, 172] := by decide +kernel
theorem dX10_count_48 : decode cX10_count 48 = .ok (.getfield 112, 3) := do_180 0 112 (byt_at bX10_count_3 (j := 0) rfl) (byt_at bX10_count_3 (j := 1) rfl) (byt_at bX10_count_3 (j := 2) rfl)
theorem dX10_count_51 : decode cX10_count 51 = .ok (.ireturn, 1) := do_172 (byt_at bX10_count_3 (j := 3) rfl)
theorem dX10_count_52 : decode cX10_count 52 = .ok (.iconst (-1), 1) := do_2 (byt_at bX10_count_3 (j := 4) rfl)
theorem dX10_count_53 : decode cX10_count 53 = .ok (.ireturn, 1) := do_172 (byt_at bX10_count_3 (j := 5) rfl)
theorem kk_X10_odds_0 : Cond.constantLong RX10 407 (999) ∈ wsX10_odds := pm_X10_odds_r1 _ (List.mem_of_getElem? (i := 0) rfl)
theorem kk_X10_odds_1 : Cond.fieldLink RX10 17 "PaidBySignsModel" "num" "[I" ∈ wsX10_odds := pm_X10_odds_r1 _ (List.mem_of_getElem? (i := 1) rfl)
theorem kk_X10_guess_0 : Cond.constantLong RX10 407 (999) ∈ wsX10_guess := List.mem_cons_of_mem _ (List.mem_append_left _ (List.mem_of_getElem? (i := 0) rfl))
theorem kk_X10_guess_1 : Cond.fieldLink RX10 17 "PaidBySignsModel" "num" "[I" ∈ wsX10_guess := List.mem_cons_of_mem _ (List.mem_append_left _ (List.mem_of_getElem? (i := 1) rfl))
theorem kk_X10_count_0 : Cond.fieldLink RX10 193 "PaidBySignsModel" "seenMany" "I" ∈ wsX10_count := List.mem_cons_of_mem _ (List.mem_append_left _ (List.mem_of_getElem? (i := 0) rfl))
theorem kk_X10_count_1 : Cond.fieldLink RX10 196 "PaidBySignsModel" "rightMany" "I" ∈ wsX10_count := List.mem_cons_of_mem _ (List.mem_append_left _ (List.mem_of_getElem? (i := 1) rfl))
theorem kk_X10_count_2 : Cond.fieldLink RX10 190 "PaidBySignsModel" "lowerPress" "I" ∈ wsX10_count := List.mem_cons_of_mem _ (List.mem_append_left _ (List.mem_of_getElem? (i := 2) rfl))
theorem kk_X10_count_3 : Cond.fieldLink RX10 112 "PaidBySignsModel" "taped" "I" ∈ wsX10_count := List.mem_cons_of_mem _ (List.mem_append_left _ (List.mem_of_getElem? (i := 3) rfl))
theorem iw_X10_odds_X10 : ∀ w ∈ wsX100, w ∈ wsX10_odds := pw_X10_odds_X10
theorem iw_X10_guess_X10 : ∀ w ∈ wsX100, w ∈ wsX10_guess := fun _ h => List.mem_cons_of_mem _ (List.mem_append_right _ h)
theorem iw_X10_count_X10 : ∀ w ∈ wsX100, w ∈ wsX10_count := fun _ h => List.mem_cons_of_mem _ (List.mem_append_right _ h)
