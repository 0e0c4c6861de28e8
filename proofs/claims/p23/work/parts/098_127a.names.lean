abbrev cX9_odds : ByteArray := prog_1_method_35_code
def yX9_odds : MethodName := ⟨RX9, "odds", "(II)I"⟩
abbrev cX9_guess : ByteArray := prog_1_method_36_code
def yX9_guess : MethodName := ⟨RX9, "guess", "(I)I"⟩
abbrev cX9_count : ByteArray := prog_1_method_37_code
def yX9_count : MethodName := ⟨RX9, "count", "(I)I"⟩
abbrev cX9_isStep : ByteArray := prog_1_method_42_code
def yX9_isStep : MethodName := ⟨RX9, "isStep", "(I)Z"⟩
def wsX9_isStep : List Cond := .code yX9_isStep cX9_isStep 1 (some .boolean) :: ([])
def wsX9_odds_r1 : List Cond := [Cond.fieldLink RX9 19 "PaidBySigns" "hire" "LPaidBySigns$Hire;", Cond.fieldLink RX9 115 "PaidBySigns$Hire" "works" "I", Cond.fieldLink RX9 82 "PaidBySigns" "diary" "LPaidBySigns$Diary;", Cond.fieldLink RX9 30 "PaidBySigns" "latest" "LPaidBySigns$Fraction;", Cond.methodLink RX9 140 yX9_isWork, Cond.instanceMethod yX9_isWork, Cond.selects RX9 yX9_isWork yX9_isWork, Cond.initialized RX9, Cond.code yX9_isWork cX9_isWork 2 (some .boolean), Cond.methodLink RX9 294 yX9_isStep, Cond.static yX9_isStep, Cond.code yX9_isStep cX9_isStep 1 (some .boolean), Cond.methodLink RX9 297 yX1_productOf, Cond.instanceMethod yX1_productOf, Cond.selects RX1 yX1_productOf yX1_productOf, Cond.initialized RX1, Cond.code yX1_productOf cX1_productOf 7 (some .long), Cond.fieldLink RX1 9 "PaidBySigns$Diary" "seen" "I", Cond.fieldLink RX1 21 "PaidBySigns$Diary" "seenStep" "[I", Cond.fieldLink RX1 40 "PaidBySigns$Hire" "chances" "[[I", Cond.methodLink RX1 46 yX1_signKnown, Cond.instanceMethod yX1_signKnown, Cond.selects RX1 yX1_signKnown yX1_signKnown, Cond.code yX1_signKnown cX1_signKnown 5 (some .int)]
def wsX9_odds_r2 : List Cond := [Cond.fieldLink RX1 25 "PaidBySigns$Diary" "seenSign" "[I", Cond.fieldLink RX1 15 "PaidBySigns$Diary" "rights" "I", Cond.fieldLink RX1 34 "PaidBySigns$Diary" "rightOf" "[I", Cond.fieldLink RX1 31 "PaidBySigns$Diary" "rightStep" "[I", Cond.fieldLink RX1 37 "PaidBySigns$Diary" "rightSign" "[I", Cond.methodLink RX9 190 yX2_become, Cond.instanceMethod yX2_become, Cond.selects RX2 yX2_become yX2_become, Cond.initialized RX2, Cond.code yX2_become cX2_become 7 none, Cond.methodLink RX2 20 Lib.MathLoose.abs_long.x, Cond.static Lib.MathLoose.abs_long.x, Cond.initialized "java/lang/Math", Cond.code Lib.MathLoose.abs_long.x Lib.MathLoose.abs_long.code 2 (some .long), Cond.fieldLink RX2 11 "PaidBySigns$Fraction" "upper" "J", Cond.fieldLink RX2 17 "PaidBySigns$Fraction" "lower" "J", Cond.methodLink RX2 26 yX2_commonPart, Cond.static yX2_commonPart, Cond.code yX2_commonPart cX2_commonPart 11 (some .long), Cond.methodLink RX2 30 yX2_forget, Cond.instanceMethod yX2_forget, Cond.selects RX2 yX2_forget yX2_forget, Cond.code yX2_forget cX2_forget 1 none, Cond.constantLong RX2 9 (-2000000000)]
def wsX9_odds : List Cond := .code yX9_odds cX9_odds 6 (some .int) :: ((wsX9_odds_r1 ++ wsX9_odds_r2) ++ wsX90 ++ wsX30 ++ wsX10 ++ wsX20)
def wsX9_guess : List Cond := .code yX9_guess cX9_guess 8 (some .int) :: ([.fieldLink RX9 19 "PaidBySigns" "hire" "LPaidBySigns$Hire;", .fieldLink RX9 115 "PaidBySigns$Hire" "works" "I", .fieldLink RX9 82 "PaidBySigns" "diary" "LPaidBySigns$Diary;", .methodLink RX9 294 yX9_isStep, .static yX9_isStep, .initialized RX9, .code yX9_isStep cX9_isStep 1 (some .boolean), .methodLink RX9 297 yX1_productOf, .instanceMethod yX1_productOf, .selects RX1 yX1_productOf yX1_productOf, .initialized RX1, .code yX1_productOf cX1_productOf 7 (some .long), .fieldLink RX1 9 "PaidBySigns$Diary" "seen" "I", .fieldLink RX1 21 "PaidBySigns$Diary" "seenStep" "[I", .fieldLink RX1 40 "PaidBySigns$Hire" "chances" "[[I", .methodLink RX1 46 yX1_signKnown, .instanceMethod yX1_signKnown, .selects RX1 yX1_signKnown yX1_signKnown, .code yX1_signKnown cX1_signKnown 5 (some .int), .fieldLink RX1 25 "PaidBySigns$Diary" "seenSign" "[I", .fieldLink RX1 15 "PaidBySigns$Diary" "rights" "I", .fieldLink RX1 34 "PaidBySigns$Diary" "rightOf" "[I", .fieldLink RX1 31 "PaidBySigns$Diary" "rightStep" "[I", .fieldLink RX1 37 "PaidBySigns$Diary" "rightSign" "[I"] ++ wsX90 ++ wsX30 ++ wsX10)
def wsX9_count : List Cond := .code yX9_count cX9_count 2 (some .int) :: ([.fieldLink RX9 82 "PaidBySigns" "diary" "LPaidBySigns$Diary;", .fieldLink RX9 278 "PaidBySigns$Diary" "seen" "I", .fieldLink RX9 287 "PaidBySigns$Diary" "rights" "I", .fieldLink RX9 75 "PaidBySigns" "proofs" "LPaidBySigns$Proofs;", .fieldLink RX9 251 "PaidBySigns$Proofs" "lowerNumber" "I", .fieldLink RX9 10 "PaidBySigns" "reader" "LPaidBySigns$Reader;", .fieldLink RX9 86 "PaidBySigns$Reader" "length" "I"] ++ wsX90 ++ wsX10 ++ wsX60 ++ wsX70)
theorem pm_X9_odds_r1 : ∀ w ∈ wsX9_odds_r1, w ∈ wsX9_odds := fun _ h => List.mem_cons_of_mem _ (List.mem_append_left _ (List.mem_append_left _ (List.mem_append_left _ (List.mem_append_left _ (List.mem_append_left _ h)))))
theorem pm_X9_odds_r2 : ∀ w ∈ wsX9_odds_r2, w ∈ wsX9_odds := fun _ h => List.mem_cons_of_mem _ (List.mem_append_left _ (List.mem_append_left _ (List.mem_append_left _ (List.mem_append_left _ (List.mem_append_right _ (h))))))
theorem pw_X9_odds_X9 : ∀ w ∈ wsX90, w ∈ wsX9_odds := fun _ h => List.mem_cons_of_mem _ (List.mem_append_left _ (List.mem_append_left _ (List.mem_append_left _ (List.mem_append_right _ h))))
theorem pw_X9_odds_X3 : ∀ w ∈ wsX30, w ∈ wsX9_odds := fun _ h => List.mem_cons_of_mem _ (List.mem_append_left _ (List.mem_append_left _ (List.mem_append_right _ h)))
theorem pw_X9_odds_X1 : ∀ w ∈ wsX10, w ∈ wsX9_odds := fun _ h => List.mem_cons_of_mem _ (List.mem_append_left _ (List.mem_append_right _ h))
theorem pw_X9_odds_X2 : ∀ w ∈ wsX20, w ∈ wsX9_odds := fun _ h => List.mem_cons_of_mem _ (List.mem_append_right _ h)
set_option maxRecDepth 20000 in
theorem ggX9_odds_X9_isWork : GoodIn wsX9_odds wsX9_isWork := goodIn_sub (List.forall_mem_cons.mpr ⟨pm_X9_odds_r1 _ (List.mem_of_getElem? (i := 8) rfl), List.forall_mem_append.mpr ⟨List.forall_mem_append.mpr ⟨List.forall_mem_cons.mpr ⟨pm_X9_odds_r1 _ (List.mem_of_getElem? (i := 0) rfl), List.forall_mem_cons.mpr ⟨pm_X9_odds_r1 _ (List.mem_of_getElem? (i := 1) rfl), fun _ h => absurd h List.not_mem_nil⟩⟩, pw_X9_odds_X9⟩, pw_X9_odds_X3⟩⟩) (by decide +kernel)
set_option maxRecDepth 20000 in
theorem gX9_odds_X9_isWork : GoodIn wsX9_odds (wsV RX9 140 RX9 yX9_isWork wsX9_isWork) := goodIn_app (goodIn_sub (List.forall_mem_cons.mpr ⟨pm_X9_odds_r1 _ (List.mem_of_getElem? (i := 4) rfl), List.forall_mem_cons.mpr ⟨pm_X9_odds_r1 _ (List.mem_of_getElem? (i := 5) rfl), List.forall_mem_cons.mpr ⟨pm_X9_odds_r1 _ (List.mem_of_getElem? (i := 6) rfl), List.forall_mem_cons.mpr ⟨pm_X9_odds_r1 _ (List.mem_of_getElem? (i := 7) rfl), fun _ h => absurd h List.not_mem_nil⟩⟩⟩⟩) (by decide +kernel)) ggX9_odds_X9_isWork
set_option maxRecDepth 20000 in
theorem ggX9_odds_X9_isStep : GoodIn wsX9_odds wsX9_isStep := goodIn_sub (List.forall_mem_cons.mpr ⟨pm_X9_odds_r1 _ (List.mem_of_getElem? (i := 11) rfl), fun _ h => absurd h List.not_mem_nil⟩) (by decide +kernel)
set_option maxRecDepth 20000 in
theorem gX9_odds_X9_isStep : GoodIn wsX9_odds (va_wsS RX9 294 yX9_isStep wsX9_isStep) := goodIn_app (goodIn_sub (List.forall_mem_cons.mpr ⟨pm_X9_odds_r1 _ (List.mem_of_getElem? (i := 9) rfl), List.forall_mem_cons.mpr ⟨pm_X9_odds_r1 _ (List.mem_of_getElem? (i := 10) rfl), List.forall_mem_cons.mpr ⟨pm_X9_odds_r1 _ (List.mem_of_getElem? (i := 7) rfl), fun _ h => absurd h List.not_mem_nil⟩⟩⟩) (by decide +kernel)) ggX9_odds_X9_isStep
set_option maxRecDepth 20000 in
theorem ggX9_odds_X1_productOf : GoodIn wsX9_odds wsX1_productOf := goodIn_sub (List.forall_mem_cons.mpr ⟨pm_X9_odds_r1 _ (List.mem_of_getElem? (i := 16) rfl), List.forall_mem_append.mpr ⟨List.forall_mem_append.mpr ⟨List.forall_mem_cons.mpr ⟨pm_X9_odds_r1 _ (List.mem_of_getElem? (i := 17) rfl), List.forall_mem_cons.mpr ⟨pm_X9_odds_r1 _ (List.mem_of_getElem? (i := 18) rfl), List.forall_mem_cons.mpr ⟨pm_X9_odds_r1 _ (List.mem_of_getElem? (i := 19) rfl), List.forall_mem_cons.mpr ⟨pm_X9_odds_r1 _ (List.mem_of_getElem? (i := 20) rfl), List.forall_mem_cons.mpr ⟨pm_X9_odds_r1 _ (List.mem_of_getElem? (i := 21) rfl), List.forall_mem_cons.mpr ⟨pm_X9_odds_r1 _ (List.mem_of_getElem? (i := 22) rfl), List.forall_mem_cons.mpr ⟨pm_X9_odds_r1 _ (List.mem_of_getElem? (i := 15) rfl), List.forall_mem_cons.mpr ⟨pm_X9_odds_r1 _ (List.mem_of_getElem? (i := 23) rfl), List.forall_mem_cons.mpr ⟨pm_X9_odds_r2 _ (List.mem_of_getElem? (i := 0) rfl), List.forall_mem_cons.mpr ⟨pm_X9_odds_r2 _ (List.mem_of_getElem? (i := 1) rfl), List.forall_mem_cons.mpr ⟨pm_X9_odds_r2 _ (List.mem_of_getElem? (i := 2) rfl), List.forall_mem_cons.mpr ⟨pm_X9_odds_r2 _ (List.mem_of_getElem? (i := 3) rfl), List.forall_mem_cons.mpr ⟨pm_X9_odds_r2 _ (List.mem_of_getElem? (i := 4) rfl), fun _ h => absurd h List.not_mem_nil⟩⟩⟩⟩⟩⟩⟩⟩⟩⟩⟩⟩⟩, pw_X9_odds_X1⟩, pw_X9_odds_X3⟩⟩) (by decide +kernel)
set_option maxRecDepth 20000 in
theorem gX9_odds_X1_productOf : GoodIn wsX9_odds (wsV RX9 297 RX1 yX1_productOf wsX1_productOf) := goodIn_app (goodIn_sub (List.forall_mem_cons.mpr ⟨pm_X9_odds_r1 _ (List.mem_of_getElem? (i := 12) rfl), List.forall_mem_cons.mpr ⟨pm_X9_odds_r1 _ (List.mem_of_getElem? (i := 13) rfl), List.forall_mem_cons.mpr ⟨pm_X9_odds_r1 _ (List.mem_of_getElem? (i := 14) rfl), List.forall_mem_cons.mpr ⟨pm_X9_odds_r1 _ (List.mem_of_getElem? (i := 15) rfl), fun _ h => absurd h List.not_mem_nil⟩⟩⟩⟩) (by decide +kernel)) ggX9_odds_X1_productOf
set_option maxRecDepth 20000 in
theorem ggX9_odds_X2_become : GoodIn wsX9_odds wsX2_become := goodIn_sub (List.forall_mem_cons.mpr ⟨pm_X9_odds_r2 _ (List.mem_of_getElem? (i := 9) rfl), List.forall_mem_append.mpr ⟨List.forall_mem_cons.mpr ⟨pm_X9_odds_r2 _ (List.mem_of_getElem? (i := 10) rfl), List.forall_mem_cons.mpr ⟨pm_X9_odds_r2 _ (List.mem_of_getElem? (i := 11) rfl), List.forall_mem_cons.mpr ⟨pm_X9_odds_r2 _ (List.mem_of_getElem? (i := 12) rfl), List.forall_mem_cons.mpr ⟨pm_X9_odds_r2 _ (List.mem_of_getElem? (i := 13) rfl), List.forall_mem_cons.mpr ⟨pm_X9_odds_r2 _ (List.mem_of_getElem? (i := 14) rfl), List.forall_mem_cons.mpr ⟨pm_X9_odds_r2 _ (List.mem_of_getElem? (i := 15) rfl), List.forall_mem_cons.mpr ⟨pm_X9_odds_r2 _ (List.mem_of_getElem? (i := 16) rfl), List.forall_mem_cons.mpr ⟨pm_X9_odds_r2 _ (List.mem_of_getElem? (i := 17) rfl), List.forall_mem_cons.mpr ⟨pm_X9_odds_r2 _ (List.mem_of_getElem? (i := 8) rfl), List.forall_mem_cons.mpr ⟨pm_X9_odds_r2 _ (List.mem_of_getElem? (i := 18) rfl), List.forall_mem_cons.mpr ⟨pm_X9_odds_r2 _ (List.mem_of_getElem? (i := 19) rfl), List.forall_mem_cons.mpr ⟨pm_X9_odds_r2 _ (List.mem_of_getElem? (i := 20) rfl), List.forall_mem_cons.mpr ⟨pm_X9_odds_r2 _ (List.mem_of_getElem? (i := 21) rfl), List.forall_mem_cons.mpr ⟨pm_X9_odds_r2 _ (List.mem_of_getElem? (i := 22) rfl), List.forall_mem_cons.mpr ⟨pm_X9_odds_r2 _ (List.mem_of_getElem? (i := 23) rfl), fun _ h => absurd h List.not_mem_nil⟩⟩⟩⟩⟩⟩⟩⟩⟩⟩⟩⟩⟩⟩⟩, pw_X9_odds_X2⟩⟩) (by decide +kernel)
set_option maxRecDepth 20000 in
theorem gX9_odds_X2_become : GoodIn wsX9_odds (wsV RX9 190 RX2 yX2_become wsX2_become) := goodIn_app (goodIn_sub (List.forall_mem_cons.mpr ⟨pm_X9_odds_r2 _ (List.mem_of_getElem? (i := 5) rfl), List.forall_mem_cons.mpr ⟨pm_X9_odds_r2 _ (List.mem_of_getElem? (i := 6) rfl), List.forall_mem_cons.mpr ⟨pm_X9_odds_r2 _ (List.mem_of_getElem? (i := 7) rfl), List.forall_mem_cons.mpr ⟨pm_X9_odds_r2 _ (List.mem_of_getElem? (i := 8) rfl), fun _ h => absurd h List.not_mem_nil⟩⟩⟩⟩) (by decide +kernel)) ggX9_odds_X2_become
theorem bX9_odds_0 : ((bys cX9_odds).drop 0).take 16 = [42, 27, 182, 0, 140, 153, 0, 10, 28, 184, 1, 38, 154, 0, 6, 16] := by decide +kernel
theorem dX9_odds_0 : decode cX9_odds 0 = .ok (.aload_n 0, 1) := do_42 (byt_at bX9_odds_0 (j := 0) rfl)
theorem dX9_odds_1 : decode cX9_odds 1 = .ok (.iload_n 1, 1) := do_27 (byt_at bX9_odds_0 (j := 1) rfl)
theorem dX9_odds_2 : decode cX9_odds 2 = .ok (.invokevirtual 140, 3) := do_182 0 140 (byt_at bX9_odds_0 (j := 2) rfl) (byt_at bX9_odds_0 (j := 3) rfl) (byt_at bX9_odds_0 (j := 4) rfl)
theorem dX9_odds_5 : decode cX9_odds 5 = .ok (.ifCond .eq 10, 3) := do_153 0 10 (byt_at bX9_odds_0 (j := 5) rfl) (byt_at bX9_odds_0 (j := 6) rfl) (byt_at bX9_odds_0 (j := 7) rfl) (by decide)
theorem dX9_odds_8 : decode cX9_odds 8 = .ok (.iload_n 2, 1) := do_28 (byt_at bX9_odds_0 (j := 8) rfl)
theorem dX9_odds_9 : decode cX9_odds 9 = .ok (.invokestatic 294, 3) := do_184 1 38 (byt_at bX9_odds_0 (j := 9) rfl) (byt_at bX9_odds_0 (j := 10) rfl) (byt_at bX9_odds_0 (j := 11) rfl)
theorem dX9_odds_12 : decode cX9_odds 12 = .ok (.ifCond .ne 6, 3) := do_154 0 6 (byt_at bX9_odds_0 (j := 12) rfl) (byt_at bX9_odds_0 (j := 13) rfl) (byt_at bX9_odds_0 (j := 14) rfl) (by decide)
theorem bX9_odds_1 : ((bys cX9_odds).drop 16).take 16 = [254, 172, 9, 66, 3, 54, 5, 21, 5, 42, 180, 0, 19, 180, 0, 115] := by decide +kernel
theorem dX9_odds_15 : decode cX9_odds 15 = .ok (.bipush (-2), 2) := do_16 254 (byt_at bX9_odds_0 (j := 15) rfl) (byt_at bX9_odds_1 (j := 0) rfl) (by decide)
theorem dX9_odds_17 : decode cX9_odds 17 = .ok (.ireturn, 1) := do_172 (byt_at bX9_odds_1 (j := 1) rfl)
theorem dX9_odds_18 : decode cX9_odds 18 = .ok (.lconst 0, 1) := do_9 (byt_at bX9_odds_1 (j := 2) rfl)
theorem dX9_odds_19 : decode cX9_odds 19 = .ok (.lstore_n 3, 1) := do_66 (byt_at bX9_odds_1 (j := 3) rfl)
theorem dX9_odds_20 : decode cX9_odds 20 = .ok (.iconst 0, 1) := do_3 (byt_at bX9_odds_1 (j := 4) rfl)
theorem dX9_odds_21 : decode cX9_odds 21 = .ok (.istore 5, 2) := do_54 5 (byt_at bX9_odds_1 (j := 5) rfl) (byt_at bX9_odds_1 (j := 6) rfl)
theorem dX9_odds_23 : decode cX9_odds 23 = .ok (.iload 5, 2) := do_21 5 (byt_at bX9_odds_1 (j := 7) rfl) (byt_at bX9_odds_1 (j := 8) rfl)
theorem dX9_odds_25 : decode cX9_odds 25 = .ok (.aload_n 0, 1) := do_42 (byt_at bX9_odds_1 (j := 9) rfl)
theorem dX9_odds_26 : decode cX9_odds 26 = .ok (.getfield 19, 3) := do_180 0 19 (byt_at bX9_odds_1 (j := 10) rfl) (byt_at bX9_odds_1 (j := 11) rfl) (byt_at bX9_odds_1 (j := 12) rfl)
theorem dX9_odds_29 : decode cX9_odds 29 = .ok (.getfield 115, 3) := do_180 0 115 (byt_at bX9_odds_1 (j := 13) rfl) (byt_at bX9_odds_1 (j := 14) rfl) (byt_at bX9_odds_1 (j := 15) rfl)
theorem bX9_odds_2 : ((bys cX9_odds).drop 32).take 16 = [162, 0, 26, 33, 42, 180, 0, 82, 42, 180, 0, 19, 21, 5, 28, 182] := by decide +kernel
theorem dX9_odds_32 : decode cX9_odds 32 = .ok (.if_icmp .ge 26, 3) := do_162 0 26 (byt_at bX9_odds_2 (j := 0) rfl) (byt_at bX9_odds_2 (j := 1) rfl) (byt_at bX9_odds_2 (j := 2) rfl) (by decide)
theorem dX9_odds_35 : decode cX9_odds 35 = .ok (.lload_n 3, 1) := do_33 (byt_at bX9_odds_2 (j := 3) rfl)
theorem dX9_odds_36 : decode cX9_odds 36 = .ok (.aload_n 0, 1) := do_42 (byt_at bX9_odds_2 (j := 4) rfl)
theorem dX9_odds_37 : decode cX9_odds 37 = .ok (.getfield 82, 3) := do_180 0 82 (byt_at bX9_odds_2 (j := 5) rfl) (byt_at bX9_odds_2 (j := 6) rfl) (byt_at bX9_odds_2 (j := 7) rfl)
theorem dX9_odds_40 : decode cX9_odds 40 = .ok (.aload_n 0, 1) := do_42 (byt_at bX9_odds_2 (j := 8) rfl)
theorem dX9_odds_41 : decode cX9_odds 41 = .ok (.getfield 19, 3) := do_180 0 19 (byt_at bX9_odds_2 (j := 9) rfl) (byt_at bX9_odds_2 (j := 10) rfl) (byt_at bX9_odds_2 (j := 11) rfl)
theorem dX9_odds_44 : decode cX9_odds 44 = .ok (.iload 5, 2) := do_21 5 (byt_at bX9_odds_2 (j := 12) rfl) (byt_at bX9_odds_2 (j := 13) rfl)
theorem dX9_odds_46 : decode cX9_odds 46 = .ok (.iload_n 2, 1) := do_28 (byt_at bX9_odds_2 (j := 14) rfl)
theorem bX9_odds_3 : ((bys cX9_odds).drop 48).take 16 = [1, 41, 97, 66, 132, 5, 1, 167, 255, 224, 33, 9, 148, 154, 0, 5] := by decide +kernel
theorem dX9_odds_47 : decode cX9_odds 47 = .ok (.invokevirtual 297, 3) := do_182 1 41 (byt_at bX9_odds_2 (j := 15) rfl) (byt_at bX9_odds_3 (j := 0) rfl) (byt_at bX9_odds_3 (j := 1) rfl)
theorem dX9_odds_50 : decode cX9_odds 50 = .ok (.ladd, 1) := do_97 (byt_at bX9_odds_3 (j := 2) rfl)
theorem dX9_odds_51 : decode cX9_odds 51 = .ok (.lstore_n 3, 1) := do_66 (byt_at bX9_odds_3 (j := 3) rfl)
theorem dX9_odds_52 : decode cX9_odds 52 = .ok (.iinc 5 1, 3) := do_132 5 1 (byt_at bX9_odds_3 (j := 4) rfl) (byt_at bX9_odds_3 (j := 5) rfl) (byt_at bX9_odds_3 (j := 6) rfl) (by decide)
theorem dX9_odds_55 : decode cX9_odds 55 = .ok (.goto (-32), 3) := do_167 255 224 (byt_at bX9_odds_3 (j := 7) rfl) (byt_at bX9_odds_3 (j := 8) rfl) (byt_at bX9_odds_3 (j := 9) rfl) (by decide)
theorem dX9_odds_58 : decode cX9_odds 58 = .ok (.lload_n 3, 1) := do_33 (byt_at bX9_odds_3 (j := 10) rfl)
theorem dX9_odds_59 : decode cX9_odds 59 = .ok (.lconst 0, 1) := do_9 (byt_at bX9_odds_3 (j := 11) rfl)
theorem dX9_odds_60 : decode cX9_odds 60 = .ok (.lcmp, 1) := do_148 (byt_at bX9_odds_3 (j := 12) rfl)
theorem dX9_odds_61 : decode cX9_odds 61 = .ok (.ifCond .ne 5, 3) := do_154 0 5 (byt_at bX9_odds_3 (j := 13) rfl) (byt_at bX9_odds_3 (j := 14) rfl) (byt_at bX9_odds_3 (j := 15) rfl) (by decide)
theorem bX9_odds_4 : ((bys cX9_odds).drop 64).take 16 = [2, 172, 42, 180, 0, 30, 42, 180, 0, 82, 42, 180, 0, 19, 27, 28] := by decide +kernel
theorem dX9_odds_64 : decode cX9_odds 64 = .ok (.iconst (-1), 1) := do_2 (byt_at bX9_odds_4 (j := 0) rfl)
theorem dX9_odds_65 : decode cX9_odds 65 = .ok (.ireturn, 1) := do_172 (byt_at bX9_odds_4 (j := 1) rfl)
theorem dX9_odds_66 : decode cX9_odds 66 = .ok (.aload_n 0, 1) := do_42 (byt_at bX9_odds_4 (j := 2) rfl)
theorem dX9_odds_67 : decode cX9_odds 67 = .ok (.getfield 30, 3) := do_180 0 30 (byt_at bX9_odds_4 (j := 3) rfl) (byt_at bX9_odds_4 (j := 4) rfl) (byt_at bX9_odds_4 (j := 5) rfl)
theorem dX9_odds_70 : decode cX9_odds 70 = .ok (.aload_n 0, 1) := do_42 (byt_at bX9_odds_4 (j := 6) rfl)
theorem dX9_odds_71 : decode cX9_odds 71 = .ok (.getfield 82, 3) := do_180 0 82 (byt_at bX9_odds_4 (j := 7) rfl) (byt_at bX9_odds_4 (j := 8) rfl) (byt_at bX9_odds_4 (j := 9) rfl)
theorem dX9_odds_74 : decode cX9_odds 74 = .ok (.aload_n 0, 1) := do_42 (byt_at bX9_odds_4 (j := 10) rfl)
theorem dX9_odds_75 : decode cX9_odds 75 = .ok (.getfield 19, 3) := do_180 0 19 (byt_at bX9_odds_4 (j := 11) rfl) (byt_at bX9_odds_4 (j := 12) rfl) (byt_at bX9_odds_4 (j := 13) rfl)
theorem dX9_odds_78 : decode cX9_odds 78 = .ok (.iload_n 1, 1) := do_27 (byt_at bX9_odds_4 (j := 14) rfl)
theorem dX9_odds_79 : decode cX9_odds 79 = .ok (.iload_n 2, 1) := do_28 (byt_at bX9_odds_4 (j := 15) rfl)
theorem bX9_odds_5 : ((bys cX9_odds).drop 80).take 16 = [182, 1, 41, 33, 182, 0, 190, 4, 172] := by decide +kernel
theorem dX9_odds_80 : decode cX9_odds 80 = .ok (.invokevirtual 297, 3) := do_182 1 41 (byt_at bX9_odds_5 (j := 0) rfl) (byt_at bX9_odds_5 (j := 1) rfl) (byt_at bX9_odds_5 (j := 2) rfl)
theorem dX9_odds_83 : decode cX9_odds 83 = .ok (.lload_n 3, 1) := do_33 (byt_at bX9_odds_5 (j := 3) rfl)
theorem dX9_odds_84 : decode cX9_odds 84 = .ok (.invokevirtual 190, 3) := do_182 0 190 (byt_at bX9_odds_5 (j := 4) rfl) (byt_at bX9_odds_5 (j := 5) rfl) (byt_at bX9_odds_5 (j := 6) rfl)
theorem dX9_odds_87 : decode cX9_odds 87 = .ok (.iconst 1, 1) := do_4 (byt_at bX9_odds_5 (j := 7) rfl)
theorem dX9_odds_88 : decode cX9_odds 88 = .ok (.ireturn, 1) := do_172 (byt_at bX9_odds_5 (j := 8) rfl)
set_option maxRecDepth 20000 in
theorem ggX9_guess_X9_isStep : GoodIn wsX9_guess wsX9_isStep := goodIn_sub (List.forall_mem_cons.mpr ⟨List.mem_cons_of_mem _ (List.mem_append_left _ (List.mem_append_left _ (List.mem_append_left _ (List.mem_of_getElem? (i := 6) rfl)))), fun _ h => absurd h List.not_mem_nil⟩) (by decide +kernel)
set_option maxRecDepth 20000 in
theorem gX9_guess_X9_isStep : GoodIn wsX9_guess (va_wsS RX9 294 yX9_isStep wsX9_isStep) := goodIn_app (goodIn_sub (List.forall_mem_cons.mpr ⟨List.mem_cons_of_mem _ (List.mem_append_left _ (List.mem_append_left _ (List.mem_append_left _ (List.mem_of_getElem? (i := 3) rfl)))), List.forall_mem_cons.mpr ⟨List.mem_cons_of_mem _ (List.mem_append_left _ (List.mem_append_left _ (List.mem_append_left _ (List.mem_of_getElem? (i := 4) rfl)))), List.forall_mem_cons.mpr ⟨List.mem_cons_of_mem _ (List.mem_append_left _ (List.mem_append_left _ (List.mem_append_left _ (List.mem_of_getElem? (i := 5) rfl)))), fun _ h => absurd h List.not_mem_nil⟩⟩⟩) (by decide +kernel)) ggX9_guess_X9_isStep
set_option maxRecDepth 20000 in
theorem ggX9_guess_X1_productOf : GoodIn wsX9_guess wsX1_productOf := goodIn_sub (List.forall_mem_cons.mpr ⟨List.mem_cons_of_mem _ (List.mem_append_left _ (List.mem_append_left _ (List.mem_append_left _ (List.mem_of_getElem? (i := 11) rfl)))), List.forall_mem_append.mpr ⟨List.forall_mem_append.mpr ⟨List.forall_mem_cons.mpr ⟨List.mem_cons_of_mem _ (List.mem_append_left _ (List.mem_append_left _ (List.mem_append_left _ (List.mem_of_getElem? (i := 12) rfl)))), List.forall_mem_cons.mpr ⟨List.mem_cons_of_mem _ (List.mem_append_left _ (List.mem_append_left _ (List.mem_append_left _ (List.mem_of_getElem? (i := 13) rfl)))), List.forall_mem_cons.mpr ⟨List.mem_cons_of_mem _ (List.mem_append_left _ (List.mem_append_left _ (List.mem_append_left _ (List.mem_of_getElem? (i := 14) rfl)))), List.forall_mem_cons.mpr ⟨List.mem_cons_of_mem _ (List.mem_append_left _ (List.mem_append_left _ (List.mem_append_left _ (List.mem_of_getElem? (i := 15) rfl)))), List.forall_mem_cons.mpr ⟨List.mem_cons_of_mem _ (List.mem_append_left _ (List.mem_append_left _ (List.mem_append_left _ (List.mem_of_getElem? (i := 16) rfl)))), List.forall_mem_cons.mpr ⟨List.mem_cons_of_mem _ (List.mem_append_left _ (List.mem_append_left _ (List.mem_append_left _ (List.mem_of_getElem? (i := 17) rfl)))), List.forall_mem_cons.mpr ⟨List.mem_cons_of_mem _ (List.mem_append_left _ (List.mem_append_left _ (List.mem_append_left _ (List.mem_of_getElem? (i := 10) rfl)))), List.forall_mem_cons.mpr ⟨List.mem_cons_of_mem _ (List.mem_append_left _ (List.mem_append_left _ (List.mem_append_left _ (List.mem_of_getElem? (i := 18) rfl)))), List.forall_mem_cons.mpr ⟨List.mem_cons_of_mem _ (List.mem_append_left _ (List.mem_append_left _ (List.mem_append_left _ (List.mem_of_getElem? (i := 19) rfl)))), List.forall_mem_cons.mpr ⟨List.mem_cons_of_mem _ (List.mem_append_left _ (List.mem_append_left _ (List.mem_append_left _ (List.mem_of_getElem? (i := 20) rfl)))), List.forall_mem_cons.mpr ⟨List.mem_cons_of_mem _ (List.mem_append_left _ (List.mem_append_left _ (List.mem_append_left _ (List.mem_of_getElem? (i := 21) rfl)))), List.forall_mem_cons.mpr ⟨List.mem_cons_of_mem _ (List.mem_append_left _ (List.mem_append_left _ (List.mem_append_left _ (List.mem_of_getElem? (i := 22) rfl)))), List.forall_mem_cons.mpr ⟨List.mem_cons_of_mem _ (List.mem_append_left _ (List.mem_append_left _ (List.mem_append_left _ (List.mem_of_getElem? (i := 23) rfl)))), fun _ h => absurd h List.not_mem_nil⟩⟩⟩⟩⟩⟩⟩⟩⟩⟩⟩⟩⟩, fun _ h => List.mem_cons_of_mem _ (List.mem_append_right _ h)⟩, fun _ h => List.mem_cons_of_mem _ (List.mem_append_left _ (List.mem_append_right _ h))⟩⟩) (by decide +kernel)
set_option maxRecDepth 20000 in
theorem gX9_guess_X1_productOf : GoodIn wsX9_guess (wsV RX9 297 RX1 yX1_productOf wsX1_productOf) := goodIn_app (goodIn_sub (List.forall_mem_cons.mpr ⟨List.mem_cons_of_mem _ (List.mem_append_left _ (List.mem_append_left _ (List.mem_append_left _ (List.mem_of_getElem? (i := 7) rfl)))), List.forall_mem_cons.mpr ⟨List.mem_cons_of_mem _ (List.mem_append_left _ (List.mem_append_left _ (List.mem_append_left _ (List.mem_of_getElem? (i := 8) rfl)))), List.forall_mem_cons.mpr ⟨List.mem_cons_of_mem _ (List.mem_append_left _ (List.mem_append_left _ (List.mem_append_left _ (List.mem_of_getElem? (i := 9) rfl)))), List.forall_mem_cons.mpr ⟨List.mem_cons_of_mem _ (List.mem_append_left _ (List.mem_append_left _ (List.mem_append_left _ (List.mem_of_getElem? (i := 10) rfl)))), fun _ h => absurd h List.not_mem_nil⟩⟩⟩⟩) (by decide +kernel)) ggX9_guess_X1_productOf
theorem bX9_guess_0 : ((bys cX9_guess).drop 0).take 16 = [27, 184, 1, 38, 154, 0, 6, 16, 254, 172, 42, 180, 0, 19, 180, 0] := by decide +kernel
theorem dX9_guess_0 : decode cX9_guess 0 = .ok (.iload_n 1, 1) := do_27 (byt_at bX9_guess_0 (j := 0) rfl)
theorem dX9_guess_1 : decode cX9_guess 1 = .ok (.invokestatic 294, 3) := do_184 1 38 (byt_at bX9_guess_0 (j := 1) rfl) (byt_at bX9_guess_0 (j := 2) rfl) (byt_at bX9_guess_0 (j := 3) rfl)
theorem dX9_guess_4 : decode cX9_guess 4 = .ok (.ifCond .ne 6, 3) := do_154 0 6 (byt_at bX9_guess_0 (j := 4) rfl) (byt_at bX9_guess_0 (j := 5) rfl) (byt_at bX9_guess_0 (j := 6) rfl) (by decide)
theorem dX9_guess_7 : decode cX9_guess 7 = .ok (.bipush (-2), 2) := do_16 254 (byt_at bX9_guess_0 (j := 7) rfl) (byt_at bX9_guess_0 (j := 8) rfl) (by decide)
theorem dX9_guess_9 : decode cX9_guess 9 = .ok (.ireturn, 1) := do_172 (byt_at bX9_guess_0 (j := 9) rfl)
theorem dX9_guess_10 : decode cX9_guess 10 = .ok (.aload_n 0, 1) := do_42 (byt_at bX9_guess_0 (j := 10) rfl)
theorem dX9_guess_11 : decode cX9_guess 11 = .ok (.getfield 19, 3) := do_180 0 19 (byt_at bX9_guess_0 (j := 11) rfl) (byt_at bX9_guess_0 (j := 12) rfl) (byt_at bX9_guess_0 (j := 13) rfl)
theorem bX9_guess_1 : ((bys cX9_guess).drop 16).take 16 = [115, 154, 0, 6, 16, 252, 172, 2, 61, 9, 66, 3, 54, 5, 21, 5] := by decide +kernel
theorem dX9_guess_14 : decode cX9_guess 14 = .ok (.getfield 115, 3) := do_180 0 115 (byt_at bX9_guess_0 (j := 14) rfl) (byt_at bX9_guess_0 (j := 15) rfl) (byt_at bX9_guess_1 (j := 0) rfl)
theorem dX9_guess_17 : decode cX9_guess 17 = .ok (.ifCond .ne 6, 3) := do_154 0 6 (byt_at bX9_guess_1 (j := 1) rfl) (byt_at bX9_guess_1 (j := 2) rfl) (byt_at bX9_guess_1 (j := 3) rfl) (by decide)
theorem dX9_guess_20 : decode cX9_guess 20 = .ok (.bipush (-4), 2) := do_16 252 (byt_at bX9_guess_1 (j := 4) rfl) (byt_at bX9_guess_1 (j := 5) rfl) (by decide)
theorem dX9_guess_22 : decode cX9_guess 22 = .ok (.ireturn, 1) := do_172 (byt_at bX9_guess_1 (j := 6) rfl)
theorem dX9_guess_23 : decode cX9_guess 23 = .ok (.iconst (-1), 1) := do_2 (byt_at bX9_guess_1 (j := 7) rfl)
theorem dX9_guess_24 : decode cX9_guess 24 = .ok (.istore_n 2, 1) := do_61 (byt_at bX9_guess_1 (j := 8) rfl)
theorem dX9_guess_25 : decode cX9_guess 25 = .ok (.lconst 0, 1) := do_9 (byt_at bX9_guess_1 (j := 9) rfl)
theorem dX9_guess_26 : decode cX9_guess 26 = .ok (.lstore_n 3, 1) := do_66 (byt_at bX9_guess_1 (j := 10) rfl)
theorem dX9_guess_27 : decode cX9_guess 27 = .ok (.iconst 0, 1) := do_3 (byt_at bX9_guess_1 (j := 11) rfl)
theorem dX9_guess_28 : decode cX9_guess 28 = .ok (.istore 5, 2) := do_54 5 (byt_at bX9_guess_1 (j := 12) rfl) (byt_at bX9_guess_1 (j := 13) rfl)
theorem dX9_guess_30 : decode cX9_guess 30 = .ok (.iload 5, 2) := do_21 5 (byt_at bX9_guess_1 (j := 14) rfl) (byt_at bX9_guess_1 (j := 15) rfl)
theorem bX9_guess_2 : ((bys cX9_guess).drop 32).take 16 = [42, 180, 0, 19, 180, 0, 115, 162, 0, 38, 42, 180, 0, 82, 42, 180] := by decide +kernel
theorem dX9_guess_32 : decode cX9_guess 32 = .ok (.aload_n 0, 1) := do_42 (byt_at bX9_guess_2 (j := 0) rfl)
theorem dX9_guess_33 : decode cX9_guess 33 = .ok (.getfield 19, 3) := do_180 0 19 (byt_at bX9_guess_2 (j := 1) rfl) (byt_at bX9_guess_2 (j := 2) rfl) (byt_at bX9_guess_2 (j := 3) rfl)
theorem dX9_guess_36 : decode cX9_guess 36 = .ok (.getfield 115, 3) := do_180 0 115 (byt_at bX9_guess_2 (j := 4) rfl) (byt_at bX9_guess_2 (j := 5) rfl) (byt_at bX9_guess_2 (j := 6) rfl)
theorem dX9_guess_39 : decode cX9_guess 39 = .ok (.if_icmp .ge 38, 3) := do_162 0 38 (byt_at bX9_guess_2 (j := 7) rfl) (byt_at bX9_guess_2 (j := 8) rfl) (byt_at bX9_guess_2 (j := 9) rfl) (by decide)
theorem dX9_guess_42 : decode cX9_guess 42 = .ok (.aload_n 0, 1) := do_42 (byt_at bX9_guess_2 (j := 10) rfl)
theorem dX9_guess_43 : decode cX9_guess 43 = .ok (.getfield 82, 3) := do_180 0 82 (byt_at bX9_guess_2 (j := 11) rfl) (byt_at bX9_guess_2 (j := 12) rfl) (byt_at bX9_guess_2 (j := 13) rfl)
theorem dX9_guess_46 : decode cX9_guess 46 = .ok (.aload_n 0, 1) := do_42 (byt_at bX9_guess_2 (j := 14) rfl)
theorem bX9_guess_3 : ((bys cX9_guess).drop 48).take 16 = [0, 19, 21, 5, 27, 182, 1, 41, 55, 6, 22, 6, 33, 148, 158, 0] := by decide +kernel
theorem dX9_guess_47 : decode cX9_guess 47 = .ok (.getfield 19, 3) := do_180 0 19 (byt_at bX9_guess_2 (j := 15) rfl) (byt_at bX9_guess_3 (j := 0) rfl) (byt_at bX9_guess_3 (j := 1) rfl)
theorem dX9_guess_50 : decode cX9_guess 50 = .ok (.iload 5, 2) := do_21 5 (byt_at bX9_guess_3 (j := 2) rfl) (byt_at bX9_guess_3 (j := 3) rfl)
theorem dX9_guess_52 : decode cX9_guess 52 = .ok (.iload_n 1, 1) := do_27 (byt_at bX9_guess_3 (j := 4) rfl)
theorem dX9_guess_53 : decode cX9_guess 53 = .ok (.invokevirtual 297, 3) := do_182 1 41 (byt_at bX9_guess_3 (j := 5) rfl) (byt_at bX9_guess_3 (j := 6) rfl) (byt_at bX9_guess_3 (j := 7) rfl)
theorem dX9_guess_56 : decode cX9_guess 56 = .ok (.lstore 6, 2) := do_55 6 (byt_at bX9_guess_3 (j := 8) rfl) (byt_at bX9_guess_3 (j := 9) rfl)
theorem dX9_guess_58 : decode cX9_guess 58 = .ok (.lload 6, 2) := do_22 6 (byt_at bX9_guess_3 (j := 10) rfl) (byt_at bX9_guess_3 (j := 11) rfl)
theorem dX9_guess_60 : decode cX9_guess 60 = .ok (.lload_n 3, 1) := do_33 (byt_at bX9_guess_3 (j := 12) rfl)
theorem dX9_guess_61 : decode cX9_guess 61 = .ok (.lcmp, 1) := do_148 (byt_at bX9_guess_3 (j := 13) rfl)
theorem bX9_guess_4 : ((bys cX9_guess).drop 64).take 16 = [9, 22, 6, 66, 21, 5, 61, 132, 5, 1, 167, 255, 212, 28, 172] := by decide +kernel
theorem dX9_guess_62 : decode cX9_guess 62 = .ok (.ifCond .le 9, 3) := do_158 0 9 (byt_at bX9_guess_3 (j := 14) rfl) (byt_at bX9_guess_3 (j := 15) rfl) (byt_at bX9_guess_4 (j := 0) rfl) (by decide)
theorem dX9_guess_65 : decode cX9_guess 65 = .ok (.lload 6, 2) := do_22 6 (byt_at bX9_guess_4 (j := 1) rfl) (byt_at bX9_guess_4 (j := 2) rfl)
theorem dX9_guess_67 : decode cX9_guess 67 = .ok (.lstore_n 3, 1) := do_66 (byt_at bX9_guess_4 (j := 3) rfl)
theorem dX9_guess_68 : decode cX9_guess 68 = .ok (.iload 5, 2) := do_21 5 (byt_at bX9_guess_4 (j := 4) rfl) (byt_at bX9_guess_4 (j := 5) rfl)
theorem dX9_guess_70 : decode cX9_guess 70 = .ok (.istore_n 2, 1) := do_61 (byt_at bX9_guess_4 (j := 6) rfl)
theorem dX9_guess_71 : decode cX9_guess 71 = .ok (.iinc 5 1, 3) := do_132 5 1 (byt_at bX9_guess_4 (j := 7) rfl) (byt_at bX9_guess_4 (j := 8) rfl) (byt_at bX9_guess_4 (j := 9) rfl) (by decide)
theorem dX9_guess_74 : decode cX9_guess 74 = .ok (.goto (-44), 3) := do_167 255 212 (byt_at bX9_guess_4 (j := 10) rfl) (byt_at bX9_guess_4 (j := 11) rfl) (byt_at bX9_guess_4 (j := 12) rfl) (by decide)
theorem dX9_guess_77 : decode cX9_guess 77 = .ok (.iload_n 2, 1) := do_28 (byt_at bX9_guess_4 (j := 13) rfl)
theorem dX9_guess_78 : decode cX9_guess 78 = .ok (.ireturn, 1) := do_172 (byt_at bX9_guess_4 (j := 14) rfl)
theorem bX9_count_0 : ((bys cX9_count).drop 0).take 16 = [27, 170, 0, 0, 0, 0, 0, 63, 0, 0, 0, 0, 0, 0, 0, 3] := by decide +kernel
theorem dX9_count_0 : decode cX9_count 0 = .ok (.iload_n 1, 1) := do_27 (byt_at bX9_count_0 (j := 0) rfl)
theorem dX9_count_1 : decode cX9_count 1 = .ok (.tableswitch 63 0 3 #[31, 39, 47, 55], 31) := by decide +kernel
theorem bX9_count_2 : ((bys cX9_count).drop 32).take 16 = [42, 180, 0, 82, 180, 1, 22, 172, 42, 180, 0, 82, 180, 1, 31, 172] := by decide +kernel
theorem dX9_count_32 : decode cX9_count 32 = .ok (.aload_n 0, 1) := do_42 (byt_at bX9_count_2 (j := 0) rfl)
theorem dX9_count_33 : decode cX9_count 33 = .ok (.getfield 82, 3) := do_180 0 82 (byt_at bX9_count_2 (j := 1) rfl) (byt_at bX9_count_2 (j := 2) rfl) (byt_at bX9_count_2 (j := 3) rfl)
theorem dX9_count_36 : decode cX9_count 36 = .ok (.getfield 278, 3) := do_180 1 22 (byt_at bX9_count_2 (j := 4) rfl) (byt_at bX9_count_2 (j := 5) rfl) (byt_at bX9_count_2 (j := 6) rfl)
theorem dX9_count_39 : decode cX9_count 39 = .ok (.ireturn, 1) := do_172 (byt_at bX9_count_2 (j := 7) rfl)
theorem dX9_count_40 : decode cX9_count 40 = .ok (.aload_n 0, 1) := do_42 (byt_at bX9_count_2 (j := 8) rfl)
theorem dX9_count_41 : decode cX9_count 41 = .ok (.getfield 82, 3) := do_180 0 82 (byt_at bX9_count_2 (j := 9) rfl) (byt_at bX9_count_2 (j := 10) rfl) (byt_at bX9_count_2 (j := 11) rfl)
theorem dX9_count_44 : decode cX9_count 44 = .ok (.getfield 287, 3) := do_180 1 31 (byt_at bX9_count_2 (j := 12) rfl) (byt_at bX9_count_2 (j := 13) rfl) (byt_at bX9_count_2 (j := 14) rfl)
theorem dX9_count_47 : decode cX9_count 47 = .ok (.ireturn, 1) := do_172 (byt_at bX9_count_2 (j := 15) rfl)
theorem bX9_count_3 : ((bys cX9_count).drop 48).take 16 = [42, 180, 0, 75, 180, 0, 251, 172, 42, 180, 0, 10, 180, 0, 86, 172] := by decide +kernel
theorem dX9_count_48 : decode cX9_count 48 = .ok (.aload_n 0, 1) := do_42 (byt_at bX9_count_3 (j := 0) rfl)
theorem dX9_count_49 : decode cX9_count 49 = .ok (.getfield 75, 3) := do_180 0 75 (byt_at bX9_count_3 (j := 1) rfl) (byt_at bX9_count_3 (j := 2) rfl) (byt_at bX9_count_3 (j := 3) rfl)
theorem dX9_count_52 : decode cX9_count 52 = .ok (.getfield 251, 3) := do_180 0 251 (byt_at bX9_count_3 (j := 4) rfl) (byt_at bX9_count_3 (j := 5) rfl) (byt_at bX9_count_3 (j := 6) rfl)
theorem dX9_count_55 : decode cX9_count 55 = .ok (.ireturn, 1) := do_172 (byt_at bX9_count_3 (j := 7) rfl)
theorem dX9_count_56 : decode cX9_count 56 = .ok (.aload_n 0, 1) := do_42 (byt_at bX9_count_3 (j := 8) rfl)
theorem dX9_count_57 : decode cX9_count 57 = .ok (.getfield 10, 3) := do_180 0 10 (byt_at bX9_count_3 (j := 9) rfl) (byt_at bX9_count_3 (j := 10) rfl) (byt_at bX9_count_3 (j := 11) rfl)
theorem dX9_count_60 : decode cX9_count 60 = .ok (.getfield 86, 3) := do_180 0 86 (byt_at bX9_count_3 (j := 12) rfl) (byt_at bX9_count_3 (j := 13) rfl) (byt_at bX9_count_3 (j := 14) rfl)
theorem dX9_count_63 : decode cX9_count 63 = .ok (.ireturn, 1) := do_172 (byt_at bX9_count_3 (j := 15) rfl)
theorem bX9_count_4 : ((bys cX9_count).drop 64).take 16 = [2, 172] := by decide +kernel
theorem dX9_count_64 : decode cX9_count 64 = .ok (.iconst (-1), 1) := do_2 (byt_at bX9_count_4 (j := 0) rfl)
theorem dX9_count_65 : decode cX9_count 65 = .ok (.ireturn, 1) := do_172 (byt_at bX9_count_4 (j := 1) rfl)
theorem bX9_isStep_0 : ((bys cX9_isStep).drop 0).take 16 = [26, 155, 0, 14, 26, 17, 3, 231, 163, 0, 7, 4, 167, 0, 4, 3] := by decide +kernel
theorem dX9_isStep_0 : decode cX9_isStep 0 = .ok (.iload_n 0, 1) := do_26 (byt_at bX9_isStep_0 (j := 0) rfl)
theorem dX9_isStep_1 : decode cX9_isStep 1 = .ok (.ifCond .lt 14, 3) := do_155 0 14 (byt_at bX9_isStep_0 (j := 1) rfl) (byt_at bX9_isStep_0 (j := 2) rfl) (byt_at bX9_isStep_0 (j := 3) rfl) (by decide)
theorem dX9_isStep_4 : decode cX9_isStep 4 = .ok (.iload_n 0, 1) := do_26 (byt_at bX9_isStep_0 (j := 4) rfl)
theorem dX9_isStep_5 : decode cX9_isStep 5 = .ok (.sipush 999, 3) := do_17 3 231 (byt_at bX9_isStep_0 (j := 5) rfl) (byt_at bX9_isStep_0 (j := 6) rfl) (byt_at bX9_isStep_0 (j := 7) rfl) (by decide)
theorem dX9_isStep_8 : decode cX9_isStep 8 = .ok (.if_icmp .gt 7, 3) := do_163 0 7 (byt_at bX9_isStep_0 (j := 8) rfl) (byt_at bX9_isStep_0 (j := 9) rfl) (byt_at bX9_isStep_0 (j := 10) rfl) (by decide)
theorem dX9_isStep_11 : decode cX9_isStep 11 = .ok (.iconst 1, 1) := do_4 (byt_at bX9_isStep_0 (j := 11) rfl)
theorem dX9_isStep_12 : decode cX9_isStep 12 = .ok (.goto 4, 3) := do_167 0 4 (byt_at bX9_isStep_0 (j := 12) rfl) (byt_at bX9_isStep_0 (j := 13) rfl) (byt_at bX9_isStep_0 (j := 14) rfl) (by decide)
theorem dX9_isStep_15 : decode cX9_isStep 15 = .ok (.iconst 0, 1) := do_3 (byt_at bX9_isStep_0 (j := 15) rfl)
theorem bX9_isStep_1 : ((bys cX9_isStep).drop 16).take 16 = [172] := by decide +kernel
theorem dX9_isStep_16 : decode cX9_isStep 16 = .ok (.ireturn, 1) := do_172 (byt_at bX9_isStep_1 (j := 0) rfl)
theorem kk_X9_odds_0 : Cond.fieldLink RX9 19 "PaidBySigns" "hire" "LPaidBySigns$Hire;" ∈ wsX9_odds := pm_X9_odds_r1 _ (List.mem_of_getElem? (i := 0) rfl)
theorem kk_X9_odds_1 : Cond.fieldLink RX9 115 "PaidBySigns$Hire" "works" "I" ∈ wsX9_odds := pm_X9_odds_r1 _ (List.mem_of_getElem? (i := 1) rfl)
theorem kk_X9_odds_2 : Cond.fieldLink RX9 82 "PaidBySigns" "diary" "LPaidBySigns$Diary;" ∈ wsX9_odds := pm_X9_odds_r1 _ (List.mem_of_getElem? (i := 2) rfl)
theorem kk_X9_odds_3 : Cond.fieldLink RX9 30 "PaidBySigns" "latest" "LPaidBySigns$Fraction;" ∈ wsX9_odds := pm_X9_odds_r1 _ (List.mem_of_getElem? (i := 3) rfl)
theorem kk_X9_guess_0 : Cond.fieldLink RX9 19 "PaidBySigns" "hire" "LPaidBySigns$Hire;" ∈ wsX9_guess := List.mem_cons_of_mem _ (List.mem_append_left _ (List.mem_append_left _ (List.mem_append_left _ (List.mem_of_getElem? (i := 0) rfl))))
theorem kk_X9_guess_1 : Cond.fieldLink RX9 115 "PaidBySigns$Hire" "works" "I" ∈ wsX9_guess := List.mem_cons_of_mem _ (List.mem_append_left _ (List.mem_append_left _ (List.mem_append_left _ (List.mem_of_getElem? (i := 1) rfl))))
theorem kk_X9_guess_2 : Cond.fieldLink RX9 82 "PaidBySigns" "diary" "LPaidBySigns$Diary;" ∈ wsX9_guess := List.mem_cons_of_mem _ (List.mem_append_left _ (List.mem_append_left _ (List.mem_append_left _ (List.mem_of_getElem? (i := 2) rfl))))
theorem kk_X9_count_0 : Cond.fieldLink RX9 82 "PaidBySigns" "diary" "LPaidBySigns$Diary;" ∈ wsX9_count := List.mem_cons_of_mem _ (List.mem_append_left _ (List.mem_append_left _ (List.mem_append_left _ (List.mem_append_left _ (List.mem_of_getElem? (i := 0) rfl)))))
theorem kk_X9_count_1 : Cond.fieldLink RX9 278 "PaidBySigns$Diary" "seen" "I" ∈ wsX9_count := List.mem_cons_of_mem _ (List.mem_append_left _ (List.mem_append_left _ (List.mem_append_left _ (List.mem_append_left _ (List.mem_of_getElem? (i := 1) rfl)))))
theorem kk_X9_count_2 : Cond.fieldLink RX9 287 "PaidBySigns$Diary" "rights" "I" ∈ wsX9_count := List.mem_cons_of_mem _ (List.mem_append_left _ (List.mem_append_left _ (List.mem_append_left _ (List.mem_append_left _ (List.mem_of_getElem? (i := 2) rfl)))))
theorem kk_X9_count_3 : Cond.fieldLink RX9 75 "PaidBySigns" "proofs" "LPaidBySigns$Proofs;" ∈ wsX9_count := List.mem_cons_of_mem _ (List.mem_append_left _ (List.mem_append_left _ (List.mem_append_left _ (List.mem_append_left _ (List.mem_of_getElem? (i := 3) rfl)))))
theorem kk_X9_count_4 : Cond.fieldLink RX9 251 "PaidBySigns$Proofs" "lowerNumber" "I" ∈ wsX9_count := List.mem_cons_of_mem _ (List.mem_append_left _ (List.mem_append_left _ (List.mem_append_left _ (List.mem_append_left _ (List.mem_of_getElem? (i := 4) rfl)))))
theorem kk_X9_count_5 : Cond.fieldLink RX9 10 "PaidBySigns" "reader" "LPaidBySigns$Reader;" ∈ wsX9_count := List.mem_cons_of_mem _ (List.mem_append_left _ (List.mem_append_left _ (List.mem_append_left _ (List.mem_append_left _ (List.mem_of_getElem? (i := 5) rfl)))))
theorem kk_X9_count_6 : Cond.fieldLink RX9 86 "PaidBySigns$Reader" "length" "I" ∈ wsX9_count := List.mem_cons_of_mem _ (List.mem_append_left _ (List.mem_append_left _ (List.mem_append_left _ (List.mem_append_left _ (List.mem_of_getElem? (i := 6) rfl)))))
theorem iw_X9_odds_X9 : ∀ w ∈ wsX90, w ∈ wsX9_odds := pw_X9_odds_X9
theorem iw_X9_odds_X3 : ∀ w ∈ wsX30, w ∈ wsX9_odds := pw_X9_odds_X3
theorem iw_X9_guess_X9 : ∀ w ∈ wsX90, w ∈ wsX9_guess := fun _ h => List.mem_cons_of_mem _ (List.mem_append_left _ (List.mem_append_left _ (List.mem_append_right _ h)))
theorem iw_X9_guess_X3 : ∀ w ∈ wsX30, w ∈ wsX9_guess := fun _ h => List.mem_cons_of_mem _ (List.mem_append_left _ (List.mem_append_right _ h))
theorem iw_X9_count_X9 : ∀ w ∈ wsX90, w ∈ wsX9_count := fun _ h => List.mem_cons_of_mem _ (List.mem_append_left _ (List.mem_append_left _ (List.mem_append_left _ (List.mem_append_right _ h))))
theorem iw_X9_count_X1 : ∀ w ∈ wsX10, w ∈ wsX9_count := fun _ h => List.mem_cons_of_mem _ (List.mem_append_left _ (List.mem_append_left _ (List.mem_append_right _ h)))
theorem iw_X9_count_X6 : ∀ w ∈ wsX60, w ∈ wsX9_count := fun _ h => List.mem_cons_of_mem _ (List.mem_append_left _ (List.mem_append_right _ h))
theorem iw_X9_count_X7 : ∀ w ∈ wsX70, w ∈ wsX9_count := fun _ h => List.mem_cons_of_mem _ (List.mem_append_right _ h)
