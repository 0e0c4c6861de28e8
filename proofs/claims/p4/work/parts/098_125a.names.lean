abbrev cX9_press : ByteArray := prog_1_method_25_code
def yX9_press : MethodName := ⟨RX9, "press", "(II)I"⟩
abbrev cX9_by : ByteArray := prog_1_method_26_code
def yX9_by : MethodName := ⟨RX9, "by", "(I)I"⟩
abbrev cX9_proves : ByteArray := prog_1_method_27_code
def yX9_proves : MethodName := ⟨RX9, "proves", "(I)I"⟩
abbrev cX9_mix : ByteArray := prog_1_method_28_code
def yX9_mix : MethodName := ⟨RX9, "mix", "(II)I"⟩
abbrev cX9_same : ByteArray := prog_1_method_29_code
def yX9_same : MethodName := ⟨RX9, "same", "(I)I"⟩
def wsX9_press : List Cond := .code yX9_press cX9_press 3 (some .int) :: ([.fieldLink RX9 75 "PaidBySigns" "proofs" "LPaidBySigns$Proofs;", .methodLink RX9 140 yX9_isWork, .instanceMethod yX9_isWork, .selects RX9 yX9_isWork yX9_isWork, .initialized RX9, .code yX9_isWork cX9_isWork 2 (some .boolean), .fieldLink RX9 19 "PaidBySigns" "hire" "LPaidBySigns$Hire;", .fieldLink RX9 115 "PaidBySigns$Hire" "works" "I", .methodLink RX9 245 yX6_changeElse, .instanceMethod yX6_changeElse, .selects RX6 yX6_changeElse yX6_changeElse, .initialized RX6, .code yX6_changeElse cX6_changeElse 3 (some .int), .fieldLink RX6 19 "PaidBySigns$Proofs" "pressOfElse" "I", .methodLink RX9 248 yX6_changePress, .instanceMethod yX6_changePress, .selects RX6 yX6_changePress yX6_changePress, .code yX6_changePress cX6_changePress 4 (some .int), .fieldLink RX6 15 "PaidBySigns$Proofs" "press" "[I"] ++ wsX90 ++ wsX30 ++ wsX60)
def wsX9_by : List Cond := .code yX9_by cX9_by 3 (some .int) :: ([.fieldLink RX9 75 "PaidBySigns" "proofs" "LPaidBySigns$Proofs;", .fieldLink RX9 251 "PaidBySigns$Proofs" "lowerNumber" "I"] ++ wsX90 ++ wsX60)
def wsX9_proves_r1 : List Cond := [Cond.fieldLink RX9 75 "PaidBySigns" "proofs" "LPaidBySigns$Proofs;", Cond.fieldLink RX9 30 "PaidBySigns" "latest" "LPaidBySigns$Fraction;", Cond.fieldLink RX9 19 "PaidBySigns" "hire" "LPaidBySigns$Hire;", Cond.methodLink RX9 140 yX9_isWork, Cond.instanceMethod yX9_isWork, Cond.selects RX9 yX9_isWork yX9_isWork, Cond.initialized RX9, Cond.code yX9_isWork cX9_isWork 2 (some .boolean), Cond.fieldLink RX9 115 "PaidBySigns$Hire" "works" "I", Cond.methodLink RX9 254 yX6_boundInto, Cond.instanceMethod yX6_boundInto, Cond.selects RX6 yX6_boundInto yX6_boundInto, Cond.initialized RX6, Cond.code yX6_boundInto cX6_boundInto 11 (some .boolean), Cond.fieldLink RX6 19 "PaidBySigns$Proofs" "pressOfElse" "I", Cond.fieldLink RX6 31 "PaidBySigns$Hire" "costs" "[I", Cond.fieldLink RX6 36 "PaidBySigns$Hire" "otherwise" "I", Cond.fieldLink RX6 39 "PaidBySigns$Hire" "works" "I", Cond.fieldLink RX6 15 "PaidBySigns$Proofs" "press" "[I", Cond.fieldLink RX6 42 "PaidBySigns$Hire" "whole" "I", Cond.fieldLink RX6 45 "PaidBySigns$Hire" "signs" "I", Cond.fieldLink RX6 48 "PaidBySigns$Hire" "chances" "[[I", Cond.fieldLink RX6 9 "PaidBySigns$Proofs" "lowerNumber" "I", Cond.fieldLink RX6 56 "PaidBySigns$Hire" "rate" "[I"]
def wsX9_proves_r2 : List Cond := [Cond.fieldLink RX6 59 "PaidBySigns$Hire" "rates" "I", Cond.methodLink RX6 52 yX6_pressedAt, Cond.instanceMethod yX6_pressedAt, Cond.selects RX6 yX6_pressedAt yX6_pressedAt, Cond.code yX6_pressedAt cX6_pressedAt 7 (some .long), Cond.methodLink RX6 62 yX6_leastOf, Cond.static yX6_leastOf, Cond.code yX6_leastOf cX6_leastOf 9 (some .long), Cond.fieldLink RX6 72 "PaidBySigns$Hire" "least" "I", Cond.fieldLink RX6 79 "PaidBySigns$Hire" "mark" "[I", Cond.methodLink RX6 82 Lib.MathLoose.min_long.x, Cond.static Lib.MathLoose.min_long.x, Cond.initialized "java/lang/Math", Cond.code Lib.MathLoose.min_long.x Lib.MathLoose.min_long.code 4 (some .long), Cond.methodLink RX6 75 yX3_feltOf, Cond.instanceMethod yX3_feltOf, Cond.selects RX3 yX3_feltOf yX3_feltOf, Cond.initialized RX3, Cond.code yX3_feltOf cX3_feltOf 6 (some .int), Cond.fieldLink RX3 48 "PaidBySigns$Hire" "rates" "I", Cond.fieldLink RX3 26 "PaidBySigns$Hire" "mark" "[I", Cond.methodLink RX3 51 Lib.Math.min.name, Cond.static Lib.Math.min.name, Cond.code Lib.Math.min.name Lib.Math.min.code 2 (some .int)]
def wsX9_proves_r3 : List Cond := [Cond.fieldLink RX3 23 "PaidBySigns$Hire" "rate" "[I", Cond.methodLink RX6 66 yX2_become, Cond.instanceMethod yX2_become, Cond.selects RX2 yX2_become yX2_become, Cond.initialized RX2, Cond.code yX2_become cX2_become 7 none, Cond.methodLink RX2 20 Lib.MathLoose.abs_long.x, Cond.static Lib.MathLoose.abs_long.x, Cond.code Lib.MathLoose.abs_long.x Lib.MathLoose.abs_long.code 2 (some .long), Cond.fieldLink RX2 11 "PaidBySigns$Fraction" "upper" "J", Cond.fieldLink RX2 17 "PaidBySigns$Fraction" "lower" "J", Cond.methodLink RX2 26 yX2_commonPart, Cond.static yX2_commonPart, Cond.code yX2_commonPart cX2_commonPart 11 (some .long), Cond.methodLink RX2 30 yX2_forget, Cond.instanceMethod yX2_forget, Cond.selects RX2 yX2_forget yX2_forget, Cond.code yX2_forget cX2_forget 1 none, Cond.constantLong RX2 9 (-2000000000)]
def wsX9_proves : List Cond := .code yX9_proves cX9_proves 2 (some .int) :: ((wsX9_proves_r1 ++ (wsX9_proves_r2 ++ wsX9_proves_r3)) ++ wsX90 ++ wsX30 ++ wsX60 ++ wsX20)
def wsX9_mix : List Cond := .code yX9_mix cX9_mix 3 (some .int) :: ([.fieldLink RX9 75 "PaidBySigns" "proofs" "LPaidBySigns$Proofs;", .methodLink RX9 140 yX9_isWork, .instanceMethod yX9_isWork, .selects RX9 yX9_isWork yX9_isWork, .initialized RX9, .code yX9_isWork cX9_isWork 2 (some .boolean), .fieldLink RX9 19 "PaidBySigns" "hire" "LPaidBySigns$Hire;", .fieldLink RX9 115 "PaidBySigns$Hire" "works" "I", .methodLink RX9 258 yX6_changeMix, .instanceMethod yX6_changeMix, .selects RX6 yX6_changeMix yX6_changeMix, .initialized RX6, .code yX6_changeMix cX6_changeMix 4 (some .int), .fieldLink RX6 22 "PaidBySigns$Proofs" "mixed" "[I"] ++ wsX90 ++ wsX30 ++ wsX60)
def wsX9_same : List Cond := .code yX9_same cX9_same 2 (some .int) :: ([.fieldLink RX9 75 "PaidBySigns" "proofs" "LPaidBySigns$Proofs;", .fieldLink RX9 19 "PaidBySigns" "hire" "LPaidBySigns$Hire;", .methodLink RX9 140 yX9_isWork, .instanceMethod yX9_isWork, .selects RX9 yX9_isWork yX9_isWork, .initialized RX9, .code yX9_isWork cX9_isWork 2 (some .boolean), .fieldLink RX9 115 "PaidBySigns$Hire" "works" "I", .methodLink RX9 261 yX6_isRuledOut, .instanceMethod yX6_isRuledOut, .selects RX6 yX6_isRuledOut yX6_isRuledOut, .initialized RX6, .code yX6_isRuledOut cX6_isRuledOut 6 (some .boolean), .fieldLink RX6 39 "PaidBySigns$Hire" "works" "I", .fieldLink RX6 22 "PaidBySigns$Proofs" "mixed" "[I", .fieldLink RX6 31 "PaidBySigns$Hire" "costs" "[I", .fieldLink RX6 45 "PaidBySigns$Hire" "signs" "I", .fieldLink RX6 48 "PaidBySigns$Hire" "chances" "[[I", .methodLink RX6 88 yX6_mixedChance, .instanceMethod yX6_mixedChance, .selects RX6 yX6_mixedChance yX6_mixedChance, .code yX6_mixedChance cX6_mixedChance 6 (some .int)] ++ wsX90 ++ wsX30 ++ wsX60)
set_option maxRecDepth 20000 in
theorem ggX9_press_X9_isWork : GoodIn wsX9_press wsX9_isWork := goodIn_r _ [6, 7, 8, 20, 21, 22, 23, 24, 25, 26, 27, 28, 29, 30, 31, 32, 33, 34, 35, 36, 37, 38, 39, 40, 41, 42, 43, 44] (by decide +kernel) (by decide +kernel)
set_option maxRecDepth 20000 in
theorem gX9_press_X9_isWork : GoodIn wsX9_press (wsV RX9 140 RX9 yX9_isWork wsX9_isWork) := goodIn_app (goodIn_of _ (by decide +kernel)) ggX9_press_X9_isWork
set_option maxRecDepth 20000 in
theorem ggX9_press_X6_changeElse : GoodIn wsX9_press wsX6_changeElse := goodIn_r _ [13, 14, 45, 46, 47, 48] (by decide +kernel) (by decide +kernel)
set_option maxRecDepth 20000 in
theorem gX9_press_X6_changeElse : GoodIn wsX9_press (wsV RX9 245 RX6 yX6_changeElse wsX6_changeElse) := goodIn_app (goodIn_of _ (by decide +kernel)) ggX9_press_X6_changeElse
set_option maxRecDepth 20000 in
theorem ggX9_press_X6_changePress : GoodIn wsX9_press wsX6_changePress := goodIn_r _ [18, 19, 45, 46, 47, 48] (by decide +kernel) (by decide +kernel)
set_option maxRecDepth 20000 in
theorem gX9_press_X6_changePress : GoodIn wsX9_press (wsV RX9 248 RX6 yX6_changePress wsX6_changePress) := goodIn_app (goodIn_of _ (by decide +kernel)) ggX9_press_X6_changePress
theorem dX9_press_0 : decode cX9_press 0 = .ok (.iload_n 1, 1) := by decide +kernel
theorem dX9_press_1 : decode cX9_press 1 = .ok (.iconst (-1), 1) := by decide +kernel
theorem dX9_press_2 : decode cX9_press 2 = .ok (.if_icmp .eq 11, 3) := by decide +kernel
theorem dX9_press_5 : decode cX9_press 5 = .ok (.aload_n 0, 1) := by decide +kernel
theorem dX9_press_6 : decode cX9_press 6 = .ok (.iload_n 1, 1) := by decide +kernel
theorem dX9_press_7 : decode cX9_press 7 = .ok (.invokevirtual 140, 3) := by decide +kernel
theorem dX9_press_10 : decode cX9_press 10 = .ok (.ifCond .eq 14, 3) := by decide +kernel
theorem dX9_press_13 : decode cX9_press 13 = .ok (.iload_n 2, 1) := by decide +kernel
theorem dX9_press_14 : decode cX9_press 14 = .ok (.ifCond .lt 10, 3) := by decide +kernel
theorem dX9_press_17 : decode cX9_press 17 = .ok (.iload_n 2, 1) := by decide +kernel
theorem dX9_press_18 : decode cX9_press 18 = .ok (.sipush 9999, 3) := by decide +kernel
theorem dX9_press_21 : decode cX9_press 21 = .ok (.if_icmp .le 6, 3) := by decide +kernel
theorem dX9_press_24 : decode cX9_press 24 = .ok (.bipush (-2), 2) := by decide +kernel
theorem dX9_press_26 : decode cX9_press 26 = .ok (.ireturn, 1) := by decide +kernel
theorem dX9_press_27 : decode cX9_press 27 = .ok (.iload_n 1, 1) := by decide +kernel
theorem dX9_press_28 : decode cX9_press 28 = .ok (.iconst (-1), 1) := by decide +kernel
theorem dX9_press_29 : decode cX9_press 29 = .ok (.if_icmp .ne 14, 3) := by decide +kernel
theorem dX9_press_32 : decode cX9_press 32 = .ok (.aload_n 0, 1) := by decide +kernel
theorem dX9_press_33 : decode cX9_press 33 = .ok (.getfield 75, 3) := by decide +kernel
theorem dX9_press_36 : decode cX9_press 36 = .ok (.iload_n 2, 1) := by decide +kernel
theorem dX9_press_37 : decode cX9_press 37 = .ok (.invokevirtual 245, 3) := by decide +kernel
theorem dX9_press_40 : decode cX9_press 40 = .ok (.goto 12, 3) := by decide +kernel
theorem dX9_press_43 : decode cX9_press 43 = .ok (.aload_n 0, 1) := by decide +kernel
theorem dX9_press_44 : decode cX9_press 44 = .ok (.getfield 75, 3) := by decide +kernel
theorem dX9_press_47 : decode cX9_press 47 = .ok (.iload_n 1, 1) := by decide +kernel
theorem dX9_press_48 : decode cX9_press 48 = .ok (.iload_n 2, 1) := by decide +kernel
theorem dX9_press_49 : decode cX9_press 49 = .ok (.invokevirtual 248, 3) := by decide +kernel
theorem dX9_press_52 : decode cX9_press 52 = .ok (.ireturn, 1) := by decide +kernel
theorem dX9_by_0 : decode cX9_by 0 = .ok (.iload_n 1, 1) := by decide +kernel
theorem dX9_by_1 : decode cX9_by 1 = .ok (.iconst 1, 1) := by decide +kernel
theorem dX9_by_2 : decode cX9_by 2 = .ok (.if_icmp .lt 10, 3) := by decide +kernel
theorem dX9_by_5 : decode cX9_by 5 = .ok (.iload_n 1, 1) := by decide +kernel
theorem dX9_by_6 : decode cX9_by 6 = .ok (.sipush 9999, 3) := by decide +kernel
theorem dX9_by_9 : decode cX9_by 9 = .ok (.if_icmp .le 6, 3) := by decide +kernel
theorem dX9_by_12 : decode cX9_by 12 = .ok (.bipush (-2), 2) := by decide +kernel
theorem dX9_by_14 : decode cX9_by 14 = .ok (.ireturn, 1) := by decide +kernel
theorem dX9_by_15 : decode cX9_by 15 = .ok (.aload_n 0, 1) := by decide +kernel
theorem dX9_by_16 : decode cX9_by 16 = .ok (.getfield 75, 3) := by decide +kernel
theorem dX9_by_19 : decode cX9_by 19 = .ok (.getfield 251, 3) := by decide +kernel
theorem dX9_by_22 : decode cX9_by 22 = .ok (.istore_n 2, 1) := by decide +kernel
theorem dX9_by_23 : decode cX9_by 23 = .ok (.aload_n 0, 1) := by decide +kernel
theorem dX9_by_24 : decode cX9_by 24 = .ok (.getfield 75, 3) := by decide +kernel
theorem dX9_by_27 : decode cX9_by 27 = .ok (.iload_n 1, 1) := by decide +kernel
theorem dX9_by_28 : decode cX9_by 28 = .ok (.putfield 251, 3) := by decide +kernel
theorem dX9_by_31 : decode cX9_by 31 = .ok (.iload_n 2, 1) := by decide +kernel
theorem dX9_by_32 : decode cX9_by 32 = .ok (.ireturn, 1) := by decide +kernel
theorem pm_X9_proves_r1 : ∀ w ∈ wsX9_proves_r1, w ∈ wsX9_proves := fun _ h => List.mem_cons_of_mem _ (List.mem_append_left _ (List.mem_append_left _ (List.mem_append_left _ (List.mem_append_left _ (List.mem_append_left _ h)))))
theorem pm_X9_proves_r2 : ∀ w ∈ wsX9_proves_r2, w ∈ wsX9_proves := fun _ h => List.mem_cons_of_mem _ (List.mem_append_left _ (List.mem_append_left _ (List.mem_append_left _ (List.mem_append_left _ (List.mem_append_right _ (List.mem_append_left _ h))))))
theorem pm_X9_proves_r3 : ∀ w ∈ wsX9_proves_r3, w ∈ wsX9_proves := fun _ h => List.mem_cons_of_mem _ (List.mem_append_left _ (List.mem_append_left _ (List.mem_append_left _ (List.mem_append_left _ (List.mem_append_right _ (List.mem_append_right _ (h)))))))
theorem pw_X9_proves_X9 : ∀ w ∈ wsX90, w ∈ wsX9_proves := fun _ h => List.mem_cons_of_mem _ (List.mem_append_left _ (List.mem_append_left _ (List.mem_append_left _ (List.mem_append_right _ h))))
theorem pw_X9_proves_X3 : ∀ w ∈ wsX30, w ∈ wsX9_proves := fun _ h => List.mem_cons_of_mem _ (List.mem_append_left _ (List.mem_append_left _ (List.mem_append_right _ h)))
theorem pw_X9_proves_X6 : ∀ w ∈ wsX60, w ∈ wsX9_proves := fun _ h => List.mem_cons_of_mem _ (List.mem_append_left _ (List.mem_append_right _ h))
theorem pw_X9_proves_X2 : ∀ w ∈ wsX20, w ∈ wsX9_proves := fun _ h => List.mem_cons_of_mem _ (List.mem_append_right _ h)
set_option maxRecDepth 20000 in
theorem ggX9_proves_X9_isWork : GoodIn wsX9_proves wsX9_isWork := goodIn_sub (List.forall_mem_cons.mpr ⟨pm_X9_proves_r1 _ (List.mem_of_getElem? (i := 7) rfl), List.forall_mem_append.mpr ⟨List.forall_mem_append.mpr ⟨List.forall_mem_cons.mpr ⟨pm_X9_proves_r1 _ (List.mem_of_getElem? (i := 2) rfl), List.forall_mem_cons.mpr ⟨pm_X9_proves_r1 _ (List.mem_of_getElem? (i := 8) rfl), fun _ h => absurd h List.not_mem_nil⟩⟩, pw_X9_proves_X9⟩, pw_X9_proves_X3⟩⟩) (by decide +kernel)
set_option maxRecDepth 20000 in
theorem gX9_proves_X9_isWork : GoodIn wsX9_proves (wsV RX9 140 RX9 yX9_isWork wsX9_isWork) := goodIn_app (goodIn_of _ (by decide +kernel)) ggX9_proves_X9_isWork
set_option maxRecDepth 20000 in
theorem pq_X9_proves_X6_boundInto_r1 : ∀ w ∈ wsX6_boundInto_r1, w ∈ wsX9_proves := List.forall_mem_cons.mpr ⟨pm_X9_proves_r1 _ (List.mem_of_getElem? (i := 14) rfl), List.forall_mem_cons.mpr ⟨pm_X9_proves_r1 _ (List.mem_of_getElem? (i := 15) rfl), List.forall_mem_cons.mpr ⟨pm_X9_proves_r1 _ (List.mem_of_getElem? (i := 16) rfl), List.forall_mem_cons.mpr ⟨pm_X9_proves_r1 _ (List.mem_of_getElem? (i := 17) rfl), List.forall_mem_cons.mpr ⟨pm_X9_proves_r1 _ (List.mem_of_getElem? (i := 18) rfl), List.forall_mem_cons.mpr ⟨pm_X9_proves_r1 _ (List.mem_of_getElem? (i := 19) rfl), List.forall_mem_cons.mpr ⟨pm_X9_proves_r1 _ (List.mem_of_getElem? (i := 20) rfl), List.forall_mem_cons.mpr ⟨pm_X9_proves_r1 _ (List.mem_of_getElem? (i := 21) rfl), List.forall_mem_cons.mpr ⟨pm_X9_proves_r1 _ (List.mem_of_getElem? (i := 22) rfl), List.forall_mem_cons.mpr ⟨pm_X9_proves_r1 _ (List.mem_of_getElem? (i := 23) rfl), List.forall_mem_cons.mpr ⟨pm_X9_proves_r2 _ (List.mem_of_getElem? (i := 0) rfl), List.forall_mem_cons.mpr ⟨pm_X9_proves_r2 _ (List.mem_of_getElem? (i := 1) rfl), List.forall_mem_cons.mpr ⟨pm_X9_proves_r2 _ (List.mem_of_getElem? (i := 2) rfl), List.forall_mem_cons.mpr ⟨pm_X9_proves_r2 _ (List.mem_of_getElem? (i := 3) rfl), List.forall_mem_cons.mpr ⟨pm_X9_proves_r1 _ (List.mem_of_getElem? (i := 12) rfl), List.forall_mem_cons.mpr ⟨pm_X9_proves_r2 _ (List.mem_of_getElem? (i := 4) rfl), List.forall_mem_cons.mpr ⟨pm_X9_proves_r2 _ (List.mem_of_getElem? (i := 5) rfl), List.forall_mem_cons.mpr ⟨pm_X9_proves_r2 _ (List.mem_of_getElem? (i := 6) rfl), List.forall_mem_cons.mpr ⟨pm_X9_proves_r2 _ (List.mem_of_getElem? (i := 7) rfl), List.forall_mem_cons.mpr ⟨pm_X9_proves_r2 _ (List.mem_of_getElem? (i := 8) rfl), List.forall_mem_cons.mpr ⟨pm_X9_proves_r2 _ (List.mem_of_getElem? (i := 9) rfl), List.forall_mem_cons.mpr ⟨pm_X9_proves_r2 _ (List.mem_of_getElem? (i := 10) rfl), List.forall_mem_cons.mpr ⟨pm_X9_proves_r2 _ (List.mem_of_getElem? (i := 11) rfl), List.forall_mem_cons.mpr ⟨pm_X9_proves_r2 _ (List.mem_of_getElem? (i := 12) rfl), fun _ h => absurd h List.not_mem_nil⟩⟩⟩⟩⟩⟩⟩⟩⟩⟩⟩⟩⟩⟩⟩⟩⟩⟩⟩⟩⟩⟩⟩⟩
set_option maxRecDepth 20000 in
theorem pq_X9_proves_X6_boundInto_r2 : ∀ w ∈ wsX6_boundInto_r2, w ∈ wsX9_proves := List.forall_mem_cons.mpr ⟨pm_X9_proves_r2 _ (List.mem_of_getElem? (i := 13) rfl), List.forall_mem_cons.mpr ⟨pm_X9_proves_r2 _ (List.mem_of_getElem? (i := 14) rfl), List.forall_mem_cons.mpr ⟨pm_X9_proves_r2 _ (List.mem_of_getElem? (i := 15) rfl), List.forall_mem_cons.mpr ⟨pm_X9_proves_r2 _ (List.mem_of_getElem? (i := 16) rfl), List.forall_mem_cons.mpr ⟨pm_X9_proves_r2 _ (List.mem_of_getElem? (i := 17) rfl), List.forall_mem_cons.mpr ⟨pm_X9_proves_r2 _ (List.mem_of_getElem? (i := 18) rfl), List.forall_mem_cons.mpr ⟨pm_X9_proves_r2 _ (List.mem_of_getElem? (i := 19) rfl), List.forall_mem_cons.mpr ⟨pm_X9_proves_r2 _ (List.mem_of_getElem? (i := 20) rfl), List.forall_mem_cons.mpr ⟨pm_X9_proves_r2 _ (List.mem_of_getElem? (i := 21) rfl), List.forall_mem_cons.mpr ⟨pm_X9_proves_r2 _ (List.mem_of_getElem? (i := 22) rfl), List.forall_mem_cons.mpr ⟨pm_X9_proves_r2 _ (List.mem_of_getElem? (i := 23) rfl), List.forall_mem_cons.mpr ⟨pm_X9_proves_r3 _ (List.mem_of_getElem? (i := 0) rfl), List.forall_mem_cons.mpr ⟨pm_X9_proves_r3 _ (List.mem_of_getElem? (i := 1) rfl), List.forall_mem_cons.mpr ⟨pm_X9_proves_r3 _ (List.mem_of_getElem? (i := 2) rfl), List.forall_mem_cons.mpr ⟨pm_X9_proves_r3 _ (List.mem_of_getElem? (i := 3) rfl), List.forall_mem_cons.mpr ⟨pm_X9_proves_r3 _ (List.mem_of_getElem? (i := 4) rfl), List.forall_mem_cons.mpr ⟨pm_X9_proves_r3 _ (List.mem_of_getElem? (i := 5) rfl), List.forall_mem_cons.mpr ⟨pm_X9_proves_r3 _ (List.mem_of_getElem? (i := 6) rfl), List.forall_mem_cons.mpr ⟨pm_X9_proves_r3 _ (List.mem_of_getElem? (i := 7) rfl), List.forall_mem_cons.mpr ⟨pm_X9_proves_r3 _ (List.mem_of_getElem? (i := 8) rfl), List.forall_mem_cons.mpr ⟨pm_X9_proves_r3 _ (List.mem_of_getElem? (i := 9) rfl), List.forall_mem_cons.mpr ⟨pm_X9_proves_r3 _ (List.mem_of_getElem? (i := 10) rfl), List.forall_mem_cons.mpr ⟨pm_X9_proves_r3 _ (List.mem_of_getElem? (i := 11) rfl), List.forall_mem_cons.mpr ⟨pm_X9_proves_r3 _ (List.mem_of_getElem? (i := 12) rfl), fun _ h => absurd h List.not_mem_nil⟩⟩⟩⟩⟩⟩⟩⟩⟩⟩⟩⟩⟩⟩⟩⟩⟩⟩⟩⟩⟩⟩⟩⟩
set_option maxRecDepth 20000 in
theorem pq_X9_proves_X6_boundInto_r3 : ∀ w ∈ wsX6_boundInto_r3, w ∈ wsX9_proves := List.forall_mem_cons.mpr ⟨pm_X9_proves_r3 _ (List.mem_of_getElem? (i := 13) rfl), List.forall_mem_cons.mpr ⟨pm_X9_proves_r3 _ (List.mem_of_getElem? (i := 14) rfl), List.forall_mem_cons.mpr ⟨pm_X9_proves_r3 _ (List.mem_of_getElem? (i := 15) rfl), List.forall_mem_cons.mpr ⟨pm_X9_proves_r3 _ (List.mem_of_getElem? (i := 16) rfl), List.forall_mem_cons.mpr ⟨pm_X9_proves_r3 _ (List.mem_of_getElem? (i := 17) rfl), List.forall_mem_cons.mpr ⟨pm_X9_proves_r3 _ (List.mem_of_getElem? (i := 18) rfl), fun _ h => absurd h List.not_mem_nil⟩⟩⟩⟩⟩⟩
set_option maxRecDepth 20000 in
theorem ggX9_proves_X6_boundInto : GoodIn wsX9_proves wsX6_boundInto := goodIn_sub (List.forall_mem_cons.mpr ⟨pm_X9_proves_r1 _ (List.mem_of_getElem? (i := 13) rfl), List.forall_mem_append.mpr ⟨List.forall_mem_append.mpr ⟨List.forall_mem_append.mpr ⟨List.forall_mem_append.mpr ⟨pq_X9_proves_X6_boundInto_r1, List.forall_mem_append.mpr ⟨pq_X9_proves_X6_boundInto_r2, pq_X9_proves_X6_boundInto_r3⟩⟩, pw_X9_proves_X6⟩, pw_X9_proves_X3⟩, pw_X9_proves_X2⟩⟩) (by decide +kernel)
set_option maxRecDepth 20000 in
theorem gX9_proves_X6_boundInto : GoodIn wsX9_proves (wsV RX9 254 RX6 yX6_boundInto wsX6_boundInto) := goodIn_app (goodIn_of _ (by decide +kernel)) ggX9_proves_X6_boundInto
theorem dX9_proves_0 : decode cX9_proves 0 = .ok (.aload_n 0, 1) := by decide +kernel
theorem dX9_proves_1 : decode cX9_proves 1 = .ok (.iload_n 1, 1) := by decide +kernel
theorem dX9_proves_2 : decode cX9_proves 2 = .ok (.invokevirtual 140, 3) := by decide +kernel
theorem dX9_proves_5 : decode cX9_proves 5 = .ok (.ifCond .ne 6, 3) := by decide +kernel
theorem dX9_proves_8 : decode cX9_proves 8 = .ok (.bipush (-2), 2) := by decide +kernel
theorem dX9_proves_10 : decode cX9_proves 10 = .ok (.ireturn, 1) := by decide +kernel
theorem dX9_proves_11 : decode cX9_proves 11 = .ok (.aload_n 0, 1) := by decide +kernel
theorem dX9_proves_12 : decode cX9_proves 12 = .ok (.getfield 75, 3) := by decide +kernel
theorem dX9_proves_15 : decode cX9_proves 15 = .ok (.aload_n 0, 1) := by decide +kernel
theorem dX9_proves_16 : decode cX9_proves 16 = .ok (.getfield 30, 3) := by decide +kernel
theorem dX9_proves_19 : decode cX9_proves 19 = .ok (.aload_n 0, 1) := by decide +kernel
theorem dX9_proves_20 : decode cX9_proves 20 = .ok (.getfield 19, 3) := by decide +kernel
theorem dX9_proves_23 : decode cX9_proves 23 = .ok (.iload_n 1, 1) := by decide +kernel
theorem dX9_proves_24 : decode cX9_proves 24 = .ok (.invokevirtual 254, 3) := by decide +kernel
theorem dX9_proves_27 : decode cX9_proves 27 = .ok (.ifCond .eq 7, 3) := by decide +kernel
theorem dX9_proves_30 : decode cX9_proves 30 = .ok (.iconst 1, 1) := by decide +kernel
theorem dX9_proves_31 : decode cX9_proves 31 = .ok (.goto 4, 3) := by decide +kernel
theorem dX9_proves_34 : decode cX9_proves 34 = .ok (.iconst (-1), 1) := by decide +kernel
theorem dX9_proves_35 : decode cX9_proves 35 = .ok (.ireturn, 1) := by decide +kernel
set_option maxRecDepth 20000 in
theorem ggX9_mix_X9_isWork : GoodIn wsX9_mix wsX9_isWork := goodIn_r _ [6, 7, 8, 15, 16, 17, 18, 19, 20, 21, 22, 23, 24, 25, 26, 27, 28, 29, 30, 31, 32, 33, 34, 35, 36, 37, 38, 39] (by decide +kernel) (by decide +kernel)
set_option maxRecDepth 20000 in
theorem gX9_mix_X9_isWork : GoodIn wsX9_mix (wsV RX9 140 RX9 yX9_isWork wsX9_isWork) := goodIn_app (goodIn_of _ (by decide +kernel)) ggX9_mix_X9_isWork
set_option maxRecDepth 20000 in
theorem ggX9_mix_X6_changeMix : GoodIn wsX9_mix wsX6_changeMix := goodIn_r _ [13, 14, 40, 41, 42, 43] (by decide +kernel) (by decide +kernel)
set_option maxRecDepth 20000 in
theorem gX9_mix_X6_changeMix : GoodIn wsX9_mix (wsV RX9 258 RX6 yX6_changeMix wsX6_changeMix) := goodIn_app (goodIn_of _ (by decide +kernel)) ggX9_mix_X6_changeMix
theorem dX9_mix_0 : decode cX9_mix 0 = .ok (.aload_n 0, 1) := by decide +kernel
theorem dX9_mix_1 : decode cX9_mix 1 = .ok (.iload_n 1, 1) := by decide +kernel
theorem dX9_mix_2 : decode cX9_mix 2 = .ok (.invokevirtual 140, 3) := by decide +kernel
theorem dX9_mix_5 : decode cX9_mix 5 = .ok (.ifCond .eq 14, 3) := by decide +kernel
theorem dX9_mix_8 : decode cX9_mix 8 = .ok (.iload_n 2, 1) := by decide +kernel
theorem dX9_mix_9 : decode cX9_mix 9 = .ok (.ifCond .lt 10, 3) := by decide +kernel
theorem dX9_mix_12 : decode cX9_mix 12 = .ok (.iload_n 2, 1) := by decide +kernel
theorem dX9_mix_13 : decode cX9_mix 13 = .ok (.sipush 1000, 3) := by decide +kernel
theorem dX9_mix_16 : decode cX9_mix 16 = .ok (.if_icmp .le 8, 3) := by decide +kernel
theorem dX9_mix_19 : decode cX9_mix 19 = .ok (.bipush (-2), 2) := by decide +kernel
theorem dX9_mix_21 : decode cX9_mix 21 = .ok (.goto 12, 3) := by decide +kernel
theorem dX9_mix_24 : decode cX9_mix 24 = .ok (.aload_n 0, 1) := by decide +kernel
theorem dX9_mix_25 : decode cX9_mix 25 = .ok (.getfield 75, 3) := by decide +kernel
theorem dX9_mix_28 : decode cX9_mix 28 = .ok (.iload_n 1, 1) := by decide +kernel
theorem dX9_mix_29 : decode cX9_mix 29 = .ok (.iload_n 2, 1) := by decide +kernel
theorem dX9_mix_30 : decode cX9_mix 30 = .ok (.invokevirtual 258, 3) := by decide +kernel
theorem dX9_mix_33 : decode cX9_mix 33 = .ok (.ireturn, 1) := by decide +kernel
set_option maxRecDepth 20000 in
theorem ggX9_same_X9_isWork : GoodIn wsX9_same wsX9_isWork := goodIn_r _ [7, 2, 8, 23, 24, 25, 26, 27, 28, 29, 30, 31, 32, 33, 34, 35, 36, 37, 38, 39, 40, 41, 42, 43, 44, 45, 46, 47] (by decide +kernel) (by decide +kernel)
set_option maxRecDepth 20000 in
theorem gX9_same_X9_isWork : GoodIn wsX9_same (wsV RX9 140 RX9 yX9_isWork wsX9_isWork) := goodIn_app (goodIn_of _ (by decide +kernel)) ggX9_same_X9_isWork
set_option maxRecDepth 20000 in
theorem ggX9_same_X6_isRuledOut : GoodIn wsX9_same wsX6_isRuledOut := goodIn_r _ [13, 14, 15, 16, 17, 18, 19, 20, 21, 12, 22, 37, 38, 39, 40, 41, 42, 43, 44, 45, 46, 47, 48, 49, 50, 51] (by decide +kernel) (by decide +kernel)
set_option maxRecDepth 20000 in
theorem gX9_same_X6_isRuledOut : GoodIn wsX9_same (wsV RX9 261 RX6 yX6_isRuledOut wsX6_isRuledOut) := goodIn_app (goodIn_of _ (by decide +kernel)) ggX9_same_X6_isRuledOut
theorem dX9_same_0 : decode cX9_same 0 = .ok (.aload_n 0, 1) := by decide +kernel
theorem dX9_same_1 : decode cX9_same 1 = .ok (.iload_n 1, 1) := by decide +kernel
theorem dX9_same_2 : decode cX9_same 2 = .ok (.invokevirtual 140, 3) := by decide +kernel
theorem dX9_same_5 : decode cX9_same 5 = .ok (.ifCond .ne 6, 3) := by decide +kernel
theorem dX9_same_8 : decode cX9_same 8 = .ok (.bipush (-2), 2) := by decide +kernel
theorem dX9_same_10 : decode cX9_same 10 = .ok (.ireturn, 1) := by decide +kernel
theorem dX9_same_11 : decode cX9_same 11 = .ok (.aload_n 0, 1) := by decide +kernel
theorem dX9_same_12 : decode cX9_same 12 = .ok (.getfield 75, 3) := by decide +kernel
theorem dX9_same_15 : decode cX9_same 15 = .ok (.aload_n 0, 1) := by decide +kernel
theorem dX9_same_16 : decode cX9_same 16 = .ok (.getfield 19, 3) := by decide +kernel
theorem dX9_same_19 : decode cX9_same 19 = .ok (.iload_n 1, 1) := by decide +kernel
theorem dX9_same_20 : decode cX9_same 20 = .ok (.invokevirtual 261, 3) := by decide +kernel
theorem dX9_same_23 : decode cX9_same 23 = .ok (.ifCond .eq 7, 3) := by decide +kernel
theorem dX9_same_26 : decode cX9_same 26 = .ok (.iconst 1, 1) := by decide +kernel
theorem dX9_same_27 : decode cX9_same 27 = .ok (.goto 4, 3) := by decide +kernel
theorem dX9_same_30 : decode cX9_same 30 = .ok (.iconst 0, 1) := by decide +kernel
theorem dX9_same_31 : decode cX9_same 31 = .ok (.ireturn, 1) := by decide +kernel
theorem kk_X9_press_0 : Cond.fieldLink RX9 75 "PaidBySigns" "proofs" "LPaidBySigns$Proofs;" ∈ wsX9_press := by decide +kernel
theorem kk_X9_by_0 : Cond.fieldLink RX9 75 "PaidBySigns" "proofs" "LPaidBySigns$Proofs;" ∈ wsX9_by := by decide +kernel
theorem kk_X9_by_1 : Cond.fieldLink RX9 251 "PaidBySigns$Proofs" "lowerNumber" "I" ∈ wsX9_by := by decide +kernel
theorem kk_X9_proves_0 : Cond.fieldLink RX9 75 "PaidBySigns" "proofs" "LPaidBySigns$Proofs;" ∈ wsX9_proves := pm_X9_proves_r1 _ (List.mem_of_getElem? (i := 0) rfl)
theorem kk_X9_proves_1 : Cond.fieldLink RX9 30 "PaidBySigns" "latest" "LPaidBySigns$Fraction;" ∈ wsX9_proves := pm_X9_proves_r1 _ (List.mem_of_getElem? (i := 1) rfl)
theorem kk_X9_proves_2 : Cond.fieldLink RX9 19 "PaidBySigns" "hire" "LPaidBySigns$Hire;" ∈ wsX9_proves := pm_X9_proves_r1 _ (List.mem_of_getElem? (i := 2) rfl)
theorem kk_X9_mix_0 : Cond.fieldLink RX9 75 "PaidBySigns" "proofs" "LPaidBySigns$Proofs;" ∈ wsX9_mix := by decide +kernel
theorem kk_X9_same_0 : Cond.fieldLink RX9 75 "PaidBySigns" "proofs" "LPaidBySigns$Proofs;" ∈ wsX9_same := by decide +kernel
theorem kk_X9_same_1 : Cond.fieldLink RX9 19 "PaidBySigns" "hire" "LPaidBySigns$Hire;" ∈ wsX9_same := by decide +kernel
theorem iw_X9_press_X9 : ∀ w ∈ wsX90, w ∈ wsX9_press := by decide +kernel
theorem iw_X9_by_X9 : ∀ w ∈ wsX90, w ∈ wsX9_by := by decide +kernel
theorem iw_X9_by_X6 : ∀ w ∈ wsX60, w ∈ wsX9_by := by decide +kernel
theorem iw_X9_proves_X9 : ∀ w ∈ wsX90, w ∈ wsX9_proves := pw_X9_proves_X9
theorem iw_X9_mix_X9 : ∀ w ∈ wsX90, w ∈ wsX9_mix := by decide +kernel
theorem iw_X9_same_X9 : ∀ w ∈ wsX90, w ∈ wsX9_same := by decide +kernel
