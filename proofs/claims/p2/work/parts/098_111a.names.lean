abbrev cX5_settle : ByteArray := prog_7_method_2_code
def yX5_settle : MethodName := ⟨RX5, "settle", "(LPaidBySigns$Hire;IIII)Z"⟩
abbrev cX5_settleWatched : ByteArray := prog_7_method_3_code
def yX5_settleWatched : MethodName := ⟨RX5, "settleWatched", "(LPaidBySigns$Hire;II)Z"⟩
abbrev cX5_meanInto : ByteArray := prog_7_method_4_code
def yX5_meanInto : MethodName := ⟨RX5, "meanInto", "(LPaidBySigns$Fraction;LPaidBySigns$Hire;II)V"⟩
abbrev cX5_need : ByteArray := prog_7_method_6_code
def yX5_need : MethodName := ⟨RX5, "need", "(JJ)V"⟩
abbrev cX5_isMet : ByteArray := prog_7_method_7_code
def yX5_isMet : MethodName := ⟨RX5, "isMet", "()Z"⟩
def wsX5_need : List Cond := .code yX5_need cX5_need 5 none :: ([.fieldLink RX5 43 "PaidBySigns$OneSum" "lowLower" "J", .fieldLink RX5 47 "PaidBySigns$OneSum" "lowUpper" "J", .fieldLink RX5 71 "PaidBySigns$OneSum" "isBroken" "Z", .fieldLink RX5 68 "PaidBySigns$OneSum" "capLower" "J", .fieldLink RX5 65 "PaidBySigns$OneSum" "capUpper" "J"] ++ wsX50)
def wsX5_isMet : List Cond := .code yX5_isMet cX5_isMet 2 (some .boolean) :: ([.fieldLink RX5 68 "PaidBySigns$OneSum" "capLower" "J", .fieldLink RX5 47 "PaidBySigns$OneSum" "lowUpper" "J", .fieldLink RX5 65 "PaidBySigns$OneSum" "capUpper" "J", .fieldLink RX5 43 "PaidBySigns$OneSum" "lowLower" "J", .fieldLink RX5 71 "PaidBySigns$OneSum" "isBroken" "Z"] ++ wsX50)
def wsX5_settle_r1 : List Cond := [Cond.fieldLink RX5 18 "PaidBySigns$Hire" "works" "I", Cond.methodLink RX5 7 yX5_start, Cond.instanceMethod yX5_start, Cond.selects RX5 yX5_start yX5_start, Cond.initialized RX5, Cond.code yX5_start cX5_start 1 none, Cond.fieldLink RX5 47 "PaidBySigns$OneSum" "lowUpper" "J", Cond.fieldLink RX5 43 "PaidBySigns$OneSum" "lowLower" "J", Cond.fieldLink RX5 65 "PaidBySigns$OneSum" "capUpper" "J", Cond.fieldLink RX5 68 "PaidBySigns$OneSum" "capLower" "J", Cond.fieldLink RX5 71 "PaidBySigns$OneSum" "isBroken" "Z", Cond.methodLink RX5 12 yX3_chanceFrom, Cond.instanceMethod yX3_chanceFrom, Cond.selects RX3 yX3_chanceFrom yX3_chanceFrom, Cond.initialized RX3, Cond.code yX3_chanceFrom cX3_chanceFrom 5 (some .int), Cond.fieldLink RX3 32 "PaidBySigns$Hire" "signs" "I", Cond.fieldLink RX3 9 "PaidBySigns$Hire" "brings" "[I", Cond.fieldLink RX3 20 "PaidBySigns$Hire" "chances" "[[I", Cond.methodLink RX5 22 yX3_lackOf, Cond.instanceMethod yX3_lackOf, Cond.selects RX3 yX3_lackOf yX3_lackOf, Cond.code yX3_lackOf cX3_lackOf 3 (some .int), Cond.fieldLink RX3 15 "PaidBySigns$Hire" "costs" "[I"]
def wsX5_settle_r2 : List Cond := [Cond.fieldLink RX3 42 "PaidBySigns$Hire" "otherwise" "I", Cond.fieldLink RX3 45 "PaidBySigns$Hire" "least" "I", Cond.methodLink RX3 63 yX3_feltOf, Cond.instanceMethod yX3_feltOf, Cond.selects RX3 yX3_feltOf yX3_feltOf, Cond.code yX3_feltOf cX3_feltOf 6 (some .int), Cond.fieldLink RX3 48 "PaidBySigns$Hire" "rates" "I", Cond.fieldLink RX3 26 "PaidBySigns$Hire" "mark" "[I", Cond.methodLink RX3 51 Lib.Math.min.name, Cond.static Lib.Math.min.name, Cond.initialized "java/lang/Math", Cond.code Lib.Math.min.name Lib.Math.min.code 2 (some .int), Cond.fieldLink RX3 23 "PaidBySigns$Hire" "rate" "[I", Cond.methodLink RX5 25 yX5_need, Cond.instanceMethod yX5_need, Cond.selects RX5 yX5_need yX5_need, Cond.code yX5_need cX5_need 5 none, Cond.methodLink RX5 29 yX5_isMet, Cond.instanceMethod yX5_isMet, Cond.selects RX5 yX5_isMet yX5_isMet, Cond.code yX5_isMet cX5_isMet 2 (some .boolean)]
def wsX5_settle : List Cond := .code yX5_settle cX5_settle 9 (some .boolean) :: ((wsX5_settle_r1 ++ wsX5_settle_r2) ++ wsX30 ++ wsX50)
def wsX5_settleWatched_r1 : List Cond := [Cond.fieldLink RX5 18 "PaidBySigns$Hire" "works" "I", Cond.fieldLink RX5 33 "PaidBySigns$Hire" "whole" "I", Cond.methodLink RX5 7 yX5_start, Cond.instanceMethod yX5_start, Cond.selects RX5 yX5_start yX5_start, Cond.initialized RX5, Cond.code yX5_start cX5_start 1 none, Cond.fieldLink RX5 47 "PaidBySigns$OneSum" "lowUpper" "J", Cond.fieldLink RX5 43 "PaidBySigns$OneSum" "lowLower" "J", Cond.fieldLink RX5 65 "PaidBySigns$OneSum" "capUpper" "J", Cond.fieldLink RX5 68 "PaidBySigns$OneSum" "capLower" "J", Cond.fieldLink RX5 71 "PaidBySigns$OneSum" "isBroken" "Z", Cond.methodLink RX5 22 yX3_lackOf, Cond.instanceMethod yX3_lackOf, Cond.selects RX3 yX3_lackOf yX3_lackOf, Cond.initialized RX3, Cond.code yX3_lackOf cX3_lackOf 3 (some .int), Cond.fieldLink RX3 15 "PaidBySigns$Hire" "costs" "[I", Cond.fieldLink RX3 42 "PaidBySigns$Hire" "otherwise" "I", Cond.fieldLink RX3 45 "PaidBySigns$Hire" "least" "I", Cond.methodLink RX3 63 yX3_feltOf, Cond.instanceMethod yX3_feltOf, Cond.selects RX3 yX3_feltOf yX3_feltOf, Cond.code yX3_feltOf cX3_feltOf 6 (some .int)]
def wsX5_settleWatched_r2 : List Cond := [Cond.fieldLink RX3 48 "PaidBySigns$Hire" "rates" "I", Cond.fieldLink RX3 26 "PaidBySigns$Hire" "mark" "[I", Cond.methodLink RX3 51 Lib.Math.min.name, Cond.static Lib.Math.min.name, Cond.initialized "java/lang/Math", Cond.code Lib.Math.min.name Lib.Math.min.code 2 (some .int), Cond.fieldLink RX3 23 "PaidBySigns$Hire" "rate" "[I", Cond.methodLink RX5 25 yX5_need, Cond.instanceMethod yX5_need, Cond.selects RX5 yX5_need yX5_need, Cond.code yX5_need cX5_need 5 none, Cond.methodLink RX5 29 yX5_isMet, Cond.instanceMethod yX5_isMet, Cond.selects RX5 yX5_isMet yX5_isMet, Cond.code yX5_isMet cX5_isMet 2 (some .boolean)]
def wsX5_settleWatched : List Cond := .code yX5_settleWatched cX5_settleWatched 5 (some .boolean) :: ((wsX5_settleWatched_r1 ++ wsX5_settleWatched_r2) ++ wsX30 ++ wsX50)
def wsX5_meanInto_r1 : List Cond := [Cond.fieldLink RX5 36 "PaidBySigns$Hire" "least" "I", Cond.fieldLink RX5 43 "PaidBySigns$OneSum" "lowLower" "J", Cond.fieldLink RX5 47 "PaidBySigns$OneSum" "lowUpper" "J", Cond.fieldLink RX5 54 "PaidBySigns$Fraction" "upper" "J", Cond.fieldLink RX5 59 "PaidBySigns$Fraction" "lower" "J", Cond.methodLink RX5 39 yX3_feltOf, Cond.instanceMethod yX3_feltOf, Cond.selects RX3 yX3_feltOf yX3_feltOf, Cond.initialized RX3, Cond.code yX3_feltOf cX3_feltOf 6 (some .int), Cond.fieldLink RX3 48 "PaidBySigns$Hire" "rates" "I", Cond.fieldLink RX3 26 "PaidBySigns$Hire" "mark" "[I", Cond.methodLink RX3 51 Lib.Math.min.name, Cond.static Lib.Math.min.name, Cond.initialized "java/lang/Math", Cond.code Lib.Math.min.name Lib.Math.min.code 2 (some .int), Cond.fieldLink RX3 23 "PaidBySigns$Hire" "rate" "[I", Cond.methodLink RX5 50 yX3_wageOf, Cond.instanceMethod yX3_wageOf, Cond.selects RX3 yX3_wageOf yX3_wageOf, Cond.code yX3_wageOf cX3_wageOf 13 none, Cond.methodLink RX3 57 yX2_become, Cond.instanceMethod yX2_become, Cond.selects RX2 yX2_become yX2_become]
def wsX5_meanInto_r2 : List Cond := [Cond.initialized RX2, Cond.code yX2_become cX2_become 7 none, Cond.methodLink RX2 20 Lib.MathLoose.abs_long.x, Cond.static Lib.MathLoose.abs_long.x, Cond.code Lib.MathLoose.abs_long.x Lib.MathLoose.abs_long.code 2 (some .long), Cond.fieldLink RX2 11 "PaidBySigns$Fraction" "upper" "J", Cond.fieldLink RX2 17 "PaidBySigns$Fraction" "lower" "J", Cond.methodLink RX2 26 yX2_commonPart, Cond.static yX2_commonPart, Cond.code yX2_commonPart cX2_commonPart 11 (some .long), Cond.methodLink RX2 30 yX2_forget, Cond.instanceMethod yX2_forget, Cond.selects RX2 yX2_forget yX2_forget, Cond.code yX2_forget cX2_forget 1 none, Cond.constantLong RX2 9 (-2000000000), Cond.methodLink RX5 62 yX2_become]
def wsX5_meanInto : List Cond := .code yX5_meanInto cX5_meanInto 9 none :: ((wsX5_meanInto_r1 ++ wsX5_meanInto_r2) ++ wsX30 ++ wsX50 ++ wsX20)
theorem pm_X5_settle_r1 : ∀ w ∈ wsX5_settle_r1, w ∈ wsX5_settle := fun _ h => List.mem_cons_of_mem _ (List.mem_append_left _ (List.mem_append_left _ (List.mem_append_left _ h)))
theorem pm_X5_settle_r2 : ∀ w ∈ wsX5_settle_r2, w ∈ wsX5_settle := fun _ h => List.mem_cons_of_mem _ (List.mem_append_left _ (List.mem_append_left _ (List.mem_append_right _ (h))))
theorem pw_X5_settle_X3 : ∀ w ∈ wsX30, w ∈ wsX5_settle := fun _ h => List.mem_cons_of_mem _ (List.mem_append_left _ (List.mem_append_right _ h))
theorem pw_X5_settle_X5 : ∀ w ∈ wsX50, w ∈ wsX5_settle := fun _ h => List.mem_cons_of_mem _ (List.mem_append_right _ h)
set_option maxRecDepth 20000 in
theorem ggX5_settle_X5_start : GoodIn wsX5_settle wsX5_start := goodIn_sub (List.forall_mem_cons.mpr ⟨pm_X5_settle_r1 _ (List.mem_of_getElem? (i := 5) rfl), List.forall_mem_append.mpr ⟨List.forall_mem_cons.mpr ⟨pm_X5_settle_r1 _ (List.mem_of_getElem? (i := 6) rfl), List.forall_mem_cons.mpr ⟨pm_X5_settle_r1 _ (List.mem_of_getElem? (i := 7) rfl), List.forall_mem_cons.mpr ⟨pm_X5_settle_r1 _ (List.mem_of_getElem? (i := 8) rfl), List.forall_mem_cons.mpr ⟨pm_X5_settle_r1 _ (List.mem_of_getElem? (i := 9) rfl), List.forall_mem_cons.mpr ⟨pm_X5_settle_r1 _ (List.mem_of_getElem? (i := 10) rfl), fun _ h => absurd h List.not_mem_nil⟩⟩⟩⟩⟩, pw_X5_settle_X5⟩⟩) (by decide +kernel)
set_option maxRecDepth 20000 in
theorem gX5_settle_X5_start : GoodIn wsX5_settle (wsV RX5 7 RX5 yX5_start wsX5_start) := goodIn_app (goodIn_of _ (by decide +kernel)) ggX5_settle_X5_start
set_option maxRecDepth 20000 in
theorem ggX5_settle_X3_chanceFrom : GoodIn wsX5_settle wsX3_chanceFrom := goodIn_sub (List.forall_mem_cons.mpr ⟨pm_X5_settle_r1 _ (List.mem_of_getElem? (i := 15) rfl), List.forall_mem_append.mpr ⟨List.forall_mem_cons.mpr ⟨pm_X5_settle_r1 _ (List.mem_of_getElem? (i := 16) rfl), List.forall_mem_cons.mpr ⟨pm_X5_settle_r1 _ (List.mem_of_getElem? (i := 17) rfl), List.forall_mem_cons.mpr ⟨pm_X5_settle_r1 _ (List.mem_of_getElem? (i := 18) rfl), fun _ h => absurd h List.not_mem_nil⟩⟩⟩, pw_X5_settle_X3⟩⟩) (by decide +kernel)
set_option maxRecDepth 20000 in
theorem gX5_settle_X3_chanceFrom : GoodIn wsX5_settle (wsV RX5 12 RX3 yX3_chanceFrom wsX3_chanceFrom) := goodIn_app (goodIn_of _ (by decide +kernel)) ggX5_settle_X3_chanceFrom
set_option maxRecDepth 20000 in
theorem ggX5_settle_X3_lackOf : GoodIn wsX5_settle wsX3_lackOf := goodIn_sub (List.forall_mem_cons.mpr ⟨pm_X5_settle_r1 _ (List.mem_of_getElem? (i := 22) rfl), List.forall_mem_append.mpr ⟨List.forall_mem_cons.mpr ⟨pm_X5_settle_r1 _ (List.mem_of_getElem? (i := 23) rfl), List.forall_mem_cons.mpr ⟨pm_X5_settle_r2 _ (List.mem_of_getElem? (i := 0) rfl), List.forall_mem_cons.mpr ⟨pm_X5_settle_r2 _ (List.mem_of_getElem? (i := 1) rfl), List.forall_mem_cons.mpr ⟨pm_X5_settle_r2 _ (List.mem_of_getElem? (i := 2) rfl), List.forall_mem_cons.mpr ⟨pm_X5_settle_r2 _ (List.mem_of_getElem? (i := 3) rfl), List.forall_mem_cons.mpr ⟨pm_X5_settle_r2 _ (List.mem_of_getElem? (i := 4) rfl), List.forall_mem_cons.mpr ⟨pm_X5_settle_r1 _ (List.mem_of_getElem? (i := 14) rfl), List.forall_mem_cons.mpr ⟨pm_X5_settle_r2 _ (List.mem_of_getElem? (i := 5) rfl), List.forall_mem_cons.mpr ⟨pm_X5_settle_r2 _ (List.mem_of_getElem? (i := 6) rfl), List.forall_mem_cons.mpr ⟨pm_X5_settle_r2 _ (List.mem_of_getElem? (i := 7) rfl), List.forall_mem_cons.mpr ⟨pm_X5_settle_r2 _ (List.mem_of_getElem? (i := 8) rfl), List.forall_mem_cons.mpr ⟨pm_X5_settle_r2 _ (List.mem_of_getElem? (i := 9) rfl), List.forall_mem_cons.mpr ⟨pm_X5_settle_r2 _ (List.mem_of_getElem? (i := 10) rfl), List.forall_mem_cons.mpr ⟨pm_X5_settle_r2 _ (List.mem_of_getElem? (i := 11) rfl), List.forall_mem_cons.mpr ⟨pm_X5_settle_r2 _ (List.mem_of_getElem? (i := 12) rfl), fun _ h => absurd h List.not_mem_nil⟩⟩⟩⟩⟩⟩⟩⟩⟩⟩⟩⟩⟩⟩⟩, pw_X5_settle_X3⟩⟩) (by decide +kernel)
set_option maxRecDepth 20000 in
theorem gX5_settle_X3_lackOf : GoodIn wsX5_settle (wsV RX5 22 RX3 yX3_lackOf wsX3_lackOf) := goodIn_app (goodIn_of _ (by decide +kernel)) ggX5_settle_X3_lackOf
set_option maxRecDepth 20000 in
theorem ggX5_settle_X5_need : GoodIn wsX5_settle wsX5_need := goodIn_sub (List.forall_mem_cons.mpr ⟨pm_X5_settle_r2 _ (List.mem_of_getElem? (i := 16) rfl), List.forall_mem_append.mpr ⟨List.forall_mem_cons.mpr ⟨pm_X5_settle_r1 _ (List.mem_of_getElem? (i := 7) rfl), List.forall_mem_cons.mpr ⟨pm_X5_settle_r1 _ (List.mem_of_getElem? (i := 6) rfl), List.forall_mem_cons.mpr ⟨pm_X5_settle_r1 _ (List.mem_of_getElem? (i := 10) rfl), List.forall_mem_cons.mpr ⟨pm_X5_settle_r1 _ (List.mem_of_getElem? (i := 9) rfl), List.forall_mem_cons.mpr ⟨pm_X5_settle_r1 _ (List.mem_of_getElem? (i := 8) rfl), fun _ h => absurd h List.not_mem_nil⟩⟩⟩⟩⟩, pw_X5_settle_X5⟩⟩) (by decide +kernel)
set_option maxRecDepth 20000 in
theorem gX5_settle_X5_need : GoodIn wsX5_settle (wsV RX5 25 RX5 yX5_need wsX5_need) := goodIn_app (goodIn_of _ (by decide +kernel)) ggX5_settle_X5_need
set_option maxRecDepth 20000 in
theorem ggX5_settle_X5_isMet : GoodIn wsX5_settle wsX5_isMet := goodIn_sub (List.forall_mem_cons.mpr ⟨pm_X5_settle_r2 _ (List.mem_of_getElem? (i := 20) rfl), List.forall_mem_append.mpr ⟨List.forall_mem_cons.mpr ⟨pm_X5_settle_r1 _ (List.mem_of_getElem? (i := 9) rfl), List.forall_mem_cons.mpr ⟨pm_X5_settle_r1 _ (List.mem_of_getElem? (i := 6) rfl), List.forall_mem_cons.mpr ⟨pm_X5_settle_r1 _ (List.mem_of_getElem? (i := 8) rfl), List.forall_mem_cons.mpr ⟨pm_X5_settle_r1 _ (List.mem_of_getElem? (i := 7) rfl), List.forall_mem_cons.mpr ⟨pm_X5_settle_r1 _ (List.mem_of_getElem? (i := 10) rfl), fun _ h => absurd h List.not_mem_nil⟩⟩⟩⟩⟩, pw_X5_settle_X5⟩⟩) (by decide +kernel)
set_option maxRecDepth 20000 in
theorem gX5_settle_X5_isMet : GoodIn wsX5_settle (wsV RX5 29 RX5 yX5_isMet wsX5_isMet) := goodIn_app (goodIn_of _ (by decide +kernel)) ggX5_settle_X5_isMet
theorem dX5_settle_0 : decode cX5_settle 0 = .ok (.aload_n 0, 1) := by decide +kernel
theorem dX5_settle_1 : decode cX5_settle 1 = .ok (.invokevirtual 7, 3) := by decide +kernel
theorem dX5_settle_4 : decode cX5_settle 4 = .ok (.aload_n 1, 1) := by decide +kernel
theorem dX5_settle_5 : decode cX5_settle 5 = .ok (.iload_n 2, 1) := by decide +kernel
theorem dX5_settle_6 : decode cX5_settle 6 = .ok (.iload_n 3, 1) := by decide +kernel
theorem dX5_settle_7 : decode cX5_settle 7 = .ok (.invokevirtual 12, 3) := by decide +kernel
theorem dX5_settle_10 : decode cX5_settle 10 = .ok (.istore 6, 2) := by decide +kernel
theorem dX5_settle_12 : decode cX5_settle 12 = .ok (.iconst 0, 1) := by decide +kernel
theorem dX5_settle_13 : decode cX5_settle 13 = .ok (.istore 7, 2) := by decide +kernel
theorem dX5_settle_15 : decode cX5_settle 15 = .ok (.iload 7, 2) := by decide +kernel
theorem dX5_settle_17 : decode cX5_settle 17 = .ok (.aload_n 1, 1) := by decide +kernel
theorem dX5_settle_18 : decode cX5_settle 18 = .ok (.getfield 18, 3) := by decide +kernel
theorem dX5_settle_21 : decode cX5_settle 21 = .ok (.if_icmp .ge 54, 3) := by decide +kernel
theorem dX5_settle_24 : decode cX5_settle 24 = .ok (.iload 6, 2) := by decide +kernel
theorem dX5_settle_26 : decode cX5_settle 26 = .ok (.iload 7, 2) := by decide +kernel
theorem dX5_settle_28 : decode cX5_settle 28 = .ok (.iload_n 2, 1) := by decide +kernel
theorem dX5_settle_29 : decode cX5_settle 29 = .ok (.if_icmp .ne 7, 3) := by decide +kernel
theorem dX5_settle_32 : decode cX5_settle 32 = .ok (.iconst 0, 1) := by decide +kernel
theorem dX5_settle_33 : decode cX5_settle 33 = .ok (.goto 10, 3) := by decide +kernel
theorem dX5_settle_36 : decode cX5_settle 36 = .ok (.aload_n 1, 1) := by decide +kernel
theorem dX5_settle_37 : decode cX5_settle 37 = .ok (.iload 7, 2) := by decide +kernel
theorem dX5_settle_39 : decode cX5_settle 39 = .ok (.iload_n 3, 1) := by decide +kernel
theorem dX5_settle_40 : decode cX5_settle 40 = .ok (.invokevirtual 12, 3) := by decide +kernel
theorem dX5_settle_43 : decode cX5_settle 43 = .ok (.isub, 1) := by decide +kernel
theorem dX5_settle_44 : decode cX5_settle 44 = .ok (.istore 8, 2) := by decide +kernel
theorem dX5_settle_46 : decode cX5_settle 46 = .ok (.aload_n 0, 1) := by decide +kernel
theorem dX5_settle_47 : decode cX5_settle 47 = .ok (.iload 8, 2) := by decide +kernel
theorem dX5_settle_49 : decode cX5_settle 49 = .ok (.i2l, 1) := by decide +kernel
theorem dX5_settle_50 : decode cX5_settle 50 = .ok (.iload 4, 2) := by decide +kernel
theorem dX5_settle_52 : decode cX5_settle 52 = .ok (.i2l, 1) := by decide +kernel
theorem dX5_settle_53 : decode cX5_settle 53 = .ok (.lmul, 1) := by decide +kernel
theorem dX5_settle_54 : decode cX5_settle 54 = .ok (.iload 5, 2) := by decide +kernel
theorem dX5_settle_56 : decode cX5_settle 56 = .ok (.i2l, 1) := by decide +kernel
theorem dX5_settle_57 : decode cX5_settle 57 = .ok (.aload_n 1, 1) := by decide +kernel
theorem dX5_settle_58 : decode cX5_settle 58 = .ok (.iload_n 2, 1) := by decide +kernel
theorem dX5_settle_59 : decode cX5_settle 59 = .ok (.iload 7, 2) := by decide +kernel
theorem dX5_settle_61 : decode cX5_settle 61 = .ok (.invokevirtual 22, 3) := by decide +kernel
theorem dX5_settle_64 : decode cX5_settle 64 = .ok (.i2l, 1) := by decide +kernel
theorem dX5_settle_65 : decode cX5_settle 65 = .ok (.lmul, 1) := by decide +kernel
theorem dX5_settle_66 : decode cX5_settle 66 = .ok (.invokevirtual 25, 3) := by decide +kernel
theorem dX5_settle_69 : decode cX5_settle 69 = .ok (.iinc 7 1, 3) := by decide +kernel
theorem dX5_settle_72 : decode cX5_settle 72 = .ok (.goto (-57), 3) := by decide +kernel
theorem dX5_settle_75 : decode cX5_settle 75 = .ok (.aload_n 0, 1) := by decide +kernel
theorem dX5_settle_76 : decode cX5_settle 76 = .ok (.invokevirtual 29, 3) := by decide +kernel
theorem dX5_settle_79 : decode cX5_settle 79 = .ok (.ireturn, 1) := by decide +kernel
theorem pm_X5_settleWatched_r1 : ∀ w ∈ wsX5_settleWatched_r1, w ∈ wsX5_settleWatched := fun _ h => List.mem_cons_of_mem _ (List.mem_append_left _ (List.mem_append_left _ (List.mem_append_left _ h)))
theorem pm_X5_settleWatched_r2 : ∀ w ∈ wsX5_settleWatched_r2, w ∈ wsX5_settleWatched := fun _ h => List.mem_cons_of_mem _ (List.mem_append_left _ (List.mem_append_left _ (List.mem_append_right _ (h))))
theorem pw_X5_settleWatched_X3 : ∀ w ∈ wsX30, w ∈ wsX5_settleWatched := fun _ h => List.mem_cons_of_mem _ (List.mem_append_left _ (List.mem_append_right _ h))
theorem pw_X5_settleWatched_X5 : ∀ w ∈ wsX50, w ∈ wsX5_settleWatched := fun _ h => List.mem_cons_of_mem _ (List.mem_append_right _ h)
set_option maxRecDepth 20000 in
theorem ggX5_settleWatched_X5_start : GoodIn wsX5_settleWatched wsX5_start := goodIn_sub (List.forall_mem_cons.mpr ⟨pm_X5_settleWatched_r1 _ (List.mem_of_getElem? (i := 6) rfl), List.forall_mem_append.mpr ⟨List.forall_mem_cons.mpr ⟨pm_X5_settleWatched_r1 _ (List.mem_of_getElem? (i := 7) rfl), List.forall_mem_cons.mpr ⟨pm_X5_settleWatched_r1 _ (List.mem_of_getElem? (i := 8) rfl), List.forall_mem_cons.mpr ⟨pm_X5_settleWatched_r1 _ (List.mem_of_getElem? (i := 9) rfl), List.forall_mem_cons.mpr ⟨pm_X5_settleWatched_r1 _ (List.mem_of_getElem? (i := 10) rfl), List.forall_mem_cons.mpr ⟨pm_X5_settleWatched_r1 _ (List.mem_of_getElem? (i := 11) rfl), fun _ h => absurd h List.not_mem_nil⟩⟩⟩⟩⟩, pw_X5_settleWatched_X5⟩⟩) (by decide +kernel)
set_option maxRecDepth 20000 in
theorem gX5_settleWatched_X5_start : GoodIn wsX5_settleWatched (wsV RX5 7 RX5 yX5_start wsX5_start) := goodIn_app (goodIn_of _ (by decide +kernel)) ggX5_settleWatched_X5_start
set_option maxRecDepth 20000 in
theorem ggX5_settleWatched_X3_lackOf : GoodIn wsX5_settleWatched wsX3_lackOf := goodIn_sub (List.forall_mem_cons.mpr ⟨pm_X5_settleWatched_r1 _ (List.mem_of_getElem? (i := 16) rfl), List.forall_mem_append.mpr ⟨List.forall_mem_cons.mpr ⟨pm_X5_settleWatched_r1 _ (List.mem_of_getElem? (i := 17) rfl), List.forall_mem_cons.mpr ⟨pm_X5_settleWatched_r1 _ (List.mem_of_getElem? (i := 18) rfl), List.forall_mem_cons.mpr ⟨pm_X5_settleWatched_r1 _ (List.mem_of_getElem? (i := 19) rfl), List.forall_mem_cons.mpr ⟨pm_X5_settleWatched_r1 _ (List.mem_of_getElem? (i := 20) rfl), List.forall_mem_cons.mpr ⟨pm_X5_settleWatched_r1 _ (List.mem_of_getElem? (i := 21) rfl), List.forall_mem_cons.mpr ⟨pm_X5_settleWatched_r1 _ (List.mem_of_getElem? (i := 22) rfl), List.forall_mem_cons.mpr ⟨pm_X5_settleWatched_r1 _ (List.mem_of_getElem? (i := 15) rfl), List.forall_mem_cons.mpr ⟨pm_X5_settleWatched_r1 _ (List.mem_of_getElem? (i := 23) rfl), List.forall_mem_cons.mpr ⟨pm_X5_settleWatched_r2 _ (List.mem_of_getElem? (i := 0) rfl), List.forall_mem_cons.mpr ⟨pm_X5_settleWatched_r2 _ (List.mem_of_getElem? (i := 1) rfl), List.forall_mem_cons.mpr ⟨pm_X5_settleWatched_r2 _ (List.mem_of_getElem? (i := 2) rfl), List.forall_mem_cons.mpr ⟨pm_X5_settleWatched_r2 _ (List.mem_of_getElem? (i := 3) rfl), List.forall_mem_cons.mpr ⟨pm_X5_settleWatched_r2 _ (List.mem_of_getElem? (i := 4) rfl), List.forall_mem_cons.mpr ⟨pm_X5_settleWatched_r2 _ (List.mem_of_getElem? (i := 5) rfl), List.forall_mem_cons.mpr ⟨pm_X5_settleWatched_r2 _ (List.mem_of_getElem? (i := 6) rfl), fun _ h => absurd h List.not_mem_nil⟩⟩⟩⟩⟩⟩⟩⟩⟩⟩⟩⟩⟩⟩⟩, pw_X5_settleWatched_X3⟩⟩) (by decide +kernel)
set_option maxRecDepth 20000 in
theorem gX5_settleWatched_X3_lackOf : GoodIn wsX5_settleWatched (wsV RX5 22 RX3 yX3_lackOf wsX3_lackOf) := goodIn_app (goodIn_of _ (by decide +kernel)) ggX5_settleWatched_X3_lackOf
set_option maxRecDepth 20000 in
theorem ggX5_settleWatched_X5_need : GoodIn wsX5_settleWatched wsX5_need := goodIn_sub (List.forall_mem_cons.mpr ⟨pm_X5_settleWatched_r2 _ (List.mem_of_getElem? (i := 10) rfl), List.forall_mem_append.mpr ⟨List.forall_mem_cons.mpr ⟨pm_X5_settleWatched_r1 _ (List.mem_of_getElem? (i := 8) rfl), List.forall_mem_cons.mpr ⟨pm_X5_settleWatched_r1 _ (List.mem_of_getElem? (i := 7) rfl), List.forall_mem_cons.mpr ⟨pm_X5_settleWatched_r1 _ (List.mem_of_getElem? (i := 11) rfl), List.forall_mem_cons.mpr ⟨pm_X5_settleWatched_r1 _ (List.mem_of_getElem? (i := 10) rfl), List.forall_mem_cons.mpr ⟨pm_X5_settleWatched_r1 _ (List.mem_of_getElem? (i := 9) rfl), fun _ h => absurd h List.not_mem_nil⟩⟩⟩⟩⟩, pw_X5_settleWatched_X5⟩⟩) (by decide +kernel)
set_option maxRecDepth 20000 in
theorem gX5_settleWatched_X5_need : GoodIn wsX5_settleWatched (wsV RX5 25 RX5 yX5_need wsX5_need) := goodIn_app (goodIn_of _ (by decide +kernel)) ggX5_settleWatched_X5_need
set_option maxRecDepth 20000 in
theorem ggX5_settleWatched_X5_isMet : GoodIn wsX5_settleWatched wsX5_isMet := goodIn_sub (List.forall_mem_cons.mpr ⟨pm_X5_settleWatched_r2 _ (List.mem_of_getElem? (i := 14) rfl), List.forall_mem_append.mpr ⟨List.forall_mem_cons.mpr ⟨pm_X5_settleWatched_r1 _ (List.mem_of_getElem? (i := 10) rfl), List.forall_mem_cons.mpr ⟨pm_X5_settleWatched_r1 _ (List.mem_of_getElem? (i := 7) rfl), List.forall_mem_cons.mpr ⟨pm_X5_settleWatched_r1 _ (List.mem_of_getElem? (i := 9) rfl), List.forall_mem_cons.mpr ⟨pm_X5_settleWatched_r1 _ (List.mem_of_getElem? (i := 8) rfl), List.forall_mem_cons.mpr ⟨pm_X5_settleWatched_r1 _ (List.mem_of_getElem? (i := 11) rfl), fun _ h => absurd h List.not_mem_nil⟩⟩⟩⟩⟩, pw_X5_settleWatched_X5⟩⟩) (by decide +kernel)
set_option maxRecDepth 20000 in
theorem gX5_settleWatched_X5_isMet : GoodIn wsX5_settleWatched (wsV RX5 29 RX5 yX5_isMet wsX5_isMet) := goodIn_app (goodIn_of _ (by decide +kernel)) ggX5_settleWatched_X5_isMet
theorem dX5_settleWatched_0 : decode cX5_settleWatched 0 = .ok (.aload_n 0, 1) := by decide +kernel
theorem dX5_settleWatched_1 : decode cX5_settleWatched 1 = .ok (.invokevirtual 7, 3) := by decide +kernel
theorem dX5_settleWatched_4 : decode cX5_settleWatched 4 = .ok (.iconst 0, 1) := by decide +kernel
theorem dX5_settleWatched_5 : decode cX5_settleWatched 5 = .ok (.istore 4, 2) := by decide +kernel
theorem dX5_settleWatched_7 : decode cX5_settleWatched 7 = .ok (.iload 4, 2) := by decide +kernel
theorem dX5_settleWatched_9 : decode cX5_settleWatched 9 = .ok (.aload_n 1, 1) := by decide +kernel
theorem dX5_settleWatched_10 : decode cX5_settleWatched 10 = .ok (.getfield 18, 3) := by decide +kernel
theorem dX5_settleWatched_13 : decode cX5_settleWatched 13 = .ok (.if_icmp .ge 43, 3) := by decide +kernel
theorem dX5_settleWatched_16 : decode cX5_settleWatched 16 = .ok (.aload_n 0, 1) := by decide +kernel
theorem dX5_settleWatched_17 : decode cX5_settleWatched 17 = .ok (.iload 4, 2) := by decide +kernel
theorem dX5_settleWatched_19 : decode cX5_settleWatched 19 = .ok (.iload_n 2, 1) := by decide +kernel
theorem dX5_settleWatched_20 : decode cX5_settleWatched 20 = .ok (.if_icmp .ne 11, 3) := by decide +kernel
theorem dX5_settleWatched_23 : decode cX5_settleWatched 23 = .ok (.aload_n 1, 1) := by decide +kernel
theorem dX5_settleWatched_24 : decode cX5_settleWatched 24 = .ok (.getfield 33, 3) := by decide +kernel
theorem dX5_settleWatched_27 : decode cX5_settleWatched 27 = .ok (.i2l, 1) := by decide +kernel
theorem dX5_settleWatched_28 : decode cX5_settleWatched 28 = .ok (.goto 5, 3) := by decide +kernel
theorem dX5_settleWatched_31 : decode cX5_settleWatched 31 = .ok (.iload_n 3, 1) := by decide +kernel
theorem dX5_settleWatched_32 : decode cX5_settleWatched 32 = .ok (.i2l, 1) := by decide +kernel
theorem dX5_settleWatched_33 : decode cX5_settleWatched 33 = .ok (.aload_n 1, 1) := by decide +kernel
theorem dX5_settleWatched_34 : decode cX5_settleWatched 34 = .ok (.getfield 33, 3) := by decide +kernel
theorem dX5_settleWatched_37 : decode cX5_settleWatched 37 = .ok (.i2l, 1) := by decide +kernel
theorem dX5_settleWatched_38 : decode cX5_settleWatched 38 = .ok (.aload_n 1, 1) := by decide +kernel
theorem dX5_settleWatched_39 : decode cX5_settleWatched 39 = .ok (.iload_n 2, 1) := by decide +kernel
theorem dX5_settleWatched_40 : decode cX5_settleWatched 40 = .ok (.iload 4, 2) := by decide +kernel
theorem dX5_settleWatched_42 : decode cX5_settleWatched 42 = .ok (.invokevirtual 22, 3) := by decide +kernel
theorem dX5_settleWatched_45 : decode cX5_settleWatched 45 = .ok (.i2l, 1) := by decide +kernel
theorem dX5_settleWatched_46 : decode cX5_settleWatched 46 = .ok (.lmul, 1) := by decide +kernel
theorem dX5_settleWatched_47 : decode cX5_settleWatched 47 = .ok (.invokevirtual 25, 3) := by decide +kernel
theorem dX5_settleWatched_50 : decode cX5_settleWatched 50 = .ok (.iinc 4 1, 3) := by decide +kernel
theorem dX5_settleWatched_53 : decode cX5_settleWatched 53 = .ok (.goto (-46), 3) := by decide +kernel
theorem dX5_settleWatched_56 : decode cX5_settleWatched 56 = .ok (.aload_n 0, 1) := by decide +kernel
theorem dX5_settleWatched_57 : decode cX5_settleWatched 57 = .ok (.invokevirtual 29, 3) := by decide +kernel
theorem dX5_settleWatched_60 : decode cX5_settleWatched 60 = .ok (.ireturn, 1) := by decide +kernel
theorem pm_X5_meanInto_r1 : ∀ w ∈ wsX5_meanInto_r1, w ∈ wsX5_meanInto := fun _ h => List.mem_cons_of_mem _ (List.mem_append_left _ (List.mem_append_left _ (List.mem_append_left _ (List.mem_append_left _ h))))
theorem pm_X5_meanInto_r2 : ∀ w ∈ wsX5_meanInto_r2, w ∈ wsX5_meanInto := fun _ h => List.mem_cons_of_mem _ (List.mem_append_left _ (List.mem_append_left _ (List.mem_append_left _ (List.mem_append_right _ (h)))))
theorem pw_X5_meanInto_X3 : ∀ w ∈ wsX30, w ∈ wsX5_meanInto := fun _ h => List.mem_cons_of_mem _ (List.mem_append_left _ (List.mem_append_left _ (List.mem_append_right _ h)))
theorem pw_X5_meanInto_X5 : ∀ w ∈ wsX50, w ∈ wsX5_meanInto := fun _ h => List.mem_cons_of_mem _ (List.mem_append_left _ (List.mem_append_right _ h))
theorem pw_X5_meanInto_X2 : ∀ w ∈ wsX20, w ∈ wsX5_meanInto := fun _ h => List.mem_cons_of_mem _ (List.mem_append_right _ h)
set_option maxRecDepth 20000 in
theorem ggX5_meanInto_X3_feltOf : GoodIn wsX5_meanInto wsX3_feltOf := goodIn_sub (List.forall_mem_cons.mpr ⟨pm_X5_meanInto_r1 _ (List.mem_of_getElem? (i := 9) rfl), List.forall_mem_append.mpr ⟨List.forall_mem_cons.mpr ⟨pm_X5_meanInto_r1 _ (List.mem_of_getElem? (i := 10) rfl), List.forall_mem_cons.mpr ⟨pm_X5_meanInto_r1 _ (List.mem_of_getElem? (i := 11) rfl), List.forall_mem_cons.mpr ⟨pm_X5_meanInto_r1 _ (List.mem_of_getElem? (i := 12) rfl), List.forall_mem_cons.mpr ⟨pm_X5_meanInto_r1 _ (List.mem_of_getElem? (i := 13) rfl), List.forall_mem_cons.mpr ⟨pm_X5_meanInto_r1 _ (List.mem_of_getElem? (i := 14) rfl), List.forall_mem_cons.mpr ⟨pm_X5_meanInto_r1 _ (List.mem_of_getElem? (i := 15) rfl), List.forall_mem_cons.mpr ⟨pm_X5_meanInto_r1 _ (List.mem_of_getElem? (i := 16) rfl), fun _ h => absurd h List.not_mem_nil⟩⟩⟩⟩⟩⟩⟩, pw_X5_meanInto_X3⟩⟩) (by decide +kernel)
set_option maxRecDepth 20000 in
theorem gX5_meanInto_X3_feltOf : GoodIn wsX5_meanInto (wsV RX5 39 RX3 yX3_feltOf wsX3_feltOf) := goodIn_app (goodIn_of _ (by decide +kernel)) ggX5_meanInto_X3_feltOf
set_option maxRecDepth 20000 in
theorem ggX5_meanInto_X3_wageOf : GoodIn wsX5_meanInto wsX3_wageOf := goodIn_sub (List.forall_mem_cons.mpr ⟨pm_X5_meanInto_r1 _ (List.mem_of_getElem? (i := 20) rfl), List.forall_mem_append.mpr ⟨List.forall_mem_append.mpr ⟨List.forall_mem_cons.mpr ⟨pm_X5_meanInto_r1 _ (List.mem_of_getElem? (i := 10) rfl), List.forall_mem_cons.mpr ⟨pm_X5_meanInto_r1 _ (List.mem_of_getElem? (i := 16) rfl), List.forall_mem_cons.mpr ⟨pm_X5_meanInto_r1 _ (List.mem_of_getElem? (i := 11) rfl), List.forall_mem_cons.mpr ⟨pm_X5_meanInto_r1 _ (List.mem_of_getElem? (i := 21) rfl), List.forall_mem_cons.mpr ⟨pm_X5_meanInto_r1 _ (List.mem_of_getElem? (i := 22) rfl), List.forall_mem_cons.mpr ⟨pm_X5_meanInto_r1 _ (List.mem_of_getElem? (i := 23) rfl), List.forall_mem_cons.mpr ⟨pm_X5_meanInto_r2 _ (List.mem_of_getElem? (i := 0) rfl), List.forall_mem_cons.mpr ⟨pm_X5_meanInto_r2 _ (List.mem_of_getElem? (i := 1) rfl), List.forall_mem_cons.mpr ⟨pm_X5_meanInto_r2 _ (List.mem_of_getElem? (i := 2) rfl), List.forall_mem_cons.mpr ⟨pm_X5_meanInto_r2 _ (List.mem_of_getElem? (i := 3) rfl), List.forall_mem_cons.mpr ⟨pm_X5_meanInto_r1 _ (List.mem_of_getElem? (i := 14) rfl), List.forall_mem_cons.mpr ⟨pm_X5_meanInto_r2 _ (List.mem_of_getElem? (i := 4) rfl), List.forall_mem_cons.mpr ⟨pm_X5_meanInto_r2 _ (List.mem_of_getElem? (i := 5) rfl), List.forall_mem_cons.mpr ⟨pm_X5_meanInto_r2 _ (List.mem_of_getElem? (i := 6) rfl), List.forall_mem_cons.mpr ⟨pm_X5_meanInto_r2 _ (List.mem_of_getElem? (i := 7) rfl), List.forall_mem_cons.mpr ⟨pm_X5_meanInto_r2 _ (List.mem_of_getElem? (i := 8) rfl), List.forall_mem_cons.mpr ⟨pm_X5_meanInto_r2 _ (List.mem_of_getElem? (i := 9) rfl), List.forall_mem_cons.mpr ⟨pm_X5_meanInto_r2 _ (List.mem_of_getElem? (i := 10) rfl), List.forall_mem_cons.mpr ⟨pm_X5_meanInto_r2 _ (List.mem_of_getElem? (i := 11) rfl), List.forall_mem_cons.mpr ⟨pm_X5_meanInto_r2 _ (List.mem_of_getElem? (i := 12) rfl), List.forall_mem_cons.mpr ⟨pm_X5_meanInto_r2 _ (List.mem_of_getElem? (i := 13) rfl), List.forall_mem_cons.mpr ⟨pm_X5_meanInto_r2 _ (List.mem_of_getElem? (i := 14) rfl), fun _ h => absurd h List.not_mem_nil⟩⟩⟩⟩⟩⟩⟩⟩⟩⟩⟩⟩⟩⟩⟩⟩⟩⟩⟩⟩⟩⟩, pw_X5_meanInto_X3⟩, pw_X5_meanInto_X2⟩⟩) (by decide +kernel)
set_option maxRecDepth 20000 in
theorem gX5_meanInto_X3_wageOf : GoodIn wsX5_meanInto (wsV RX5 50 RX3 yX3_wageOf wsX3_wageOf) := goodIn_app (goodIn_of _ (by decide +kernel)) ggX5_meanInto_X3_wageOf
set_option maxRecDepth 20000 in
theorem ggX5_meanInto_X2_become : GoodIn wsX5_meanInto wsX2_become := goodIn_sub (List.forall_mem_cons.mpr ⟨pm_X5_meanInto_r2 _ (List.mem_of_getElem? (i := 1) rfl), List.forall_mem_append.mpr ⟨List.forall_mem_cons.mpr ⟨pm_X5_meanInto_r2 _ (List.mem_of_getElem? (i := 2) rfl), List.forall_mem_cons.mpr ⟨pm_X5_meanInto_r2 _ (List.mem_of_getElem? (i := 3) rfl), List.forall_mem_cons.mpr ⟨pm_X5_meanInto_r1 _ (List.mem_of_getElem? (i := 14) rfl), List.forall_mem_cons.mpr ⟨pm_X5_meanInto_r2 _ (List.mem_of_getElem? (i := 4) rfl), List.forall_mem_cons.mpr ⟨pm_X5_meanInto_r2 _ (List.mem_of_getElem? (i := 5) rfl), List.forall_mem_cons.mpr ⟨pm_X5_meanInto_r2 _ (List.mem_of_getElem? (i := 6) rfl), List.forall_mem_cons.mpr ⟨pm_X5_meanInto_r2 _ (List.mem_of_getElem? (i := 7) rfl), List.forall_mem_cons.mpr ⟨pm_X5_meanInto_r2 _ (List.mem_of_getElem? (i := 8) rfl), List.forall_mem_cons.mpr ⟨pm_X5_meanInto_r2 _ (List.mem_of_getElem? (i := 0) rfl), List.forall_mem_cons.mpr ⟨pm_X5_meanInto_r2 _ (List.mem_of_getElem? (i := 9) rfl), List.forall_mem_cons.mpr ⟨pm_X5_meanInto_r2 _ (List.mem_of_getElem? (i := 10) rfl), List.forall_mem_cons.mpr ⟨pm_X5_meanInto_r2 _ (List.mem_of_getElem? (i := 11) rfl), List.forall_mem_cons.mpr ⟨pm_X5_meanInto_r2 _ (List.mem_of_getElem? (i := 12) rfl), List.forall_mem_cons.mpr ⟨pm_X5_meanInto_r2 _ (List.mem_of_getElem? (i := 13) rfl), List.forall_mem_cons.mpr ⟨pm_X5_meanInto_r2 _ (List.mem_of_getElem? (i := 14) rfl), fun _ h => absurd h List.not_mem_nil⟩⟩⟩⟩⟩⟩⟩⟩⟩⟩⟩⟩⟩⟩⟩, pw_X5_meanInto_X2⟩⟩) (by decide +kernel)
set_option maxRecDepth 20000 in
theorem gX5_meanInto_X2_become : GoodIn wsX5_meanInto (wsV RX5 62 RX2 yX2_become wsX2_become) := goodIn_app (goodIn_of _ (by decide +kernel)) ggX5_meanInto_X2_become
theorem dX5_meanInto_0 : decode cX5_meanInto 0 = .ok (.aload_n 2, 1) := by decide +kernel
theorem dX5_meanInto_1 : decode cX5_meanInto 1 = .ok (.aload_n 2, 1) := by decide +kernel
theorem dX5_meanInto_2 : decode cX5_meanInto 2 = .ok (.getfield 36, 3) := by decide +kernel
theorem dX5_meanInto_5 : decode cX5_meanInto 5 = .ok (.invokevirtual 39, 3) := by decide +kernel
theorem dX5_meanInto_8 : decode cX5_meanInto 8 = .ok (.i2l, 1) := by decide +kernel
theorem dX5_meanInto_9 : decode cX5_meanInto 9 = .ok (.lstore 5, 2) := by decide +kernel
theorem dX5_meanInto_11 : decode cX5_meanInto 11 = .ok (.aload_n 2, 1) := by decide +kernel
theorem dX5_meanInto_12 : decode cX5_meanInto 12 = .ok (.lload 5, 2) := by decide +kernel
theorem dX5_meanInto_14 : decode cX5_meanInto 14 = .ok (.aload_n 0, 1) := by decide +kernel
theorem dX5_meanInto_15 : decode cX5_meanInto 15 = .ok (.getfield 43, 3) := by decide +kernel
theorem dX5_meanInto_18 : decode cX5_meanInto 18 = .ok (.lmul, 1) := by decide +kernel
theorem dX5_meanInto_19 : decode cX5_meanInto 19 = .ok (.aload_n 0, 1) := by decide +kernel
theorem dX5_meanInto_20 : decode cX5_meanInto 20 = .ok (.getfield 47, 3) := by decide +kernel
theorem dX5_meanInto_23 : decode cX5_meanInto 23 = .ok (.ladd, 1) := by decide +kernel
theorem dX5_meanInto_24 : decode cX5_meanInto 24 = .ok (.aload_n 0, 1) := by decide +kernel
theorem dX5_meanInto_25 : decode cX5_meanInto 25 = .ok (.getfield 43, 3) := by decide +kernel
theorem dX5_meanInto_28 : decode cX5_meanInto 28 = .ok (.aload_n 1, 1) := by decide +kernel
theorem dX5_meanInto_29 : decode cX5_meanInto 29 = .ok (.invokevirtual 50, 3) := by decide +kernel
theorem dX5_meanInto_32 : decode cX5_meanInto 32 = .ok (.iload_n 3, 1) := by decide +kernel
theorem dX5_meanInto_33 : decode cX5_meanInto 33 = .ok (.i2l, 1) := by decide +kernel
theorem dX5_meanInto_34 : decode cX5_meanInto 34 = .ok (.aload_n 1, 1) := by decide +kernel
theorem dX5_meanInto_35 : decode cX5_meanInto 35 = .ok (.getfield 54, 3) := by decide +kernel
theorem dX5_meanInto_38 : decode cX5_meanInto 38 = .ok (.lmul, 1) := by decide +kernel
theorem dX5_meanInto_39 : decode cX5_meanInto 39 = .ok (.iload 4, 2) := by decide +kernel
theorem dX5_meanInto_41 : decode cX5_meanInto 41 = .ok (.iload_n 3, 1) := by decide +kernel
theorem dX5_meanInto_42 : decode cX5_meanInto 42 = .ok (.isub, 1) := by decide +kernel
theorem dX5_meanInto_43 : decode cX5_meanInto 43 = .ok (.i2l, 1) := by decide +kernel
theorem dX5_meanInto_44 : decode cX5_meanInto 44 = .ok (.aload_n 2, 1) := by decide +kernel
theorem dX5_meanInto_45 : decode cX5_meanInto 45 = .ok (.getfield 36, 3) := by decide +kernel
theorem dX5_meanInto_48 : decode cX5_meanInto 48 = .ok (.i2l, 1) := by decide +kernel
theorem dX5_meanInto_49 : decode cX5_meanInto 49 = .ok (.lmul, 1) := by decide +kernel
theorem dX5_meanInto_50 : decode cX5_meanInto 50 = .ok (.aload_n 1, 1) := by decide +kernel
theorem dX5_meanInto_51 : decode cX5_meanInto 51 = .ok (.getfield 59, 3) := by decide +kernel
theorem dX5_meanInto_54 : decode cX5_meanInto 54 = .ok (.lmul, 1) := by decide +kernel
theorem dX5_meanInto_55 : decode cX5_meanInto 55 = .ok (.ladd, 1) := by decide +kernel
theorem dX5_meanInto_56 : decode cX5_meanInto 56 = .ok (.lstore 7, 2) := by decide +kernel
theorem dX5_meanInto_58 : decode cX5_meanInto 58 = .ok (.aload_n 1, 1) := by decide +kernel
theorem dX5_meanInto_59 : decode cX5_meanInto 59 = .ok (.lload 7, 2) := by decide +kernel
theorem dX5_meanInto_61 : decode cX5_meanInto 61 = .ok (.iload 4, 2) := by decide +kernel
theorem dX5_meanInto_63 : decode cX5_meanInto 63 = .ok (.i2l, 1) := by decide +kernel
theorem dX5_meanInto_64 : decode cX5_meanInto 64 = .ok (.aload_n 1, 1) := by decide +kernel
theorem dX5_meanInto_65 : decode cX5_meanInto 65 = .ok (.getfield 59, 3) := by decide +kernel
theorem dX5_meanInto_68 : decode cX5_meanInto 68 = .ok (.lmul, 1) := by decide +kernel
theorem dX5_meanInto_69 : decode cX5_meanInto 69 = .ok (.invokevirtual 62, 3) := by decide +kernel
theorem dX5_meanInto_72 : decode cX5_meanInto 72 = .ok (.return_, 1) := by decide +kernel
theorem dX5_need_0 : decode cX5_need 0 = .ok (.lload_n 1, 1) := by decide +kernel
theorem dX5_need_1 : decode cX5_need 1 = .ok (.lconst 0, 1) := by decide +kernel
theorem dX5_need_2 : decode cX5_need 2 = .ok (.lcmp, 1) := by decide +kernel
theorem dX5_need_3 : decode cX5_need 3 = .ok (.ifCond .le 29, 3) := by decide +kernel
theorem dX5_need_6 : decode cX5_need 6 = .ok (.lload_n 3, 1) := by decide +kernel
theorem dX5_need_7 : decode cX5_need 7 = .ok (.aload_n 0, 1) := by decide +kernel
theorem dX5_need_8 : decode cX5_need 8 = .ok (.getfield 43, 3) := by decide +kernel
theorem dX5_need_11 : decode cX5_need 11 = .ok (.lmul, 1) := by decide +kernel
theorem dX5_need_12 : decode cX5_need 12 = .ok (.aload_n 0, 1) := by decide +kernel
theorem dX5_need_13 : decode cX5_need 13 = .ok (.getfield 47, 3) := by decide +kernel
theorem dX5_need_16 : decode cX5_need 16 = .ok (.lload_n 1, 1) := by decide +kernel
theorem dX5_need_17 : decode cX5_need 17 = .ok (.lmul, 1) := by decide +kernel
theorem dX5_need_18 : decode cX5_need 18 = .ok (.lcmp, 1) := by decide +kernel
theorem dX5_need_19 : decode cX5_need 19 = .ok (.ifCond .le 13, 3) := by decide +kernel
theorem dX5_need_22 : decode cX5_need 22 = .ok (.aload_n 0, 1) := by decide +kernel
theorem dX5_need_23 : decode cX5_need 23 = .ok (.lload_n 3, 1) := by decide +kernel
theorem dX5_need_24 : decode cX5_need 24 = .ok (.putfield 47, 3) := by decide +kernel
theorem dX5_need_27 : decode cX5_need 27 = .ok (.aload_n 0, 1) := by decide +kernel
theorem dX5_need_28 : decode cX5_need 28 = .ok (.lload_n 1, 1) := by decide +kernel
theorem dX5_need_29 : decode cX5_need 29 = .ok (.putfield 43, 3) := by decide +kernel
theorem dX5_need_32 : decode cX5_need 32 = .ok (.lload_n 1, 1) := by decide +kernel
theorem dX5_need_33 : decode cX5_need 33 = .ok (.lconst 0, 1) := by decide +kernel
theorem dX5_need_34 : decode cX5_need 34 = .ok (.lcmp, 1) := by decide +kernel
theorem dX5_need_35 : decode cX5_need 35 = .ok (.ifCond .ne 14, 3) := by decide +kernel
theorem dX5_need_38 : decode cX5_need 38 = .ok (.lload_n 3, 1) := by decide +kernel
theorem dX5_need_39 : decode cX5_need 39 = .ok (.lconst 0, 1) := by decide +kernel
theorem dX5_need_40 : decode cX5_need 40 = .ok (.lcmp, 1) := by decide +kernel
theorem dX5_need_41 : decode cX5_need 41 = .ok (.ifCond .le 8, 3) := by decide +kernel
theorem dX5_need_44 : decode cX5_need 44 = .ok (.aload_n 0, 1) := by decide +kernel
theorem dX5_need_45 : decode cX5_need 45 = .ok (.iconst 1, 1) := by decide +kernel
theorem dX5_need_46 : decode cX5_need 46 = .ok (.putfield 71, 3) := by decide +kernel
theorem dX5_need_49 : decode cX5_need 49 = .ok (.lload_n 1, 1) := by decide +kernel
theorem dX5_need_50 : decode cX5_need 50 = .ok (.lconst 0, 1) := by decide +kernel
theorem dX5_need_51 : decode cX5_need 51 = .ok (.lcmp, 1) := by decide +kernel
theorem dX5_need_52 : decode cX5_need 52 = .ok (.ifCond .ge 40, 3) := by decide +kernel
theorem dX5_need_55 : decode cX5_need 55 = .ok (.aload_n 0, 1) := by decide +kernel
theorem dX5_need_56 : decode cX5_need 56 = .ok (.getfield 68, 3) := by decide +kernel
theorem dX5_need_59 : decode cX5_need 59 = .ok (.lconst 0, 1) := by decide +kernel
theorem dX5_need_60 : decode cX5_need 60 = .ok (.lcmp, 1) := by decide +kernel
theorem dX5_need_61 : decode cX5_need 61 = .ok (.ifCond .eq 19, 3) := by decide +kernel
theorem dX5_need_64 : decode cX5_need 64 = .ok (.lload_n 3, 1) := by decide +kernel
theorem dX5_need_65 : decode cX5_need 65 = .ok (.aload_n 0, 1) := by decide +kernel
theorem dX5_need_66 : decode cX5_need 66 = .ok (.getfield 68, 3) := by decide +kernel
theorem dX5_need_69 : decode cX5_need 69 = .ok (.lmul, 1) := by decide +kernel
theorem dX5_need_70 : decode cX5_need 70 = .ok (.aload_n 0, 1) := by decide +kernel
theorem dX5_need_71 : decode cX5_need 71 = .ok (.getfield 65, 3) := by decide +kernel
theorem dX5_need_74 : decode cX5_need 74 = .ok (.lload_n 1, 1) := by decide +kernel
theorem dX5_need_75 : decode cX5_need 75 = .ok (.lmul, 1) := by decide +kernel
theorem dX5_need_76 : decode cX5_need 76 = .ok (.lcmp, 1) := by decide +kernel
theorem dX5_need_77 : decode cX5_need 77 = .ok (.ifCond .le 15, 3) := by decide +kernel
theorem dX5_need_80 : decode cX5_need 80 = .ok (.aload_n 0, 1) := by decide +kernel
theorem dX5_need_81 : decode cX5_need 81 = .ok (.lload_n 3, 1) := by decide +kernel
theorem dX5_need_82 : decode cX5_need 82 = .ok (.lneg, 1) := by decide +kernel
theorem dX5_need_83 : decode cX5_need 83 = .ok (.putfield 65, 3) := by decide +kernel
theorem dX5_need_86 : decode cX5_need 86 = .ok (.aload_n 0, 1) := by decide +kernel
theorem dX5_need_87 : decode cX5_need 87 = .ok (.lload_n 1, 1) := by decide +kernel
theorem dX5_need_88 : decode cX5_need 88 = .ok (.lneg, 1) := by decide +kernel
theorem dX5_need_89 : decode cX5_need 89 = .ok (.putfield 68, 3) := by decide +kernel
theorem dX5_need_92 : decode cX5_need 92 = .ok (.return_, 1) := by decide +kernel
theorem dX5_isMet_0 : decode cX5_isMet 0 = .ok (.aload_n 0, 1) := by decide +kernel
theorem dX5_isMet_1 : decode cX5_isMet 1 = .ok (.getfield 68, 3) := by decide +kernel
theorem dX5_isMet_4 : decode cX5_isMet 4 = .ok (.lconst 0, 1) := by decide +kernel
theorem dX5_isMet_5 : decode cX5_isMet 5 = .ok (.lcmp, 1) := by decide +kernel
theorem dX5_isMet_6 : decode cX5_isMet 6 = .ok (.ifCond .eq 25, 3) := by decide +kernel
theorem dX5_isMet_9 : decode cX5_isMet 9 = .ok (.aload_n 0, 1) := by decide +kernel
theorem dX5_isMet_10 : decode cX5_isMet 10 = .ok (.getfield 47, 3) := by decide +kernel
theorem dX5_isMet_13 : decode cX5_isMet 13 = .ok (.aload_n 0, 1) := by decide +kernel
theorem dX5_isMet_14 : decode cX5_isMet 14 = .ok (.getfield 68, 3) := by decide +kernel
theorem dX5_isMet_17 : decode cX5_isMet 17 = .ok (.lmul, 1) := by decide +kernel
theorem dX5_isMet_18 : decode cX5_isMet 18 = .ok (.aload_n 0, 1) := by decide +kernel
theorem dX5_isMet_19 : decode cX5_isMet 19 = .ok (.getfield 65, 3) := by decide +kernel
theorem dX5_isMet_22 : decode cX5_isMet 22 = .ok (.aload_n 0, 1) := by decide +kernel
theorem dX5_isMet_23 : decode cX5_isMet 23 = .ok (.getfield 43, 3) := by decide +kernel
theorem dX5_isMet_26 : decode cX5_isMet 26 = .ok (.lmul, 1) := by decide +kernel
theorem dX5_isMet_27 : decode cX5_isMet 27 = .ok (.lcmp, 1) := by decide +kernel
theorem dX5_isMet_28 : decode cX5_isMet 28 = .ok (.ifCond .gt 7, 3) := by decide +kernel
theorem dX5_isMet_31 : decode cX5_isMet 31 = .ok (.iconst 1, 1) := by decide +kernel
theorem dX5_isMet_32 : decode cX5_isMet 32 = .ok (.goto 4, 3) := by decide +kernel
theorem dX5_isMet_35 : decode cX5_isMet 35 = .ok (.iconst 0, 1) := by decide +kernel
theorem dX5_isMet_36 : decode cX5_isMet 36 = .ok (.istore_n 1, 1) := by decide +kernel
theorem dX5_isMet_37 : decode cX5_isMet 37 = .ok (.aload_n 0, 1) := by decide +kernel
theorem dX5_isMet_38 : decode cX5_isMet 38 = .ok (.getfield 71, 3) := by decide +kernel
theorem dX5_isMet_41 : decode cX5_isMet 41 = .ok (.ifCond .ne 11, 3) := by decide +kernel
theorem dX5_isMet_44 : decode cX5_isMet 44 = .ok (.iload_n 1, 1) := by decide +kernel
theorem dX5_isMet_45 : decode cX5_isMet 45 = .ok (.ifCond .eq 7, 3) := by decide +kernel
theorem dX5_isMet_48 : decode cX5_isMet 48 = .ok (.iconst 1, 1) := by decide +kernel
theorem dX5_isMet_49 : decode cX5_isMet 49 = .ok (.goto 4, 3) := by decide +kernel
theorem dX5_isMet_52 : decode cX5_isMet 52 = .ok (.iconst 0, 1) := by decide +kernel
theorem dX5_isMet_53 : decode cX5_isMet 53 = .ok (.ireturn, 1) := by decide +kernel
theorem kk_X5_settle_0 : Cond.fieldLink RX5 18 "PaidBySigns$Hire" "works" "I" ∈ wsX5_settle := pm_X5_settle_r1 _ (List.mem_of_getElem? (i := 0) rfl)
theorem kk_X5_isMet_0 : Cond.fieldLink RX5 68 "PaidBySigns$OneSum" "capLower" "J" ∈ wsX5_isMet := by decide +kernel
theorem kk_X5_isMet_1 : Cond.fieldLink RX5 71 "PaidBySigns$OneSum" "isBroken" "Z" ∈ wsX5_isMet := by decide +kernel
theorem kk_X5_isMet_2 : Cond.fieldLink RX5 47 "PaidBySigns$OneSum" "lowUpper" "J" ∈ wsX5_isMet := by decide +kernel
theorem kk_X5_isMet_3 : Cond.fieldLink RX5 65 "PaidBySigns$OneSum" "capUpper" "J" ∈ wsX5_isMet := by decide +kernel
theorem kk_X5_isMet_4 : Cond.fieldLink RX5 43 "PaidBySigns$OneSum" "lowLower" "J" ∈ wsX5_isMet := by decide +kernel
theorem kk_X5_need_0 : Cond.fieldLink RX5 68 "PaidBySigns$OneSum" "capLower" "J" ∈ wsX5_need := by decide +kernel
theorem kk_X5_need_1 : Cond.fieldLink RX5 65 "PaidBySigns$OneSum" "capUpper" "J" ∈ wsX5_need := by decide +kernel
theorem kk_X5_need_2 : Cond.fieldLink RX5 71 "PaidBySigns$OneSum" "isBroken" "Z" ∈ wsX5_need := by decide +kernel
theorem kk_X5_need_3 : Cond.fieldLink RX5 43 "PaidBySigns$OneSum" "lowLower" "J" ∈ wsX5_need := by decide +kernel
theorem kk_X5_need_4 : Cond.fieldLink RX5 47 "PaidBySigns$OneSum" "lowUpper" "J" ∈ wsX5_need := by decide +kernel
theorem kk_X5_settleWatched_0 : Cond.fieldLink RX5 18 "PaidBySigns$Hire" "works" "I" ∈ wsX5_settleWatched := pm_X5_settleWatched_r1 _ (List.mem_of_getElem? (i := 0) rfl)
theorem kk_X5_settleWatched_1 : Cond.fieldLink RX5 33 "PaidBySigns$Hire" "whole" "I" ∈ wsX5_settleWatched := pm_X5_settleWatched_r1 _ (List.mem_of_getElem? (i := 1) rfl)
theorem kk_X5_meanInto_0 : Cond.fieldLink RX5 36 "PaidBySigns$Hire" "least" "I" ∈ wsX5_meanInto := pm_X5_meanInto_r1 _ (List.mem_of_getElem? (i := 0) rfl)
theorem kk_X5_meanInto_1 : Cond.fieldLink RX5 43 "PaidBySigns$OneSum" "lowLower" "J" ∈ wsX5_meanInto := pm_X5_meanInto_r1 _ (List.mem_of_getElem? (i := 1) rfl)
theorem kk_X5_meanInto_2 : Cond.fieldLink RX5 47 "PaidBySigns$OneSum" "lowUpper" "J" ∈ wsX5_meanInto := pm_X5_meanInto_r1 _ (List.mem_of_getElem? (i := 2) rfl)
theorem kk_X5_meanInto_3 : Cond.fieldLink RX5 54 "PaidBySigns$Fraction" "upper" "J" ∈ wsX5_meanInto := pm_X5_meanInto_r1 _ (List.mem_of_getElem? (i := 3) rfl)
theorem kk_X5_meanInto_4 : Cond.fieldLink RX5 59 "PaidBySigns$Fraction" "lower" "J" ∈ wsX5_meanInto := pm_X5_meanInto_r1 _ (List.mem_of_getElem? (i := 4) rfl)
theorem iw_X5_settle_X3 : ∀ w ∈ wsX30, w ∈ wsX5_settle := pw_X5_settle_X3
theorem iw_X5_isMet_X5 : ∀ w ∈ wsX50, w ∈ wsX5_isMet := by decide +kernel
theorem iw_X5_need_X5 : ∀ w ∈ wsX50, w ∈ wsX5_need := by decide +kernel
theorem iw_X5_settleWatched_X3 : ∀ w ∈ wsX30, w ∈ wsX5_settleWatched := pw_X5_settleWatched_X3
theorem iw_X5_meanInto_X3 : ∀ w ∈ wsX30, w ∈ wsX5_meanInto := pw_X5_meanInto_X3
theorem iw_X5_meanInto_X5 : ∀ w ∈ wsX50, w ∈ wsX5_meanInto := pw_X5_meanInto_X5
theorem iw_X5_meanInto_X2 : ∀ w ∈ wsX20, w ∈ wsX5_meanInto := pw_X5_meanInto_X2
