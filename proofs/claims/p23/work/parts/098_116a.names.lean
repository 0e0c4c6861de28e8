abbrev cX5_settleWatched : ByteArray := prog_7_method_3_code
def yX5_settleWatched : MethodName := ⟨RX5, "settleWatched", "(LPaidBySigns$Hire;II)Z"⟩
abbrev cX5_meanInto : ByteArray := prog_7_method_4_code
def yX5_meanInto : MethodName := ⟨RX5, "meanInto", "(LPaidBySigns$Fraction;LPaidBySigns$Hire;II)V"⟩
def tyX6 : Nat → FieldType := fun k => match k with
  | 0 => .int
  | 1 => .array .int
  | 2 => .int
  | _ => .array .int
abbrev wsX60 : List Cond := u_ws RX6 TX6 4
theorem nmX6 : ∀ a, a < 4 → ∀ b, b < 4 → a ≠ b → (TX6 a).2.1 ≠ (TX6 b).2.1 := by decide +kernel
theorem tyX6_ok : ∀ k, k < 4 → parseFieldDescriptor (TX6 k).2.2.1 = some (tyX6 k) := by decide +kernel
abbrev cX6_forget : ByteArray := prog_8_method_2_code
def yX6_forget : MethodName := ⟨RX6, "forget", "()V"⟩
abbrev cX6_changePress : ByteArray := prog_8_method_3_code
def yX6_changePress : MethodName := ⟨RX6, "changePress", "(II)I"⟩
abbrev cJ7_fill_53178 : ByteArray := prog_19_method_103_code
def yJ7_fill_53178 : MethodName := ⟨RJ7, "fill", "([II)V"⟩
def wsX5_settleWatched_r1 : List Cond := [Cond.fieldLink RX5 18 "PaidBySigns$Hire" "works" "I", Cond.fieldLink RX5 33 "PaidBySigns$Hire" "whole" "I", Cond.methodLink RX5 7 yX5_start, Cond.instanceMethod yX5_start, Cond.selects RX5 yX5_start yX5_start, Cond.initialized RX5, Cond.code yX5_start cX5_start 1 none, Cond.fieldLink RX5 47 "PaidBySigns$OneSum" "lowUpper" "J", Cond.fieldLink RX5 43 "PaidBySigns$OneSum" "lowLower" "J", Cond.fieldLink RX5 65 "PaidBySigns$OneSum" "capUpper" "J", Cond.fieldLink RX5 68 "PaidBySigns$OneSum" "capLower" "J", Cond.fieldLink RX5 71 "PaidBySigns$OneSum" "isBroken" "Z", Cond.methodLink RX5 22 yX3_lackOf, Cond.instanceMethod yX3_lackOf, Cond.selects RX3 yX3_lackOf yX3_lackOf, Cond.initialized RX3, Cond.code yX3_lackOf cX3_lackOf 3 (some .int), Cond.fieldLink RX3 15 "PaidBySigns$Hire" "costs" "[I", Cond.fieldLink RX3 42 "PaidBySigns$Hire" "otherwise" "I", Cond.fieldLink RX3 45 "PaidBySigns$Hire" "least" "I", Cond.methodLink RX3 63 yX3_feltOf, Cond.instanceMethod yX3_feltOf, Cond.selects RX3 yX3_feltOf yX3_feltOf, Cond.code yX3_feltOf cX3_feltOf 6 (some .int)]
def wsX5_settleWatched_r2 : List Cond := [Cond.fieldLink RX3 48 "PaidBySigns$Hire" "rates" "I", Cond.fieldLink RX3 26 "PaidBySigns$Hire" "mark" "[I", Cond.methodLink RX3 51 Lib.Math.min.name, Cond.static Lib.Math.min.name, Cond.initialized "java/lang/Math", Cond.code Lib.Math.min.name Lib.Math.min.code 2 (some .int), Cond.fieldLink RX3 23 "PaidBySigns$Hire" "rate" "[I", Cond.methodLink RX5 25 yX5_need, Cond.instanceMethod yX5_need, Cond.selects RX5 yX5_need yX5_need, Cond.code yX5_need cX5_need 5 none, Cond.methodLink RX5 29 yX5_isMet, Cond.instanceMethod yX5_isMet, Cond.selects RX5 yX5_isMet yX5_isMet, Cond.code yX5_isMet cX5_isMet 2 (some .boolean)]
def wsX5_settleWatched : List Cond := .code yX5_settleWatched cX5_settleWatched 5 (some .boolean) :: ((wsX5_settleWatched_r1 ++ wsX5_settleWatched_r2) ++ wsX30 ++ wsX50)
def wsX5_meanInto_r1 : List Cond := [Cond.fieldLink RX5 36 "PaidBySigns$Hire" "least" "I", Cond.fieldLink RX5 43 "PaidBySigns$OneSum" "lowLower" "J", Cond.fieldLink RX5 47 "PaidBySigns$OneSum" "lowUpper" "J", Cond.fieldLink RX5 54 "PaidBySigns$Fraction" "upper" "J", Cond.fieldLink RX5 59 "PaidBySigns$Fraction" "lower" "J", Cond.methodLink RX5 39 yX3_feltOf, Cond.instanceMethod yX3_feltOf, Cond.selects RX3 yX3_feltOf yX3_feltOf, Cond.initialized RX3, Cond.code yX3_feltOf cX3_feltOf 6 (some .int), Cond.fieldLink RX3 48 "PaidBySigns$Hire" "rates" "I", Cond.fieldLink RX3 26 "PaidBySigns$Hire" "mark" "[I", Cond.methodLink RX3 51 Lib.Math.min.name, Cond.static Lib.Math.min.name, Cond.initialized "java/lang/Math", Cond.code Lib.Math.min.name Lib.Math.min.code 2 (some .int), Cond.fieldLink RX3 23 "PaidBySigns$Hire" "rate" "[I", Cond.methodLink RX5 50 yX3_wageOf, Cond.instanceMethod yX3_wageOf, Cond.selects RX3 yX3_wageOf yX3_wageOf, Cond.code yX3_wageOf cX3_wageOf 13 none, Cond.methodLink RX3 57 yX2_become, Cond.instanceMethod yX2_become, Cond.selects RX2 yX2_become yX2_become]
def wsX5_meanInto_r2 : List Cond := [Cond.initialized RX2, Cond.code yX2_become cX2_become 7 none, Cond.methodLink RX2 20 Lib.MathLoose.abs_long.x, Cond.static Lib.MathLoose.abs_long.x, Cond.code Lib.MathLoose.abs_long.x Lib.MathLoose.abs_long.code 2 (some .long), Cond.fieldLink RX2 11 "PaidBySigns$Fraction" "upper" "J", Cond.fieldLink RX2 17 "PaidBySigns$Fraction" "lower" "J", Cond.methodLink RX2 26 yX2_commonPart, Cond.static yX2_commonPart, Cond.code yX2_commonPart cX2_commonPart 11 (some .long), Cond.methodLink RX2 30 yX2_forget, Cond.instanceMethod yX2_forget, Cond.selects RX2 yX2_forget yX2_forget, Cond.code yX2_forget cX2_forget 1 none, Cond.constantLong RX2 9 (-2000000000), Cond.methodLink RX5 62 yX2_become]
def wsX5_meanInto : List Cond := .code yX5_meanInto cX5_meanInto 9 none :: ((wsX5_meanInto_r1 ++ wsX5_meanInto_r2) ++ wsX30 ++ wsX50 ++ wsX20)
def wsJ7_fill_53178 : List Cond := .code yJ7_fill_53178 cJ7_fill_53178 4 none :: ([])
def wsX6_forget : List Cond := .code yX6_forget cX6_forget 1 none :: ([.fieldLink RX6 9 "PaidBySigns$Proofs" "lowerNumber" "I", .fieldLink RX6 19 "PaidBySigns$Proofs" "pressOfElse" "I", .fieldLink RX6 15 "PaidBySigns$Proofs" "press" "[I", .fieldLink RX6 22 "PaidBySigns$Proofs" "mixed" "[I", .methodLink RX6 25 yJ7_fill_53178, .static yJ7_fill_53178, .initialized RJ7, .code yJ7_fill_53178 cJ7_fill_53178 4 none] ++ wsX60)
def wsX6_changePress : List Cond := .code yX6_changePress cX6_changePress 4 (some .int) :: ([.fieldLink RX6 15 "PaidBySigns$Proofs" "press" "[I"] ++ wsX60)
theorem pm_X5_settleWatched_r1 : ∀ w ∈ wsX5_settleWatched_r1, w ∈ wsX5_settleWatched := fun _ h => List.mem_cons_of_mem _ (List.mem_append_left _ (List.mem_append_left _ (List.mem_append_left _ h)))
theorem pm_X5_settleWatched_r2 : ∀ w ∈ wsX5_settleWatched_r2, w ∈ wsX5_settleWatched := fun _ h => List.mem_cons_of_mem _ (List.mem_append_left _ (List.mem_append_left _ (List.mem_append_right _ (h))))
theorem pw_X5_settleWatched_X3 : ∀ w ∈ wsX30, w ∈ wsX5_settleWatched := fun _ h => List.mem_cons_of_mem _ (List.mem_append_left _ (List.mem_append_right _ h))
theorem pw_X5_settleWatched_X5 : ∀ w ∈ wsX50, w ∈ wsX5_settleWatched := fun _ h => List.mem_cons_of_mem _ (List.mem_append_right _ h)
set_option maxRecDepth 20000 in
theorem ggX5_settleWatched_X5_start : GoodIn wsX5_settleWatched wsX5_start := goodIn_sub (List.forall_mem_cons.mpr ⟨pm_X5_settleWatched_r1 _ (List.mem_of_getElem? (i := 6) rfl), List.forall_mem_append.mpr ⟨List.forall_mem_cons.mpr ⟨pm_X5_settleWatched_r1 _ (List.mem_of_getElem? (i := 7) rfl), List.forall_mem_cons.mpr ⟨pm_X5_settleWatched_r1 _ (List.mem_of_getElem? (i := 8) rfl), List.forall_mem_cons.mpr ⟨pm_X5_settleWatched_r1 _ (List.mem_of_getElem? (i := 9) rfl), List.forall_mem_cons.mpr ⟨pm_X5_settleWatched_r1 _ (List.mem_of_getElem? (i := 10) rfl), List.forall_mem_cons.mpr ⟨pm_X5_settleWatched_r1 _ (List.mem_of_getElem? (i := 11) rfl), fun _ h => absurd h List.not_mem_nil⟩⟩⟩⟩⟩, pw_X5_settleWatched_X5⟩⟩) (by decide +kernel)
set_option maxRecDepth 20000 in
theorem gX5_settleWatched_X5_start : GoodIn wsX5_settleWatched (wsV RX5 7 RX5 yX5_start wsX5_start) := goodIn_app (goodIn_sub (List.forall_mem_cons.mpr ⟨pm_X5_settleWatched_r1 _ (List.mem_of_getElem? (i := 2) rfl), List.forall_mem_cons.mpr ⟨pm_X5_settleWatched_r1 _ (List.mem_of_getElem? (i := 3) rfl), List.forall_mem_cons.mpr ⟨pm_X5_settleWatched_r1 _ (List.mem_of_getElem? (i := 4) rfl), List.forall_mem_cons.mpr ⟨pm_X5_settleWatched_r1 _ (List.mem_of_getElem? (i := 5) rfl), fun _ h => absurd h List.not_mem_nil⟩⟩⟩⟩) (by decide +kernel)) ggX5_settleWatched_X5_start
set_option maxRecDepth 20000 in
theorem ggX5_settleWatched_X3_lackOf : GoodIn wsX5_settleWatched wsX3_lackOf := goodIn_sub (List.forall_mem_cons.mpr ⟨pm_X5_settleWatched_r1 _ (List.mem_of_getElem? (i := 16) rfl), List.forall_mem_append.mpr ⟨List.forall_mem_cons.mpr ⟨pm_X5_settleWatched_r1 _ (List.mem_of_getElem? (i := 17) rfl), List.forall_mem_cons.mpr ⟨pm_X5_settleWatched_r1 _ (List.mem_of_getElem? (i := 18) rfl), List.forall_mem_cons.mpr ⟨pm_X5_settleWatched_r1 _ (List.mem_of_getElem? (i := 19) rfl), List.forall_mem_cons.mpr ⟨pm_X5_settleWatched_r1 _ (List.mem_of_getElem? (i := 20) rfl), List.forall_mem_cons.mpr ⟨pm_X5_settleWatched_r1 _ (List.mem_of_getElem? (i := 21) rfl), List.forall_mem_cons.mpr ⟨pm_X5_settleWatched_r1 _ (List.mem_of_getElem? (i := 22) rfl), List.forall_mem_cons.mpr ⟨pm_X5_settleWatched_r1 _ (List.mem_of_getElem? (i := 15) rfl), List.forall_mem_cons.mpr ⟨pm_X5_settleWatched_r1 _ (List.mem_of_getElem? (i := 23) rfl), List.forall_mem_cons.mpr ⟨pm_X5_settleWatched_r2 _ (List.mem_of_getElem? (i := 0) rfl), List.forall_mem_cons.mpr ⟨pm_X5_settleWatched_r2 _ (List.mem_of_getElem? (i := 1) rfl), List.forall_mem_cons.mpr ⟨pm_X5_settleWatched_r2 _ (List.mem_of_getElem? (i := 2) rfl), List.forall_mem_cons.mpr ⟨pm_X5_settleWatched_r2 _ (List.mem_of_getElem? (i := 3) rfl), List.forall_mem_cons.mpr ⟨pm_X5_settleWatched_r2 _ (List.mem_of_getElem? (i := 4) rfl), List.forall_mem_cons.mpr ⟨pm_X5_settleWatched_r2 _ (List.mem_of_getElem? (i := 5) rfl), List.forall_mem_cons.mpr ⟨pm_X5_settleWatched_r2 _ (List.mem_of_getElem? (i := 6) rfl), fun _ h => absurd h List.not_mem_nil⟩⟩⟩⟩⟩⟩⟩⟩⟩⟩⟩⟩⟩⟩⟩, pw_X5_settleWatched_X3⟩⟩) (by decide +kernel)
set_option maxRecDepth 20000 in
theorem gX5_settleWatched_X3_lackOf : GoodIn wsX5_settleWatched (wsV RX5 22 RX3 yX3_lackOf wsX3_lackOf) := goodIn_app (goodIn_sub (List.forall_mem_cons.mpr ⟨pm_X5_settleWatched_r1 _ (List.mem_of_getElem? (i := 12) rfl), List.forall_mem_cons.mpr ⟨pm_X5_settleWatched_r1 _ (List.mem_of_getElem? (i := 13) rfl), List.forall_mem_cons.mpr ⟨pm_X5_settleWatched_r1 _ (List.mem_of_getElem? (i := 14) rfl), List.forall_mem_cons.mpr ⟨pm_X5_settleWatched_r1 _ (List.mem_of_getElem? (i := 15) rfl), fun _ h => absurd h List.not_mem_nil⟩⟩⟩⟩) (by decide +kernel)) ggX5_settleWatched_X3_lackOf
set_option maxRecDepth 20000 in
theorem ggX5_settleWatched_X5_need : GoodIn wsX5_settleWatched wsX5_need := goodIn_sub (List.forall_mem_cons.mpr ⟨pm_X5_settleWatched_r2 _ (List.mem_of_getElem? (i := 10) rfl), List.forall_mem_append.mpr ⟨List.forall_mem_cons.mpr ⟨pm_X5_settleWatched_r1 _ (List.mem_of_getElem? (i := 8) rfl), List.forall_mem_cons.mpr ⟨pm_X5_settleWatched_r1 _ (List.mem_of_getElem? (i := 7) rfl), List.forall_mem_cons.mpr ⟨pm_X5_settleWatched_r1 _ (List.mem_of_getElem? (i := 11) rfl), List.forall_mem_cons.mpr ⟨pm_X5_settleWatched_r1 _ (List.mem_of_getElem? (i := 10) rfl), List.forall_mem_cons.mpr ⟨pm_X5_settleWatched_r1 _ (List.mem_of_getElem? (i := 9) rfl), fun _ h => absurd h List.not_mem_nil⟩⟩⟩⟩⟩, pw_X5_settleWatched_X5⟩⟩) (by decide +kernel)
set_option maxRecDepth 20000 in
theorem gX5_settleWatched_X5_need : GoodIn wsX5_settleWatched (wsV RX5 25 RX5 yX5_need wsX5_need) := goodIn_app (goodIn_sub (List.forall_mem_cons.mpr ⟨pm_X5_settleWatched_r2 _ (List.mem_of_getElem? (i := 7) rfl), List.forall_mem_cons.mpr ⟨pm_X5_settleWatched_r2 _ (List.mem_of_getElem? (i := 8) rfl), List.forall_mem_cons.mpr ⟨pm_X5_settleWatched_r2 _ (List.mem_of_getElem? (i := 9) rfl), List.forall_mem_cons.mpr ⟨pm_X5_settleWatched_r1 _ (List.mem_of_getElem? (i := 5) rfl), fun _ h => absurd h List.not_mem_nil⟩⟩⟩⟩) (by decide +kernel)) ggX5_settleWatched_X5_need
set_option maxRecDepth 20000 in
theorem ggX5_settleWatched_X5_isMet : GoodIn wsX5_settleWatched wsX5_isMet := goodIn_sub (List.forall_mem_cons.mpr ⟨pm_X5_settleWatched_r2 _ (List.mem_of_getElem? (i := 14) rfl), List.forall_mem_append.mpr ⟨List.forall_mem_cons.mpr ⟨pm_X5_settleWatched_r1 _ (List.mem_of_getElem? (i := 10) rfl), List.forall_mem_cons.mpr ⟨pm_X5_settleWatched_r1 _ (List.mem_of_getElem? (i := 7) rfl), List.forall_mem_cons.mpr ⟨pm_X5_settleWatched_r1 _ (List.mem_of_getElem? (i := 9) rfl), List.forall_mem_cons.mpr ⟨pm_X5_settleWatched_r1 _ (List.mem_of_getElem? (i := 8) rfl), List.forall_mem_cons.mpr ⟨pm_X5_settleWatched_r1 _ (List.mem_of_getElem? (i := 11) rfl), fun _ h => absurd h List.not_mem_nil⟩⟩⟩⟩⟩, pw_X5_settleWatched_X5⟩⟩) (by decide +kernel)
set_option maxRecDepth 20000 in
theorem gX5_settleWatched_X5_isMet : GoodIn wsX5_settleWatched (wsV RX5 29 RX5 yX5_isMet wsX5_isMet) := goodIn_app (goodIn_sub (List.forall_mem_cons.mpr ⟨pm_X5_settleWatched_r2 _ (List.mem_of_getElem? (i := 11) rfl), List.forall_mem_cons.mpr ⟨pm_X5_settleWatched_r2 _ (List.mem_of_getElem? (i := 12) rfl), List.forall_mem_cons.mpr ⟨pm_X5_settleWatched_r2 _ (List.mem_of_getElem? (i := 13) rfl), List.forall_mem_cons.mpr ⟨pm_X5_settleWatched_r1 _ (List.mem_of_getElem? (i := 5) rfl), fun _ h => absurd h List.not_mem_nil⟩⟩⟩⟩) (by decide +kernel)) ggX5_settleWatched_X5_isMet
theorem bX5_settleWatched_0 : ((bys cX5_settleWatched).drop 0).take 16 = [42, 182, 0, 7, 3, 54, 4, 21, 4, 43, 180, 0, 18, 162, 0, 43] := by decide +kernel
theorem dX5_settleWatched_0 : decode cX5_settleWatched 0 = .ok (.aload_n 0, 1) := do_42 (byt_at bX5_settleWatched_0 (j := 0) rfl)
theorem dX5_settleWatched_1 : decode cX5_settleWatched 1 = .ok (.invokevirtual 7, 3) := do_182 0 7 (byt_at bX5_settleWatched_0 (j := 1) rfl) (byt_at bX5_settleWatched_0 (j := 2) rfl) (byt_at bX5_settleWatched_0 (j := 3) rfl)
theorem dX5_settleWatched_4 : decode cX5_settleWatched 4 = .ok (.iconst 0, 1) := do_3 (byt_at bX5_settleWatched_0 (j := 4) rfl)
theorem dX5_settleWatched_5 : decode cX5_settleWatched 5 = .ok (.istore 4, 2) := do_54 4 (byt_at bX5_settleWatched_0 (j := 5) rfl) (byt_at bX5_settleWatched_0 (j := 6) rfl)
theorem dX5_settleWatched_7 : decode cX5_settleWatched 7 = .ok (.iload 4, 2) := do_21 4 (byt_at bX5_settleWatched_0 (j := 7) rfl) (byt_at bX5_settleWatched_0 (j := 8) rfl)
theorem dX5_settleWatched_9 : decode cX5_settleWatched 9 = .ok (.aload_n 1, 1) := do_43 (byt_at bX5_settleWatched_0 (j := 9) rfl)
theorem dX5_settleWatched_10 : decode cX5_settleWatched 10 = .ok (.getfield 18, 3) := do_180 0 18 (byt_at bX5_settleWatched_0 (j := 10) rfl) (byt_at bX5_settleWatched_0 (j := 11) rfl) (byt_at bX5_settleWatched_0 (j := 12) rfl)
theorem dX5_settleWatched_13 : decode cX5_settleWatched 13 = .ok (.if_icmp .ge 43, 3) := do_162 0 43 (byt_at bX5_settleWatched_0 (j := 13) rfl) (byt_at bX5_settleWatched_0 (j := 14) rfl) (byt_at bX5_settleWatched_0 (j := 15) rfl) (by decide)
theorem bX5_settleWatched_1 : ((bys cX5_settleWatched).drop 16).take 16 = [42, 21, 4, 28, 160, 0, 11, 43, 180, 0, 33, 133, 167, 0, 5, 29] := by decide +kernel
theorem dX5_settleWatched_16 : decode cX5_settleWatched 16 = .ok (.aload_n 0, 1) := do_42 (byt_at bX5_settleWatched_1 (j := 0) rfl)
theorem dX5_settleWatched_17 : decode cX5_settleWatched 17 = .ok (.iload 4, 2) := do_21 4 (byt_at bX5_settleWatched_1 (j := 1) rfl) (byt_at bX5_settleWatched_1 (j := 2) rfl)
theorem dX5_settleWatched_19 : decode cX5_settleWatched 19 = .ok (.iload_n 2, 1) := do_28 (byt_at bX5_settleWatched_1 (j := 3) rfl)
theorem dX5_settleWatched_20 : decode cX5_settleWatched 20 = .ok (.if_icmp .ne 11, 3) := do_160 0 11 (byt_at bX5_settleWatched_1 (j := 4) rfl) (byt_at bX5_settleWatched_1 (j := 5) rfl) (byt_at bX5_settleWatched_1 (j := 6) rfl) (by decide)
theorem dX5_settleWatched_23 : decode cX5_settleWatched 23 = .ok (.aload_n 1, 1) := do_43 (byt_at bX5_settleWatched_1 (j := 7) rfl)
theorem dX5_settleWatched_24 : decode cX5_settleWatched 24 = .ok (.getfield 33, 3) := do_180 0 33 (byt_at bX5_settleWatched_1 (j := 8) rfl) (byt_at bX5_settleWatched_1 (j := 9) rfl) (byt_at bX5_settleWatched_1 (j := 10) rfl)
theorem dX5_settleWatched_27 : decode cX5_settleWatched 27 = .ok (.i2l, 1) := do_133 (byt_at bX5_settleWatched_1 (j := 11) rfl)
theorem dX5_settleWatched_28 : decode cX5_settleWatched 28 = .ok (.goto 5, 3) := do_167 0 5 (byt_at bX5_settleWatched_1 (j := 12) rfl) (byt_at bX5_settleWatched_1 (j := 13) rfl) (byt_at bX5_settleWatched_1 (j := 14) rfl) (by decide)
theorem dX5_settleWatched_31 : decode cX5_settleWatched 31 = .ok (.iload_n 3, 1) := do_29 (byt_at bX5_settleWatched_1 (j := 15) rfl)
theorem bX5_settleWatched_2 : ((bys cX5_settleWatched).drop 32).take 16 = [133, 43, 180, 0, 33, 133, 43, 28, 21, 4, 182, 0, 22, 133, 105, 182] := by decide +kernel
theorem dX5_settleWatched_32 : decode cX5_settleWatched 32 = .ok (.i2l, 1) := do_133 (byt_at bX5_settleWatched_2 (j := 0) rfl)
theorem dX5_settleWatched_33 : decode cX5_settleWatched 33 = .ok (.aload_n 1, 1) := do_43 (byt_at bX5_settleWatched_2 (j := 1) rfl)
theorem dX5_settleWatched_34 : decode cX5_settleWatched 34 = .ok (.getfield 33, 3) := do_180 0 33 (byt_at bX5_settleWatched_2 (j := 2) rfl) (byt_at bX5_settleWatched_2 (j := 3) rfl) (byt_at bX5_settleWatched_2 (j := 4) rfl)
theorem dX5_settleWatched_37 : decode cX5_settleWatched 37 = .ok (.i2l, 1) := do_133 (byt_at bX5_settleWatched_2 (j := 5) rfl)
theorem dX5_settleWatched_38 : decode cX5_settleWatched 38 = .ok (.aload_n 1, 1) := do_43 (byt_at bX5_settleWatched_2 (j := 6) rfl)
theorem dX5_settleWatched_39 : decode cX5_settleWatched 39 = .ok (.iload_n 2, 1) := do_28 (byt_at bX5_settleWatched_2 (j := 7) rfl)
theorem dX5_settleWatched_40 : decode cX5_settleWatched 40 = .ok (.iload 4, 2) := do_21 4 (byt_at bX5_settleWatched_2 (j := 8) rfl) (byt_at bX5_settleWatched_2 (j := 9) rfl)
theorem dX5_settleWatched_42 : decode cX5_settleWatched 42 = .ok (.invokevirtual 22, 3) := do_182 0 22 (byt_at bX5_settleWatched_2 (j := 10) rfl) (byt_at bX5_settleWatched_2 (j := 11) rfl) (byt_at bX5_settleWatched_2 (j := 12) rfl)
theorem dX5_settleWatched_45 : decode cX5_settleWatched 45 = .ok (.i2l, 1) := do_133 (byt_at bX5_settleWatched_2 (j := 13) rfl)
theorem dX5_settleWatched_46 : decode cX5_settleWatched 46 = .ok (.lmul, 1) := do_105 (byt_at bX5_settleWatched_2 (j := 14) rfl)
theorem bX5_settleWatched_3 : ((bys cX5_settleWatched).drop 48).take 16 = [0, 25, 132, 4, 1, 167, 255, 210, 42, 182, 0, 29, 172] := by decide +kernel
theorem dX5_settleWatched_47 : decode cX5_settleWatched 47 = .ok (.invokevirtual 25, 3) := do_182 0 25 (byt_at bX5_settleWatched_2 (j := 15) rfl) (byt_at bX5_settleWatched_3 (j := 0) rfl) (byt_at bX5_settleWatched_3 (j := 1) rfl)
theorem dX5_settleWatched_50 : decode cX5_settleWatched 50 = .ok (.iinc 4 1, 3) := do_132 4 1 (byt_at bX5_settleWatched_3 (j := 2) rfl) (byt_at bX5_settleWatched_3 (j := 3) rfl) (byt_at bX5_settleWatched_3 (j := 4) rfl) (by decide)
theorem dX5_settleWatched_53 : decode cX5_settleWatched 53 = .ok (.goto (-46), 3) := do_167 255 210 (byt_at bX5_settleWatched_3 (j := 5) rfl) (byt_at bX5_settleWatched_3 (j := 6) rfl) (byt_at bX5_settleWatched_3 (j := 7) rfl) (by decide)
theorem dX5_settleWatched_56 : decode cX5_settleWatched 56 = .ok (.aload_n 0, 1) := do_42 (byt_at bX5_settleWatched_3 (j := 8) rfl)
theorem dX5_settleWatched_57 : decode cX5_settleWatched 57 = .ok (.invokevirtual 29, 3) := do_182 0 29 (byt_at bX5_settleWatched_3 (j := 9) rfl) (byt_at bX5_settleWatched_3 (j := 10) rfl) (byt_at bX5_settleWatched_3 (j := 11) rfl)
theorem dX5_settleWatched_60 : decode cX5_settleWatched 60 = .ok (.ireturn, 1) := do_172 (byt_at bX5_settleWatched_3 (j := 12) rfl)
theorem pm_X5_meanInto_r1 : ∀ w ∈ wsX5_meanInto_r1, w ∈ wsX5_meanInto := fun _ h => List.mem_cons_of_mem _ (List.mem_append_left _ (List.mem_append_left _ (List.mem_append_left _ (List.mem_append_left _ h))))
theorem pm_X5_meanInto_r2 : ∀ w ∈ wsX5_meanInto_r2, w ∈ wsX5_meanInto := fun _ h => List.mem_cons_of_mem _ (List.mem_append_left _ (List.mem_append_left _ (List.mem_append_left _ (List.mem_append_right _ (h)))))
theorem pw_X5_meanInto_X3 : ∀ w ∈ wsX30, w ∈ wsX5_meanInto := fun _ h => List.mem_cons_of_mem _ (List.mem_append_left _ (List.mem_append_left _ (List.mem_append_right _ h)))
theorem pw_X5_meanInto_X5 : ∀ w ∈ wsX50, w ∈ wsX5_meanInto := fun _ h => List.mem_cons_of_mem _ (List.mem_append_left _ (List.mem_append_right _ h))
theorem pw_X5_meanInto_X2 : ∀ w ∈ wsX20, w ∈ wsX5_meanInto := fun _ h => List.mem_cons_of_mem _ (List.mem_append_right _ h)
set_option maxRecDepth 20000 in
theorem ggX5_meanInto_X3_feltOf : GoodIn wsX5_meanInto wsX3_feltOf := goodIn_sub (List.forall_mem_cons.mpr ⟨pm_X5_meanInto_r1 _ (List.mem_of_getElem? (i := 9) rfl), List.forall_mem_append.mpr ⟨List.forall_mem_cons.mpr ⟨pm_X5_meanInto_r1 _ (List.mem_of_getElem? (i := 10) rfl), List.forall_mem_cons.mpr ⟨pm_X5_meanInto_r1 _ (List.mem_of_getElem? (i := 11) rfl), List.forall_mem_cons.mpr ⟨pm_X5_meanInto_r1 _ (List.mem_of_getElem? (i := 12) rfl), List.forall_mem_cons.mpr ⟨pm_X5_meanInto_r1 _ (List.mem_of_getElem? (i := 13) rfl), List.forall_mem_cons.mpr ⟨pm_X5_meanInto_r1 _ (List.mem_of_getElem? (i := 14) rfl), List.forall_mem_cons.mpr ⟨pm_X5_meanInto_r1 _ (List.mem_of_getElem? (i := 15) rfl), List.forall_mem_cons.mpr ⟨pm_X5_meanInto_r1 _ (List.mem_of_getElem? (i := 16) rfl), fun _ h => absurd h List.not_mem_nil⟩⟩⟩⟩⟩⟩⟩, pw_X5_meanInto_X3⟩⟩) (by decide +kernel)
set_option maxRecDepth 20000 in
theorem gX5_meanInto_X3_feltOf : GoodIn wsX5_meanInto (wsV RX5 39 RX3 yX3_feltOf wsX3_feltOf) := goodIn_app (goodIn_sub (List.forall_mem_cons.mpr ⟨pm_X5_meanInto_r1 _ (List.mem_of_getElem? (i := 5) rfl), List.forall_mem_cons.mpr ⟨pm_X5_meanInto_r1 _ (List.mem_of_getElem? (i := 6) rfl), List.forall_mem_cons.mpr ⟨pm_X5_meanInto_r1 _ (List.mem_of_getElem? (i := 7) rfl), List.forall_mem_cons.mpr ⟨pm_X5_meanInto_r1 _ (List.mem_of_getElem? (i := 8) rfl), fun _ h => absurd h List.not_mem_nil⟩⟩⟩⟩) (by decide +kernel)) ggX5_meanInto_X3_feltOf
set_option maxRecDepth 20000 in
theorem ggX5_meanInto_X3_wageOf : GoodIn wsX5_meanInto wsX3_wageOf := goodIn_sub (List.forall_mem_cons.mpr ⟨pm_X5_meanInto_r1 _ (List.mem_of_getElem? (i := 20) rfl), List.forall_mem_append.mpr ⟨List.forall_mem_append.mpr ⟨List.forall_mem_cons.mpr ⟨pm_X5_meanInto_r1 _ (List.mem_of_getElem? (i := 10) rfl), List.forall_mem_cons.mpr ⟨pm_X5_meanInto_r1 _ (List.mem_of_getElem? (i := 16) rfl), List.forall_mem_cons.mpr ⟨pm_X5_meanInto_r1 _ (List.mem_of_getElem? (i := 11) rfl), List.forall_mem_cons.mpr ⟨pm_X5_meanInto_r1 _ (List.mem_of_getElem? (i := 21) rfl), List.forall_mem_cons.mpr ⟨pm_X5_meanInto_r1 _ (List.mem_of_getElem? (i := 22) rfl), List.forall_mem_cons.mpr ⟨pm_X5_meanInto_r1 _ (List.mem_of_getElem? (i := 23) rfl), List.forall_mem_cons.mpr ⟨pm_X5_meanInto_r2 _ (List.mem_of_getElem? (i := 0) rfl), List.forall_mem_cons.mpr ⟨pm_X5_meanInto_r2 _ (List.mem_of_getElem? (i := 1) rfl), List.forall_mem_cons.mpr ⟨pm_X5_meanInto_r2 _ (List.mem_of_getElem? (i := 2) rfl), List.forall_mem_cons.mpr ⟨pm_X5_meanInto_r2 _ (List.mem_of_getElem? (i := 3) rfl), List.forall_mem_cons.mpr ⟨pm_X5_meanInto_r1 _ (List.mem_of_getElem? (i := 14) rfl), List.forall_mem_cons.mpr ⟨pm_X5_meanInto_r2 _ (List.mem_of_getElem? (i := 4) rfl), List.forall_mem_cons.mpr ⟨pm_X5_meanInto_r2 _ (List.mem_of_getElem? (i := 5) rfl), List.forall_mem_cons.mpr ⟨pm_X5_meanInto_r2 _ (List.mem_of_getElem? (i := 6) rfl), List.forall_mem_cons.mpr ⟨pm_X5_meanInto_r2 _ (List.mem_of_getElem? (i := 7) rfl), List.forall_mem_cons.mpr ⟨pm_X5_meanInto_r2 _ (List.mem_of_getElem? (i := 8) rfl), List.forall_mem_cons.mpr ⟨pm_X5_meanInto_r2 _ (List.mem_of_getElem? (i := 9) rfl), List.forall_mem_cons.mpr ⟨pm_X5_meanInto_r2 _ (List.mem_of_getElem? (i := 10) rfl), List.forall_mem_cons.mpr ⟨pm_X5_meanInto_r2 _ (List.mem_of_getElem? (i := 11) rfl), List.forall_mem_cons.mpr ⟨pm_X5_meanInto_r2 _ (List.mem_of_getElem? (i := 12) rfl), List.forall_mem_cons.mpr ⟨pm_X5_meanInto_r2 _ (List.mem_of_getElem? (i := 13) rfl), List.forall_mem_cons.mpr ⟨pm_X5_meanInto_r2 _ (List.mem_of_getElem? (i := 14) rfl), fun _ h => absurd h List.not_mem_nil⟩⟩⟩⟩⟩⟩⟩⟩⟩⟩⟩⟩⟩⟩⟩⟩⟩⟩⟩⟩⟩⟩, pw_X5_meanInto_X3⟩, pw_X5_meanInto_X2⟩⟩) (by decide +kernel)
set_option maxRecDepth 20000 in
theorem gX5_meanInto_X3_wageOf : GoodIn wsX5_meanInto (wsV RX5 50 RX3 yX3_wageOf wsX3_wageOf) := goodIn_app (goodIn_sub (List.forall_mem_cons.mpr ⟨pm_X5_meanInto_r1 _ (List.mem_of_getElem? (i := 17) rfl), List.forall_mem_cons.mpr ⟨pm_X5_meanInto_r1 _ (List.mem_of_getElem? (i := 18) rfl), List.forall_mem_cons.mpr ⟨pm_X5_meanInto_r1 _ (List.mem_of_getElem? (i := 19) rfl), List.forall_mem_cons.mpr ⟨pm_X5_meanInto_r1 _ (List.mem_of_getElem? (i := 8) rfl), fun _ h => absurd h List.not_mem_nil⟩⟩⟩⟩) (by decide +kernel)) ggX5_meanInto_X3_wageOf
set_option maxRecDepth 20000 in
theorem ggX5_meanInto_X2_become : GoodIn wsX5_meanInto wsX2_become := goodIn_sub (List.forall_mem_cons.mpr ⟨pm_X5_meanInto_r2 _ (List.mem_of_getElem? (i := 1) rfl), List.forall_mem_append.mpr ⟨List.forall_mem_cons.mpr ⟨pm_X5_meanInto_r2 _ (List.mem_of_getElem? (i := 2) rfl), List.forall_mem_cons.mpr ⟨pm_X5_meanInto_r2 _ (List.mem_of_getElem? (i := 3) rfl), List.forall_mem_cons.mpr ⟨pm_X5_meanInto_r1 _ (List.mem_of_getElem? (i := 14) rfl), List.forall_mem_cons.mpr ⟨pm_X5_meanInto_r2 _ (List.mem_of_getElem? (i := 4) rfl), List.forall_mem_cons.mpr ⟨pm_X5_meanInto_r2 _ (List.mem_of_getElem? (i := 5) rfl), List.forall_mem_cons.mpr ⟨pm_X5_meanInto_r2 _ (List.mem_of_getElem? (i := 6) rfl), List.forall_mem_cons.mpr ⟨pm_X5_meanInto_r2 _ (List.mem_of_getElem? (i := 7) rfl), List.forall_mem_cons.mpr ⟨pm_X5_meanInto_r2 _ (List.mem_of_getElem? (i := 8) rfl), List.forall_mem_cons.mpr ⟨pm_X5_meanInto_r2 _ (List.mem_of_getElem? (i := 0) rfl), List.forall_mem_cons.mpr ⟨pm_X5_meanInto_r2 _ (List.mem_of_getElem? (i := 9) rfl), List.forall_mem_cons.mpr ⟨pm_X5_meanInto_r2 _ (List.mem_of_getElem? (i := 10) rfl), List.forall_mem_cons.mpr ⟨pm_X5_meanInto_r2 _ (List.mem_of_getElem? (i := 11) rfl), List.forall_mem_cons.mpr ⟨pm_X5_meanInto_r2 _ (List.mem_of_getElem? (i := 12) rfl), List.forall_mem_cons.mpr ⟨pm_X5_meanInto_r2 _ (List.mem_of_getElem? (i := 13) rfl), List.forall_mem_cons.mpr ⟨pm_X5_meanInto_r2 _ (List.mem_of_getElem? (i := 14) rfl), fun _ h => absurd h List.not_mem_nil⟩⟩⟩⟩⟩⟩⟩⟩⟩⟩⟩⟩⟩⟩⟩, pw_X5_meanInto_X2⟩⟩) (by decide +kernel)
set_option maxRecDepth 20000 in
theorem gX5_meanInto_X2_become : GoodIn wsX5_meanInto (wsV RX5 62 RX2 yX2_become wsX2_become) := goodIn_app (goodIn_sub (List.forall_mem_cons.mpr ⟨pm_X5_meanInto_r2 _ (List.mem_of_getElem? (i := 15) rfl), List.forall_mem_cons.mpr ⟨pm_X5_meanInto_r1 _ (List.mem_of_getElem? (i := 22) rfl), List.forall_mem_cons.mpr ⟨pm_X5_meanInto_r1 _ (List.mem_of_getElem? (i := 23) rfl), List.forall_mem_cons.mpr ⟨pm_X5_meanInto_r2 _ (List.mem_of_getElem? (i := 0) rfl), fun _ h => absurd h List.not_mem_nil⟩⟩⟩⟩) (by decide +kernel)) ggX5_meanInto_X2_become
theorem bX5_meanInto_0 : ((bys cX5_meanInto).drop 0).take 16 = [44, 44, 180, 0, 36, 182, 0, 39, 133, 55, 5, 44, 22, 5, 42, 180] := by decide +kernel
theorem dX5_meanInto_0 : decode cX5_meanInto 0 = .ok (.aload_n 2, 1) := do_44 (byt_at bX5_meanInto_0 (j := 0) rfl)
theorem dX5_meanInto_1 : decode cX5_meanInto 1 = .ok (.aload_n 2, 1) := do_44 (byt_at bX5_meanInto_0 (j := 1) rfl)
theorem dX5_meanInto_2 : decode cX5_meanInto 2 = .ok (.getfield 36, 3) := do_180 0 36 (byt_at bX5_meanInto_0 (j := 2) rfl) (byt_at bX5_meanInto_0 (j := 3) rfl) (byt_at bX5_meanInto_0 (j := 4) rfl)
theorem dX5_meanInto_5 : decode cX5_meanInto 5 = .ok (.invokevirtual 39, 3) := do_182 0 39 (byt_at bX5_meanInto_0 (j := 5) rfl) (byt_at bX5_meanInto_0 (j := 6) rfl) (byt_at bX5_meanInto_0 (j := 7) rfl)
theorem dX5_meanInto_8 : decode cX5_meanInto 8 = .ok (.i2l, 1) := do_133 (byt_at bX5_meanInto_0 (j := 8) rfl)
theorem dX5_meanInto_9 : decode cX5_meanInto 9 = .ok (.lstore 5, 2) := do_55 5 (byt_at bX5_meanInto_0 (j := 9) rfl) (byt_at bX5_meanInto_0 (j := 10) rfl)
theorem dX5_meanInto_11 : decode cX5_meanInto 11 = .ok (.aload_n 2, 1) := do_44 (byt_at bX5_meanInto_0 (j := 11) rfl)
theorem dX5_meanInto_12 : decode cX5_meanInto 12 = .ok (.lload 5, 2) := do_22 5 (byt_at bX5_meanInto_0 (j := 12) rfl) (byt_at bX5_meanInto_0 (j := 13) rfl)
theorem dX5_meanInto_14 : decode cX5_meanInto 14 = .ok (.aload_n 0, 1) := do_42 (byt_at bX5_meanInto_0 (j := 14) rfl)
theorem bX5_meanInto_1 : ((bys cX5_meanInto).drop 16).take 16 = [0, 43, 105, 42, 180, 0, 47, 97, 42, 180, 0, 43, 43, 182, 0, 50] := by decide +kernel
theorem dX5_meanInto_15 : decode cX5_meanInto 15 = .ok (.getfield 43, 3) := do_180 0 43 (byt_at bX5_meanInto_0 (j := 15) rfl) (byt_at bX5_meanInto_1 (j := 0) rfl) (byt_at bX5_meanInto_1 (j := 1) rfl)
theorem dX5_meanInto_18 : decode cX5_meanInto 18 = .ok (.lmul, 1) := do_105 (byt_at bX5_meanInto_1 (j := 2) rfl)
theorem dX5_meanInto_19 : decode cX5_meanInto 19 = .ok (.aload_n 0, 1) := do_42 (byt_at bX5_meanInto_1 (j := 3) rfl)
theorem dX5_meanInto_20 : decode cX5_meanInto 20 = .ok (.getfield 47, 3) := do_180 0 47 (byt_at bX5_meanInto_1 (j := 4) rfl) (byt_at bX5_meanInto_1 (j := 5) rfl) (byt_at bX5_meanInto_1 (j := 6) rfl)
theorem dX5_meanInto_23 : decode cX5_meanInto 23 = .ok (.ladd, 1) := do_97 (byt_at bX5_meanInto_1 (j := 7) rfl)
theorem dX5_meanInto_24 : decode cX5_meanInto 24 = .ok (.aload_n 0, 1) := do_42 (byt_at bX5_meanInto_1 (j := 8) rfl)
theorem dX5_meanInto_25 : decode cX5_meanInto 25 = .ok (.getfield 43, 3) := do_180 0 43 (byt_at bX5_meanInto_1 (j := 9) rfl) (byt_at bX5_meanInto_1 (j := 10) rfl) (byt_at bX5_meanInto_1 (j := 11) rfl)
theorem dX5_meanInto_28 : decode cX5_meanInto 28 = .ok (.aload_n 1, 1) := do_43 (byt_at bX5_meanInto_1 (j := 12) rfl)
theorem dX5_meanInto_29 : decode cX5_meanInto 29 = .ok (.invokevirtual 50, 3) := do_182 0 50 (byt_at bX5_meanInto_1 (j := 13) rfl) (byt_at bX5_meanInto_1 (j := 14) rfl) (byt_at bX5_meanInto_1 (j := 15) rfl)
theorem bX5_meanInto_2 : ((bys cX5_meanInto).drop 32).take 16 = [29, 133, 43, 180, 0, 54, 105, 21, 4, 29, 100, 133, 44, 180, 0, 36] := by decide +kernel
theorem dX5_meanInto_32 : decode cX5_meanInto 32 = .ok (.iload_n 3, 1) := do_29 (byt_at bX5_meanInto_2 (j := 0) rfl)
theorem dX5_meanInto_33 : decode cX5_meanInto 33 = .ok (.i2l, 1) := do_133 (byt_at bX5_meanInto_2 (j := 1) rfl)
theorem dX5_meanInto_34 : decode cX5_meanInto 34 = .ok (.aload_n 1, 1) := do_43 (byt_at bX5_meanInto_2 (j := 2) rfl)
theorem dX5_meanInto_35 : decode cX5_meanInto 35 = .ok (.getfield 54, 3) := do_180 0 54 (byt_at bX5_meanInto_2 (j := 3) rfl) (byt_at bX5_meanInto_2 (j := 4) rfl) (byt_at bX5_meanInto_2 (j := 5) rfl)
theorem dX5_meanInto_38 : decode cX5_meanInto 38 = .ok (.lmul, 1) := do_105 (byt_at bX5_meanInto_2 (j := 6) rfl)
theorem dX5_meanInto_39 : decode cX5_meanInto 39 = .ok (.iload 4, 2) := do_21 4 (byt_at bX5_meanInto_2 (j := 7) rfl) (byt_at bX5_meanInto_2 (j := 8) rfl)
theorem dX5_meanInto_41 : decode cX5_meanInto 41 = .ok (.iload_n 3, 1) := do_29 (byt_at bX5_meanInto_2 (j := 9) rfl)
theorem dX5_meanInto_42 : decode cX5_meanInto 42 = .ok (.isub, 1) := do_100 (byt_at bX5_meanInto_2 (j := 10) rfl)
theorem dX5_meanInto_43 : decode cX5_meanInto 43 = .ok (.i2l, 1) := do_133 (byt_at bX5_meanInto_2 (j := 11) rfl)
theorem dX5_meanInto_44 : decode cX5_meanInto 44 = .ok (.aload_n 2, 1) := do_44 (byt_at bX5_meanInto_2 (j := 12) rfl)
theorem dX5_meanInto_45 : decode cX5_meanInto 45 = .ok (.getfield 36, 3) := do_180 0 36 (byt_at bX5_meanInto_2 (j := 13) rfl) (byt_at bX5_meanInto_2 (j := 14) rfl) (byt_at bX5_meanInto_2 (j := 15) rfl)
theorem bX5_meanInto_3 : ((bys cX5_meanInto).drop 48).take 16 = [133, 105, 43, 180, 0, 59, 105, 97, 55, 7, 43, 22, 7, 21, 4, 133] := by decide +kernel
theorem dX5_meanInto_48 : decode cX5_meanInto 48 = .ok (.i2l, 1) := do_133 (byt_at bX5_meanInto_3 (j := 0) rfl)
theorem dX5_meanInto_49 : decode cX5_meanInto 49 = .ok (.lmul, 1) := do_105 (byt_at bX5_meanInto_3 (j := 1) rfl)
theorem dX5_meanInto_50 : decode cX5_meanInto 50 = .ok (.aload_n 1, 1) := do_43 (byt_at bX5_meanInto_3 (j := 2) rfl)
theorem dX5_meanInto_51 : decode cX5_meanInto 51 = .ok (.getfield 59, 3) := do_180 0 59 (byt_at bX5_meanInto_3 (j := 3) rfl) (byt_at bX5_meanInto_3 (j := 4) rfl) (byt_at bX5_meanInto_3 (j := 5) rfl)
theorem dX5_meanInto_54 : decode cX5_meanInto 54 = .ok (.lmul, 1) := do_105 (byt_at bX5_meanInto_3 (j := 6) rfl)
theorem dX5_meanInto_55 : decode cX5_meanInto 55 = .ok (.ladd, 1) := do_97 (byt_at bX5_meanInto_3 (j := 7) rfl)
theorem dX5_meanInto_56 : decode cX5_meanInto 56 = .ok (.lstore 7, 2) := do_55 7 (byt_at bX5_meanInto_3 (j := 8) rfl) (byt_at bX5_meanInto_3 (j := 9) rfl)
theorem dX5_meanInto_58 : decode cX5_meanInto 58 = .ok (.aload_n 1, 1) := do_43 (byt_at bX5_meanInto_3 (j := 10) rfl)
theorem dX5_meanInto_59 : decode cX5_meanInto 59 = .ok (.lload 7, 2) := do_22 7 (byt_at bX5_meanInto_3 (j := 11) rfl) (byt_at bX5_meanInto_3 (j := 12) rfl)
theorem dX5_meanInto_61 : decode cX5_meanInto 61 = .ok (.iload 4, 2) := do_21 4 (byt_at bX5_meanInto_3 (j := 13) rfl) (byt_at bX5_meanInto_3 (j := 14) rfl)
theorem dX5_meanInto_63 : decode cX5_meanInto 63 = .ok (.i2l, 1) := do_133 (byt_at bX5_meanInto_3 (j := 15) rfl)
theorem bX5_meanInto_4 : ((bys cX5_meanInto).drop 64).take 16 = [43, 180, 0, 59, 105, 182, 0, 62, 177] := by decide +kernel
theorem dX5_meanInto_64 : decode cX5_meanInto 64 = .ok (.aload_n 1, 1) := do_43 (byt_at bX5_meanInto_4 (j := 0) rfl)
theorem dX5_meanInto_65 : decode cX5_meanInto 65 = .ok (.getfield 59, 3) := do_180 0 59 (byt_at bX5_meanInto_4 (j := 1) rfl) (byt_at bX5_meanInto_4 (j := 2) rfl) (byt_at bX5_meanInto_4 (j := 3) rfl)
theorem dX5_meanInto_68 : decode cX5_meanInto 68 = .ok (.lmul, 1) := do_105 (byt_at bX5_meanInto_4 (j := 4) rfl)
theorem dX5_meanInto_69 : decode cX5_meanInto 69 = .ok (.invokevirtual 62, 3) := do_182 0 62 (byt_at bX5_meanInto_4 (j := 5) rfl) (byt_at bX5_meanInto_4 (j := 6) rfl) (byt_at bX5_meanInto_4 (j := 7) rfl)
theorem dX5_meanInto_72 : decode cX5_meanInto 72 = .ok (.return_, 1) := do_177 (byt_at bX5_meanInto_4 (j := 8) rfl)
set_option maxRecDepth 20000 in
theorem ggX6_forget_J7_fill_53178 : GoodIn wsX6_forget wsJ7_fill_53178 := goodIn_sub (List.forall_mem_cons.mpr ⟨List.mem_cons_of_mem _ (List.mem_append_left _ (List.mem_of_getElem? (i := 7) rfl)), fun _ h => absurd h List.not_mem_nil⟩) (by decide +kernel)
set_option maxRecDepth 20000 in
theorem gX6_forget_J7_fill_53178 : GoodIn wsX6_forget (va_wsS RX6 25 yJ7_fill_53178 wsJ7_fill_53178) := goodIn_app (goodIn_sub (List.forall_mem_cons.mpr ⟨List.mem_cons_of_mem _ (List.mem_append_left _ (List.mem_of_getElem? (i := 4) rfl)), List.forall_mem_cons.mpr ⟨List.mem_cons_of_mem _ (List.mem_append_left _ (List.mem_of_getElem? (i := 5) rfl)), List.forall_mem_cons.mpr ⟨List.mem_cons_of_mem _ (List.mem_append_left _ (List.mem_of_getElem? (i := 6) rfl)), fun _ h => absurd h List.not_mem_nil⟩⟩⟩) (by decide +kernel)) ggX6_forget_J7_fill_53178
theorem bX6_forget_0 : ((bys cX6_forget).drop 0).take 16 = [42, 4, 181, 0, 9, 42, 3, 181, 0, 19, 42, 180, 0, 15, 3, 184] := by decide +kernel
theorem dX6_forget_0 : decode cX6_forget 0 = .ok (.aload_n 0, 1) := do_42 (byt_at bX6_forget_0 (j := 0) rfl)
theorem dX6_forget_1 : decode cX6_forget 1 = .ok (.iconst 1, 1) := do_4 (byt_at bX6_forget_0 (j := 1) rfl)
theorem dX6_forget_2 : decode cX6_forget 2 = .ok (.putfield 9, 3) := do_181 0 9 (byt_at bX6_forget_0 (j := 2) rfl) (byt_at bX6_forget_0 (j := 3) rfl) (byt_at bX6_forget_0 (j := 4) rfl)
theorem dX6_forget_5 : decode cX6_forget 5 = .ok (.aload_n 0, 1) := do_42 (byt_at bX6_forget_0 (j := 5) rfl)
theorem dX6_forget_6 : decode cX6_forget 6 = .ok (.iconst 0, 1) := do_3 (byt_at bX6_forget_0 (j := 6) rfl)
theorem dX6_forget_7 : decode cX6_forget 7 = .ok (.putfield 19, 3) := do_181 0 19 (byt_at bX6_forget_0 (j := 7) rfl) (byt_at bX6_forget_0 (j := 8) rfl) (byt_at bX6_forget_0 (j := 9) rfl)
theorem dX6_forget_10 : decode cX6_forget 10 = .ok (.aload_n 0, 1) := do_42 (byt_at bX6_forget_0 (j := 10) rfl)
theorem dX6_forget_11 : decode cX6_forget 11 = .ok (.getfield 15, 3) := do_180 0 15 (byt_at bX6_forget_0 (j := 11) rfl) (byt_at bX6_forget_0 (j := 12) rfl) (byt_at bX6_forget_0 (j := 13) rfl)
theorem dX6_forget_14 : decode cX6_forget 14 = .ok (.iconst 0, 1) := do_3 (byt_at bX6_forget_0 (j := 14) rfl)
theorem bX6_forget_1 : ((bys cX6_forget).drop 16).take 16 = [0, 25, 42, 180, 0, 22, 3, 184, 0, 25, 177] := by decide +kernel
theorem dX6_forget_15 : decode cX6_forget 15 = .ok (.invokestatic 25, 3) := do_184 0 25 (byt_at bX6_forget_0 (j := 15) rfl) (byt_at bX6_forget_1 (j := 0) rfl) (byt_at bX6_forget_1 (j := 1) rfl)
theorem dX6_forget_18 : decode cX6_forget 18 = .ok (.aload_n 0, 1) := do_42 (byt_at bX6_forget_1 (j := 2) rfl)
theorem dX6_forget_19 : decode cX6_forget 19 = .ok (.getfield 22, 3) := do_180 0 22 (byt_at bX6_forget_1 (j := 3) rfl) (byt_at bX6_forget_1 (j := 4) rfl) (byt_at bX6_forget_1 (j := 5) rfl)
theorem dX6_forget_22 : decode cX6_forget 22 = .ok (.iconst 0, 1) := do_3 (byt_at bX6_forget_1 (j := 6) rfl)
theorem dX6_forget_23 : decode cX6_forget 23 = .ok (.invokestatic 25, 3) := do_184 0 25 (byt_at bX6_forget_1 (j := 7) rfl) (byt_at bX6_forget_1 (j := 8) rfl) (byt_at bX6_forget_1 (j := 9) rfl)
theorem dX6_forget_26 : decode cX6_forget 26 = .ok (.return_, 1) := do_177 (byt_at bX6_forget_1 (j := 10) rfl)
theorem bX6_changePress_0 : ((bys cX6_changePress).drop 0).take 16 = [42, 180, 0, 15, 27, 46, 62, 42, 180, 0, 15, 27, 28, 79, 29, 172] := by decide +kernel
theorem dX6_changePress_0 : decode cX6_changePress 0 = .ok (.aload_n 0, 1) := do_42 (byt_at bX6_changePress_0 (j := 0) rfl)
theorem dX6_changePress_1 : decode cX6_changePress 1 = .ok (.getfield 15, 3) := do_180 0 15 (byt_at bX6_changePress_0 (j := 1) rfl) (byt_at bX6_changePress_0 (j := 2) rfl) (byt_at bX6_changePress_0 (j := 3) rfl)
theorem dX6_changePress_4 : decode cX6_changePress 4 = .ok (.iload_n 1, 1) := do_27 (byt_at bX6_changePress_0 (j := 4) rfl)
theorem dX6_changePress_5 : decode cX6_changePress 5 = .ok (.iaload, 1) := do_46 (byt_at bX6_changePress_0 (j := 5) rfl)
theorem dX6_changePress_6 : decode cX6_changePress 6 = .ok (.istore_n 3, 1) := do_62 (byt_at bX6_changePress_0 (j := 6) rfl)
theorem dX6_changePress_7 : decode cX6_changePress 7 = .ok (.aload_n 0, 1) := do_42 (byt_at bX6_changePress_0 (j := 7) rfl)
theorem dX6_changePress_8 : decode cX6_changePress 8 = .ok (.getfield 15, 3) := do_180 0 15 (byt_at bX6_changePress_0 (j := 8) rfl) (byt_at bX6_changePress_0 (j := 9) rfl) (byt_at bX6_changePress_0 (j := 10) rfl)
theorem dX6_changePress_11 : decode cX6_changePress 11 = .ok (.iload_n 1, 1) := do_27 (byt_at bX6_changePress_0 (j := 11) rfl)
theorem dX6_changePress_12 : decode cX6_changePress 12 = .ok (.iload_n 2, 1) := do_28 (byt_at bX6_changePress_0 (j := 12) rfl)
theorem dX6_changePress_13 : decode cX6_changePress 13 = .ok (.iastore, 1) := do_79 (byt_at bX6_changePress_0 (j := 13) rfl)
theorem dX6_changePress_14 : decode cX6_changePress 14 = .ok (.iload_n 3, 1) := do_29 (byt_at bX6_changePress_0 (j := 14) rfl)
theorem dX6_changePress_15 : decode cX6_changePress 15 = .ok (.ireturn, 1) := do_172 (byt_at bX6_changePress_0 (j := 15) rfl)
theorem bJ7_fill_53178_0 : ((bys cJ7_fill_53178).drop 0).take 16 = [3, 61, 42, 190, 62, 28, 29, 162, 0, 13, 42, 28, 27, 79, 132, 2] := by decide +kernel
theorem dJ7_fill_53178_0 : decode cJ7_fill_53178 0 = .ok (.iconst 0, 1) := do_3 (byt_at bJ7_fill_53178_0 (j := 0) rfl)
theorem dJ7_fill_53178_1 : decode cJ7_fill_53178 1 = .ok (.istore_n 2, 1) := do_61 (byt_at bJ7_fill_53178_0 (j := 1) rfl)
theorem dJ7_fill_53178_2 : decode cJ7_fill_53178 2 = .ok (.aload_n 0, 1) := do_42 (byt_at bJ7_fill_53178_0 (j := 2) rfl)
theorem dJ7_fill_53178_3 : decode cJ7_fill_53178 3 = .ok (.arraylength, 1) := do_190 (byt_at bJ7_fill_53178_0 (j := 3) rfl)
theorem dJ7_fill_53178_4 : decode cJ7_fill_53178 4 = .ok (.istore_n 3, 1) := do_62 (byt_at bJ7_fill_53178_0 (j := 4) rfl)
theorem dJ7_fill_53178_5 : decode cJ7_fill_53178 5 = .ok (.iload_n 2, 1) := do_28 (byt_at bJ7_fill_53178_0 (j := 5) rfl)
theorem dJ7_fill_53178_6 : decode cJ7_fill_53178 6 = .ok (.iload_n 3, 1) := do_29 (byt_at bJ7_fill_53178_0 (j := 6) rfl)
theorem dJ7_fill_53178_7 : decode cJ7_fill_53178 7 = .ok (.if_icmp .ge 13, 3) := do_162 0 13 (byt_at bJ7_fill_53178_0 (j := 7) rfl) (byt_at bJ7_fill_53178_0 (j := 8) rfl) (byt_at bJ7_fill_53178_0 (j := 9) rfl) (by decide)
theorem dJ7_fill_53178_10 : decode cJ7_fill_53178 10 = .ok (.aload_n 0, 1) := do_42 (byt_at bJ7_fill_53178_0 (j := 10) rfl)
theorem dJ7_fill_53178_11 : decode cJ7_fill_53178 11 = .ok (.iload_n 2, 1) := do_28 (byt_at bJ7_fill_53178_0 (j := 11) rfl)
theorem dJ7_fill_53178_12 : decode cJ7_fill_53178 12 = .ok (.iload_n 1, 1) := do_27 (byt_at bJ7_fill_53178_0 (j := 12) rfl)
theorem dJ7_fill_53178_13 : decode cJ7_fill_53178 13 = .ok (.iastore, 1) := do_79 (byt_at bJ7_fill_53178_0 (j := 13) rfl)
theorem bJ7_fill_53178_1 : ((bys cJ7_fill_53178).drop 16).take 16 = [1, 167, 255, 244, 177] := by decide +kernel
theorem dJ7_fill_53178_14 : decode cJ7_fill_53178 14 = .ok (.iinc 2 1, 3) := do_132 2 1 (byt_at bJ7_fill_53178_0 (j := 14) rfl) (byt_at bJ7_fill_53178_0 (j := 15) rfl) (byt_at bJ7_fill_53178_1 (j := 0) rfl) (by decide)
theorem dJ7_fill_53178_17 : decode cJ7_fill_53178 17 = .ok (.goto (-12), 3) := do_167 255 244 (byt_at bJ7_fill_53178_1 (j := 1) rfl) (byt_at bJ7_fill_53178_1 (j := 2) rfl) (byt_at bJ7_fill_53178_1 (j := 3) rfl) (by decide)
theorem dJ7_fill_53178_20 : decode cJ7_fill_53178 20 = .ok (.return_, 1) := do_177 (byt_at bJ7_fill_53178_1 (j := 4) rfl)
theorem kk_X5_settleWatched_0 : Cond.fieldLink RX5 18 "PaidBySigns$Hire" "works" "I" ∈ wsX5_settleWatched := pm_X5_settleWatched_r1 _ (List.mem_of_getElem? (i := 0) rfl)
theorem kk_X5_settleWatched_1 : Cond.fieldLink RX5 33 "PaidBySigns$Hire" "whole" "I" ∈ wsX5_settleWatched := pm_X5_settleWatched_r1 _ (List.mem_of_getElem? (i := 1) rfl)
theorem kk_X5_meanInto_0 : Cond.fieldLink RX5 36 "PaidBySigns$Hire" "least" "I" ∈ wsX5_meanInto := pm_X5_meanInto_r1 _ (List.mem_of_getElem? (i := 0) rfl)
theorem kk_X5_meanInto_1 : Cond.fieldLink RX5 43 "PaidBySigns$OneSum" "lowLower" "J" ∈ wsX5_meanInto := pm_X5_meanInto_r1 _ (List.mem_of_getElem? (i := 1) rfl)
theorem kk_X5_meanInto_2 : Cond.fieldLink RX5 47 "PaidBySigns$OneSum" "lowUpper" "J" ∈ wsX5_meanInto := pm_X5_meanInto_r1 _ (List.mem_of_getElem? (i := 2) rfl)
theorem kk_X5_meanInto_3 : Cond.fieldLink RX5 54 "PaidBySigns$Fraction" "upper" "J" ∈ wsX5_meanInto := pm_X5_meanInto_r1 _ (List.mem_of_getElem? (i := 3) rfl)
theorem kk_X5_meanInto_4 : Cond.fieldLink RX5 59 "PaidBySigns$Fraction" "lower" "J" ∈ wsX5_meanInto := pm_X5_meanInto_r1 _ (List.mem_of_getElem? (i := 4) rfl)
theorem kk_X6_forget_0 : Cond.fieldLink RX6 9 "PaidBySigns$Proofs" "lowerNumber" "I" ∈ wsX6_forget := List.mem_cons_of_mem _ (List.mem_append_left _ (List.mem_of_getElem? (i := 0) rfl))
theorem kk_X6_forget_1 : Cond.fieldLink RX6 19 "PaidBySigns$Proofs" "pressOfElse" "I" ∈ wsX6_forget := List.mem_cons_of_mem _ (List.mem_append_left _ (List.mem_of_getElem? (i := 1) rfl))
theorem kk_X6_forget_2 : Cond.fieldLink RX6 15 "PaidBySigns$Proofs" "press" "[I" ∈ wsX6_forget := List.mem_cons_of_mem _ (List.mem_append_left _ (List.mem_of_getElem? (i := 2) rfl))
theorem kk_X6_forget_3 : Cond.fieldLink RX6 22 "PaidBySigns$Proofs" "mixed" "[I" ∈ wsX6_forget := List.mem_cons_of_mem _ (List.mem_append_left _ (List.mem_of_getElem? (i := 3) rfl))
theorem kk_X6_changePress_0 : Cond.fieldLink RX6 15 "PaidBySigns$Proofs" "press" "[I" ∈ wsX6_changePress := List.mem_cons_of_mem _ (List.mem_append_left _ (List.mem_of_getElem? (i := 0) rfl))
theorem iw_X5_settleWatched_X3 : ∀ w ∈ wsX30, w ∈ wsX5_settleWatched := pw_X5_settleWatched_X3
theorem iw_X5_meanInto_X3 : ∀ w ∈ wsX30, w ∈ wsX5_meanInto := pw_X5_meanInto_X3
theorem iw_X5_meanInto_X5 : ∀ w ∈ wsX50, w ∈ wsX5_meanInto := pw_X5_meanInto_X5
theorem iw_X5_meanInto_X2 : ∀ w ∈ wsX20, w ∈ wsX5_meanInto := pw_X5_meanInto_X2
theorem iw_X6_forget_X6 : ∀ w ∈ wsX60, w ∈ wsX6_forget := fun _ h => List.mem_cons_of_mem _ (List.mem_append_right _ h)
theorem iw_X6_changePress_X6 : ∀ w ∈ wsX60, w ∈ wsX6_changePress := fun _ h => List.mem_cons_of_mem _ (List.mem_append_right _ h)
