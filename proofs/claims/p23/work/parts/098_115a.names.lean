abbrev cX4_wageInto : ByteArray := prog_6_method_6_code
def yX4_wageInto : MethodName := ⟨RX4, "wageInto", "(LPaidBySigns$Fraction;I)V"⟩
def tyX5 : Nat → FieldType := fun k => match k with
  | 0 => .long
  | 1 => .long
  | 2 => .long
  | 3 => .long
  | _ => .boolean
abbrev wsX50 : List Cond := u_ws RX5 TX5 5
theorem nmX5 : ∀ a, a < 5 → ∀ b, b < 5 → a ≠ b → (TX5 a).2.1 ≠ (TX5 b).2.1 := by decide +kernel
theorem tyX5_ok : ∀ k, k < 5 → parseFieldDescriptor (TX5 k).2.2.1 = some (tyX5 k) := by decide +kernel
abbrev cX5_settle : ByteArray := prog_7_method_2_code
def yX5_settle : MethodName := ⟨RX5, "settle", "(LPaidBySigns$Hire;IIII)Z"⟩
abbrev cX5_start : ByteArray := prog_7_method_5_code
def yX5_start : MethodName := ⟨RX5, "start", "()V"⟩
abbrev cX5_need : ByteArray := prog_7_method_6_code
def yX5_need : MethodName := ⟨RX5, "need", "(JJ)V"⟩
abbrev cX5_isMet : ByteArray := prog_7_method_7_code
def yX5_isMet : MethodName := ⟨RX5, "isMet", "()Z"⟩
def wsX4_wageInto : List Cond := .code yX4_wageInto cX4_wageInto 3 none :: ([.fieldLink RX4 46 "PaidBySigns$LeastCost" "hire" "LPaidBySigns$Hire;", .fieldLink RX4 79 "PaidBySigns$Hire" "least" "I", .fieldLink RX4 15 "PaidBySigns$LeastCost" "aboveLower" "J", .fieldLink RX4 9 "PaidBySigns$LeastCost" "above" "[J", .methodLink RX4 73 yX2_become, .instanceMethod yX2_become, .selects RX2 yX2_become yX2_become, .initialized RX2, .code yX2_become cX2_become 7 none, .methodLink RX2 20 Lib.MathLoose.abs_long.x, .static Lib.MathLoose.abs_long.x, .initialized "java/lang/Math", .code Lib.MathLoose.abs_long.x Lib.MathLoose.abs_long.code 2 (some .long), .fieldLink RX2 11 "PaidBySigns$Fraction" "upper" "J", .fieldLink RX2 17 "PaidBySigns$Fraction" "lower" "J", .methodLink RX2 26 yX2_commonPart, .static yX2_commonPart, .code yX2_commonPart cX2_commonPart 11 (some .long), .methodLink RX2 30 yX2_forget, .instanceMethod yX2_forget, .selects RX2 yX2_forget yX2_forget, .code yX2_forget cX2_forget 1 none, .constantLong RX2 9 (-2000000000)] ++ wsX40 ++ wsX30 ++ wsX20)
def wsX5_start : List Cond := .code yX5_start cX5_start 1 none :: ([.fieldLink RX5 47 "PaidBySigns$OneSum" "lowUpper" "J", .fieldLink RX5 43 "PaidBySigns$OneSum" "lowLower" "J", .fieldLink RX5 65 "PaidBySigns$OneSum" "capUpper" "J", .fieldLink RX5 68 "PaidBySigns$OneSum" "capLower" "J", .fieldLink RX5 71 "PaidBySigns$OneSum" "isBroken" "Z"] ++ wsX50)
def wsX5_need : List Cond := .code yX5_need cX5_need 5 none :: ([.fieldLink RX5 43 "PaidBySigns$OneSum" "lowLower" "J", .fieldLink RX5 47 "PaidBySigns$OneSum" "lowUpper" "J", .fieldLink RX5 71 "PaidBySigns$OneSum" "isBroken" "Z", .fieldLink RX5 68 "PaidBySigns$OneSum" "capLower" "J", .fieldLink RX5 65 "PaidBySigns$OneSum" "capUpper" "J"] ++ wsX50)
def wsX5_isMet : List Cond := .code yX5_isMet cX5_isMet 2 (some .boolean) :: ([.fieldLink RX5 68 "PaidBySigns$OneSum" "capLower" "J", .fieldLink RX5 47 "PaidBySigns$OneSum" "lowUpper" "J", .fieldLink RX5 65 "PaidBySigns$OneSum" "capUpper" "J", .fieldLink RX5 43 "PaidBySigns$OneSum" "lowLower" "J", .fieldLink RX5 71 "PaidBySigns$OneSum" "isBroken" "Z"] ++ wsX50)
def wsX5_settle_r1 : List Cond := [Cond.fieldLink RX5 18 "PaidBySigns$Hire" "works" "I", Cond.methodLink RX5 7 yX5_start, Cond.instanceMethod yX5_start, Cond.selects RX5 yX5_start yX5_start, Cond.initialized RX5, Cond.code yX5_start cX5_start 1 none, Cond.fieldLink RX5 47 "PaidBySigns$OneSum" "lowUpper" "J", Cond.fieldLink RX5 43 "PaidBySigns$OneSum" "lowLower" "J", Cond.fieldLink RX5 65 "PaidBySigns$OneSum" "capUpper" "J", Cond.fieldLink RX5 68 "PaidBySigns$OneSum" "capLower" "J", Cond.fieldLink RX5 71 "PaidBySigns$OneSum" "isBroken" "Z", Cond.methodLink RX5 12 yX3_chanceFrom, Cond.instanceMethod yX3_chanceFrom, Cond.selects RX3 yX3_chanceFrom yX3_chanceFrom, Cond.initialized RX3, Cond.code yX3_chanceFrom cX3_chanceFrom 5 (some .int), Cond.fieldLink RX3 32 "PaidBySigns$Hire" "signs" "I", Cond.fieldLink RX3 9 "PaidBySigns$Hire" "brings" "[I", Cond.fieldLink RX3 20 "PaidBySigns$Hire" "chances" "[[I", Cond.methodLink RX5 22 yX3_lackOf, Cond.instanceMethod yX3_lackOf, Cond.selects RX3 yX3_lackOf yX3_lackOf, Cond.code yX3_lackOf cX3_lackOf 3 (some .int), Cond.fieldLink RX3 15 "PaidBySigns$Hire" "costs" "[I"]
def wsX5_settle_r2 : List Cond := [Cond.fieldLink RX3 42 "PaidBySigns$Hire" "otherwise" "I", Cond.fieldLink RX3 45 "PaidBySigns$Hire" "least" "I", Cond.methodLink RX3 63 yX3_feltOf, Cond.instanceMethod yX3_feltOf, Cond.selects RX3 yX3_feltOf yX3_feltOf, Cond.code yX3_feltOf cX3_feltOf 6 (some .int), Cond.fieldLink RX3 48 "PaidBySigns$Hire" "rates" "I", Cond.fieldLink RX3 26 "PaidBySigns$Hire" "mark" "[I", Cond.methodLink RX3 51 Lib.Math.min.name, Cond.static Lib.Math.min.name, Cond.initialized "java/lang/Math", Cond.code Lib.Math.min.name Lib.Math.min.code 2 (some .int), Cond.fieldLink RX3 23 "PaidBySigns$Hire" "rate" "[I", Cond.methodLink RX5 25 yX5_need, Cond.instanceMethod yX5_need, Cond.selects RX5 yX5_need yX5_need, Cond.code yX5_need cX5_need 5 none, Cond.methodLink RX5 29 yX5_isMet, Cond.instanceMethod yX5_isMet, Cond.selects RX5 yX5_isMet yX5_isMet, Cond.code yX5_isMet cX5_isMet 2 (some .boolean)]
def wsX5_settle : List Cond := .code yX5_settle cX5_settle 9 (some .boolean) :: ((wsX5_settle_r1 ++ wsX5_settle_r2) ++ wsX30 ++ wsX50)
set_option maxRecDepth 20000 in
theorem ggX4_wageInto_X2_become : GoodIn wsX4_wageInto wsX2_become := goodIn_sub (List.forall_mem_cons.mpr ⟨List.mem_cons_of_mem _ (List.mem_append_left _ (List.mem_append_left _ (List.mem_append_left _ (List.mem_of_getElem? (i := 8) rfl)))), List.forall_mem_append.mpr ⟨List.forall_mem_cons.mpr ⟨List.mem_cons_of_mem _ (List.mem_append_left _ (List.mem_append_left _ (List.mem_append_left _ (List.mem_of_getElem? (i := 9) rfl)))), List.forall_mem_cons.mpr ⟨List.mem_cons_of_mem _ (List.mem_append_left _ (List.mem_append_left _ (List.mem_append_left _ (List.mem_of_getElem? (i := 10) rfl)))), List.forall_mem_cons.mpr ⟨List.mem_cons_of_mem _ (List.mem_append_left _ (List.mem_append_left _ (List.mem_append_left _ (List.mem_of_getElem? (i := 11) rfl)))), List.forall_mem_cons.mpr ⟨List.mem_cons_of_mem _ (List.mem_append_left _ (List.mem_append_left _ (List.mem_append_left _ (List.mem_of_getElem? (i := 12) rfl)))), List.forall_mem_cons.mpr ⟨List.mem_cons_of_mem _ (List.mem_append_left _ (List.mem_append_left _ (List.mem_append_left _ (List.mem_of_getElem? (i := 13) rfl)))), List.forall_mem_cons.mpr ⟨List.mem_cons_of_mem _ (List.mem_append_left _ (List.mem_append_left _ (List.mem_append_left _ (List.mem_of_getElem? (i := 14) rfl)))), List.forall_mem_cons.mpr ⟨List.mem_cons_of_mem _ (List.mem_append_left _ (List.mem_append_left _ (List.mem_append_left _ (List.mem_of_getElem? (i := 15) rfl)))), List.forall_mem_cons.mpr ⟨List.mem_cons_of_mem _ (List.mem_append_left _ (List.mem_append_left _ (List.mem_append_left _ (List.mem_of_getElem? (i := 16) rfl)))), List.forall_mem_cons.mpr ⟨List.mem_cons_of_mem _ (List.mem_append_left _ (List.mem_append_left _ (List.mem_append_left _ (List.mem_of_getElem? (i := 7) rfl)))), List.forall_mem_cons.mpr ⟨List.mem_cons_of_mem _ (List.mem_append_left _ (List.mem_append_left _ (List.mem_append_left _ (List.mem_of_getElem? (i := 17) rfl)))), List.forall_mem_cons.mpr ⟨List.mem_cons_of_mem _ (List.mem_append_left _ (List.mem_append_left _ (List.mem_append_left _ (List.mem_of_getElem? (i := 18) rfl)))), List.forall_mem_cons.mpr ⟨List.mem_cons_of_mem _ (List.mem_append_left _ (List.mem_append_left _ (List.mem_append_left _ (List.mem_of_getElem? (i := 19) rfl)))), List.forall_mem_cons.mpr ⟨List.mem_cons_of_mem _ (List.mem_append_left _ (List.mem_append_left _ (List.mem_append_left _ (List.mem_of_getElem? (i := 20) rfl)))), List.forall_mem_cons.mpr ⟨List.mem_cons_of_mem _ (List.mem_append_left _ (List.mem_append_left _ (List.mem_append_left _ (List.mem_of_getElem? (i := 21) rfl)))), List.forall_mem_cons.mpr ⟨List.mem_cons_of_mem _ (List.mem_append_left _ (List.mem_append_left _ (List.mem_append_left _ (List.mem_of_getElem? (i := 22) rfl)))), fun _ h => absurd h List.not_mem_nil⟩⟩⟩⟩⟩⟩⟩⟩⟩⟩⟩⟩⟩⟩⟩, fun _ h => List.mem_cons_of_mem _ (List.mem_append_right _ h)⟩⟩) (by decide +kernel)
set_option maxRecDepth 20000 in
theorem gX4_wageInto_X2_become : GoodIn wsX4_wageInto (wsV RX4 73 RX2 yX2_become wsX2_become) := goodIn_app (goodIn_sub (List.forall_mem_cons.mpr ⟨List.mem_cons_of_mem _ (List.mem_append_left _ (List.mem_append_left _ (List.mem_append_left _ (List.mem_of_getElem? (i := 4) rfl)))), List.forall_mem_cons.mpr ⟨List.mem_cons_of_mem _ (List.mem_append_left _ (List.mem_append_left _ (List.mem_append_left _ (List.mem_of_getElem? (i := 5) rfl)))), List.forall_mem_cons.mpr ⟨List.mem_cons_of_mem _ (List.mem_append_left _ (List.mem_append_left _ (List.mem_append_left _ (List.mem_of_getElem? (i := 6) rfl)))), List.forall_mem_cons.mpr ⟨List.mem_cons_of_mem _ (List.mem_append_left _ (List.mem_append_left _ (List.mem_append_left _ (List.mem_of_getElem? (i := 7) rfl)))), fun _ h => absurd h List.not_mem_nil⟩⟩⟩⟩) (by decide +kernel)) ggX4_wageInto_X2_become
theorem bX4_wageInto_0 : ((bys cX4_wageInto).drop 0).take 16 = [43, 42, 180, 0, 46, 180, 0, 79, 133, 42, 180, 0, 15, 105, 42, 180] := by decide +kernel
theorem dX4_wageInto_0 : decode cX4_wageInto 0 = .ok (.aload_n 1, 1) := do_43 (byt_at bX4_wageInto_0 (j := 0) rfl)
theorem dX4_wageInto_1 : decode cX4_wageInto 1 = .ok (.aload_n 0, 1) := do_42 (byt_at bX4_wageInto_0 (j := 1) rfl)
theorem dX4_wageInto_2 : decode cX4_wageInto 2 = .ok (.getfield 46, 3) := do_180 0 46 (byt_at bX4_wageInto_0 (j := 2) rfl) (byt_at bX4_wageInto_0 (j := 3) rfl) (byt_at bX4_wageInto_0 (j := 4) rfl)
theorem dX4_wageInto_5 : decode cX4_wageInto 5 = .ok (.getfield 79, 3) := do_180 0 79 (byt_at bX4_wageInto_0 (j := 5) rfl) (byt_at bX4_wageInto_0 (j := 6) rfl) (byt_at bX4_wageInto_0 (j := 7) rfl)
theorem dX4_wageInto_8 : decode cX4_wageInto 8 = .ok (.i2l, 1) := do_133 (byt_at bX4_wageInto_0 (j := 8) rfl)
theorem dX4_wageInto_9 : decode cX4_wageInto 9 = .ok (.aload_n 0, 1) := do_42 (byt_at bX4_wageInto_0 (j := 9) rfl)
theorem dX4_wageInto_10 : decode cX4_wageInto 10 = .ok (.getfield 15, 3) := do_180 0 15 (byt_at bX4_wageInto_0 (j := 10) rfl) (byt_at bX4_wageInto_0 (j := 11) rfl) (byt_at bX4_wageInto_0 (j := 12) rfl)
theorem dX4_wageInto_13 : decode cX4_wageInto 13 = .ok (.lmul, 1) := do_105 (byt_at bX4_wageInto_0 (j := 13) rfl)
theorem dX4_wageInto_14 : decode cX4_wageInto 14 = .ok (.aload_n 0, 1) := do_42 (byt_at bX4_wageInto_0 (j := 14) rfl)
theorem bX4_wageInto_1 : ((bys cX4_wageInto).drop 16).take 16 = [0, 9, 28, 47, 97, 42, 180, 0, 15, 182, 0, 73, 177] := by decide +kernel
theorem dX4_wageInto_15 : decode cX4_wageInto 15 = .ok (.getfield 9, 3) := do_180 0 9 (byt_at bX4_wageInto_0 (j := 15) rfl) (byt_at bX4_wageInto_1 (j := 0) rfl) (byt_at bX4_wageInto_1 (j := 1) rfl)
theorem dX4_wageInto_18 : decode cX4_wageInto 18 = .ok (.iload_n 2, 1) := do_28 (byt_at bX4_wageInto_1 (j := 2) rfl)
theorem dX4_wageInto_19 : decode cX4_wageInto 19 = .ok (.laload, 1) := do_47 (byt_at bX4_wageInto_1 (j := 3) rfl)
theorem dX4_wageInto_20 : decode cX4_wageInto 20 = .ok (.ladd, 1) := do_97 (byt_at bX4_wageInto_1 (j := 4) rfl)
theorem dX4_wageInto_21 : decode cX4_wageInto 21 = .ok (.aload_n 0, 1) := do_42 (byt_at bX4_wageInto_1 (j := 5) rfl)
theorem dX4_wageInto_22 : decode cX4_wageInto 22 = .ok (.getfield 15, 3) := do_180 0 15 (byt_at bX4_wageInto_1 (j := 6) rfl) (byt_at bX4_wageInto_1 (j := 7) rfl) (byt_at bX4_wageInto_1 (j := 8) rfl)
theorem dX4_wageInto_25 : decode cX4_wageInto 25 = .ok (.invokevirtual 73, 3) := do_182 0 73 (byt_at bX4_wageInto_1 (j := 9) rfl) (byt_at bX4_wageInto_1 (j := 10) rfl) (byt_at bX4_wageInto_1 (j := 11) rfl)
theorem dX4_wageInto_28 : decode cX4_wageInto 28 = .ok (.return_, 1) := do_177 (byt_at bX4_wageInto_1 (j := 12) rfl)
theorem pm_X5_settle_r1 : ∀ w ∈ wsX5_settle_r1, w ∈ wsX5_settle := fun _ h => List.mem_cons_of_mem _ (List.mem_append_left _ (List.mem_append_left _ (List.mem_append_left _ h)))
theorem pm_X5_settle_r2 : ∀ w ∈ wsX5_settle_r2, w ∈ wsX5_settle := fun _ h => List.mem_cons_of_mem _ (List.mem_append_left _ (List.mem_append_left _ (List.mem_append_right _ (h))))
theorem pw_X5_settle_X3 : ∀ w ∈ wsX30, w ∈ wsX5_settle := fun _ h => List.mem_cons_of_mem _ (List.mem_append_left _ (List.mem_append_right _ h))
theorem pw_X5_settle_X5 : ∀ w ∈ wsX50, w ∈ wsX5_settle := fun _ h => List.mem_cons_of_mem _ (List.mem_append_right _ h)
set_option maxRecDepth 20000 in
theorem ggX5_settle_X5_start : GoodIn wsX5_settle wsX5_start := goodIn_sub (List.forall_mem_cons.mpr ⟨pm_X5_settle_r1 _ (List.mem_of_getElem? (i := 5) rfl), List.forall_mem_append.mpr ⟨List.forall_mem_cons.mpr ⟨pm_X5_settle_r1 _ (List.mem_of_getElem? (i := 6) rfl), List.forall_mem_cons.mpr ⟨pm_X5_settle_r1 _ (List.mem_of_getElem? (i := 7) rfl), List.forall_mem_cons.mpr ⟨pm_X5_settle_r1 _ (List.mem_of_getElem? (i := 8) rfl), List.forall_mem_cons.mpr ⟨pm_X5_settle_r1 _ (List.mem_of_getElem? (i := 9) rfl), List.forall_mem_cons.mpr ⟨pm_X5_settle_r1 _ (List.mem_of_getElem? (i := 10) rfl), fun _ h => absurd h List.not_mem_nil⟩⟩⟩⟩⟩, pw_X5_settle_X5⟩⟩) (by decide +kernel)
set_option maxRecDepth 20000 in
theorem gX5_settle_X5_start : GoodIn wsX5_settle (wsV RX5 7 RX5 yX5_start wsX5_start) := goodIn_app (goodIn_sub (List.forall_mem_cons.mpr ⟨pm_X5_settle_r1 _ (List.mem_of_getElem? (i := 1) rfl), List.forall_mem_cons.mpr ⟨pm_X5_settle_r1 _ (List.mem_of_getElem? (i := 2) rfl), List.forall_mem_cons.mpr ⟨pm_X5_settle_r1 _ (List.mem_of_getElem? (i := 3) rfl), List.forall_mem_cons.mpr ⟨pm_X5_settle_r1 _ (List.mem_of_getElem? (i := 4) rfl), fun _ h => absurd h List.not_mem_nil⟩⟩⟩⟩) (by decide +kernel)) ggX5_settle_X5_start
set_option maxRecDepth 20000 in
theorem ggX5_settle_X3_chanceFrom : GoodIn wsX5_settle wsX3_chanceFrom := goodIn_sub (List.forall_mem_cons.mpr ⟨pm_X5_settle_r1 _ (List.mem_of_getElem? (i := 15) rfl), List.forall_mem_append.mpr ⟨List.forall_mem_cons.mpr ⟨pm_X5_settle_r1 _ (List.mem_of_getElem? (i := 16) rfl), List.forall_mem_cons.mpr ⟨pm_X5_settle_r1 _ (List.mem_of_getElem? (i := 17) rfl), List.forall_mem_cons.mpr ⟨pm_X5_settle_r1 _ (List.mem_of_getElem? (i := 18) rfl), fun _ h => absurd h List.not_mem_nil⟩⟩⟩, pw_X5_settle_X3⟩⟩) (by decide +kernel)
set_option maxRecDepth 20000 in
theorem gX5_settle_X3_chanceFrom : GoodIn wsX5_settle (wsV RX5 12 RX3 yX3_chanceFrom wsX3_chanceFrom) := goodIn_app (goodIn_sub (List.forall_mem_cons.mpr ⟨pm_X5_settle_r1 _ (List.mem_of_getElem? (i := 11) rfl), List.forall_mem_cons.mpr ⟨pm_X5_settle_r1 _ (List.mem_of_getElem? (i := 12) rfl), List.forall_mem_cons.mpr ⟨pm_X5_settle_r1 _ (List.mem_of_getElem? (i := 13) rfl), List.forall_mem_cons.mpr ⟨pm_X5_settle_r1 _ (List.mem_of_getElem? (i := 14) rfl), fun _ h => absurd h List.not_mem_nil⟩⟩⟩⟩) (by decide +kernel)) ggX5_settle_X3_chanceFrom
set_option maxRecDepth 20000 in
theorem ggX5_settle_X3_lackOf : GoodIn wsX5_settle wsX3_lackOf := goodIn_sub (List.forall_mem_cons.mpr ⟨pm_X5_settle_r1 _ (List.mem_of_getElem? (i := 22) rfl), List.forall_mem_append.mpr ⟨List.forall_mem_cons.mpr ⟨pm_X5_settle_r1 _ (List.mem_of_getElem? (i := 23) rfl), List.forall_mem_cons.mpr ⟨pm_X5_settle_r2 _ (List.mem_of_getElem? (i := 0) rfl), List.forall_mem_cons.mpr ⟨pm_X5_settle_r2 _ (List.mem_of_getElem? (i := 1) rfl), List.forall_mem_cons.mpr ⟨pm_X5_settle_r2 _ (List.mem_of_getElem? (i := 2) rfl), List.forall_mem_cons.mpr ⟨pm_X5_settle_r2 _ (List.mem_of_getElem? (i := 3) rfl), List.forall_mem_cons.mpr ⟨pm_X5_settle_r2 _ (List.mem_of_getElem? (i := 4) rfl), List.forall_mem_cons.mpr ⟨pm_X5_settle_r1 _ (List.mem_of_getElem? (i := 14) rfl), List.forall_mem_cons.mpr ⟨pm_X5_settle_r2 _ (List.mem_of_getElem? (i := 5) rfl), List.forall_mem_cons.mpr ⟨pm_X5_settle_r2 _ (List.mem_of_getElem? (i := 6) rfl), List.forall_mem_cons.mpr ⟨pm_X5_settle_r2 _ (List.mem_of_getElem? (i := 7) rfl), List.forall_mem_cons.mpr ⟨pm_X5_settle_r2 _ (List.mem_of_getElem? (i := 8) rfl), List.forall_mem_cons.mpr ⟨pm_X5_settle_r2 _ (List.mem_of_getElem? (i := 9) rfl), List.forall_mem_cons.mpr ⟨pm_X5_settle_r2 _ (List.mem_of_getElem? (i := 10) rfl), List.forall_mem_cons.mpr ⟨pm_X5_settle_r2 _ (List.mem_of_getElem? (i := 11) rfl), List.forall_mem_cons.mpr ⟨pm_X5_settle_r2 _ (List.mem_of_getElem? (i := 12) rfl), fun _ h => absurd h List.not_mem_nil⟩⟩⟩⟩⟩⟩⟩⟩⟩⟩⟩⟩⟩⟩⟩, pw_X5_settle_X3⟩⟩) (by decide +kernel)
set_option maxRecDepth 20000 in
theorem gX5_settle_X3_lackOf : GoodIn wsX5_settle (wsV RX5 22 RX3 yX3_lackOf wsX3_lackOf) := goodIn_app (goodIn_sub (List.forall_mem_cons.mpr ⟨pm_X5_settle_r1 _ (List.mem_of_getElem? (i := 19) rfl), List.forall_mem_cons.mpr ⟨pm_X5_settle_r1 _ (List.mem_of_getElem? (i := 20) rfl), List.forall_mem_cons.mpr ⟨pm_X5_settle_r1 _ (List.mem_of_getElem? (i := 21) rfl), List.forall_mem_cons.mpr ⟨pm_X5_settle_r1 _ (List.mem_of_getElem? (i := 14) rfl), fun _ h => absurd h List.not_mem_nil⟩⟩⟩⟩) (by decide +kernel)) ggX5_settle_X3_lackOf
set_option maxRecDepth 20000 in
theorem ggX5_settle_X5_need : GoodIn wsX5_settle wsX5_need := goodIn_sub (List.forall_mem_cons.mpr ⟨pm_X5_settle_r2 _ (List.mem_of_getElem? (i := 16) rfl), List.forall_mem_append.mpr ⟨List.forall_mem_cons.mpr ⟨pm_X5_settle_r1 _ (List.mem_of_getElem? (i := 7) rfl), List.forall_mem_cons.mpr ⟨pm_X5_settle_r1 _ (List.mem_of_getElem? (i := 6) rfl), List.forall_mem_cons.mpr ⟨pm_X5_settle_r1 _ (List.mem_of_getElem? (i := 10) rfl), List.forall_mem_cons.mpr ⟨pm_X5_settle_r1 _ (List.mem_of_getElem? (i := 9) rfl), List.forall_mem_cons.mpr ⟨pm_X5_settle_r1 _ (List.mem_of_getElem? (i := 8) rfl), fun _ h => absurd h List.not_mem_nil⟩⟩⟩⟩⟩, pw_X5_settle_X5⟩⟩) (by decide +kernel)
set_option maxRecDepth 20000 in
theorem gX5_settle_X5_need : GoodIn wsX5_settle (wsV RX5 25 RX5 yX5_need wsX5_need) := goodIn_app (goodIn_sub (List.forall_mem_cons.mpr ⟨pm_X5_settle_r2 _ (List.mem_of_getElem? (i := 13) rfl), List.forall_mem_cons.mpr ⟨pm_X5_settle_r2 _ (List.mem_of_getElem? (i := 14) rfl), List.forall_mem_cons.mpr ⟨pm_X5_settle_r2 _ (List.mem_of_getElem? (i := 15) rfl), List.forall_mem_cons.mpr ⟨pm_X5_settle_r1 _ (List.mem_of_getElem? (i := 4) rfl), fun _ h => absurd h List.not_mem_nil⟩⟩⟩⟩) (by decide +kernel)) ggX5_settle_X5_need
set_option maxRecDepth 20000 in
theorem ggX5_settle_X5_isMet : GoodIn wsX5_settle wsX5_isMet := goodIn_sub (List.forall_mem_cons.mpr ⟨pm_X5_settle_r2 _ (List.mem_of_getElem? (i := 20) rfl), List.forall_mem_append.mpr ⟨List.forall_mem_cons.mpr ⟨pm_X5_settle_r1 _ (List.mem_of_getElem? (i := 9) rfl), List.forall_mem_cons.mpr ⟨pm_X5_settle_r1 _ (List.mem_of_getElem? (i := 6) rfl), List.forall_mem_cons.mpr ⟨pm_X5_settle_r1 _ (List.mem_of_getElem? (i := 8) rfl), List.forall_mem_cons.mpr ⟨pm_X5_settle_r1 _ (List.mem_of_getElem? (i := 7) rfl), List.forall_mem_cons.mpr ⟨pm_X5_settle_r1 _ (List.mem_of_getElem? (i := 10) rfl), fun _ h => absurd h List.not_mem_nil⟩⟩⟩⟩⟩, pw_X5_settle_X5⟩⟩) (by decide +kernel)
set_option maxRecDepth 20000 in
theorem gX5_settle_X5_isMet : GoodIn wsX5_settle (wsV RX5 29 RX5 yX5_isMet wsX5_isMet) := goodIn_app (goodIn_sub (List.forall_mem_cons.mpr ⟨pm_X5_settle_r2 _ (List.mem_of_getElem? (i := 17) rfl), List.forall_mem_cons.mpr ⟨pm_X5_settle_r2 _ (List.mem_of_getElem? (i := 18) rfl), List.forall_mem_cons.mpr ⟨pm_X5_settle_r2 _ (List.mem_of_getElem? (i := 19) rfl), List.forall_mem_cons.mpr ⟨pm_X5_settle_r1 _ (List.mem_of_getElem? (i := 4) rfl), fun _ h => absurd h List.not_mem_nil⟩⟩⟩⟩) (by decide +kernel)) ggX5_settle_X5_isMet
theorem bX5_settle_0 : ((bys cX5_settle).drop 0).take 16 = [42, 182, 0, 7, 43, 28, 29, 182, 0, 12, 54, 6, 3, 54, 7, 21] := by decide +kernel
theorem dX5_settle_0 : decode cX5_settle 0 = .ok (.aload_n 0, 1) := do_42 (byt_at bX5_settle_0 (j := 0) rfl)
theorem dX5_settle_1 : decode cX5_settle 1 = .ok (.invokevirtual 7, 3) := do_182 0 7 (byt_at bX5_settle_0 (j := 1) rfl) (byt_at bX5_settle_0 (j := 2) rfl) (byt_at bX5_settle_0 (j := 3) rfl)
theorem dX5_settle_4 : decode cX5_settle 4 = .ok (.aload_n 1, 1) := do_43 (byt_at bX5_settle_0 (j := 4) rfl)
theorem dX5_settle_5 : decode cX5_settle 5 = .ok (.iload_n 2, 1) := do_28 (byt_at bX5_settle_0 (j := 5) rfl)
theorem dX5_settle_6 : decode cX5_settle 6 = .ok (.iload_n 3, 1) := do_29 (byt_at bX5_settle_0 (j := 6) rfl)
theorem dX5_settle_7 : decode cX5_settle 7 = .ok (.invokevirtual 12, 3) := do_182 0 12 (byt_at bX5_settle_0 (j := 7) rfl) (byt_at bX5_settle_0 (j := 8) rfl) (byt_at bX5_settle_0 (j := 9) rfl)
theorem dX5_settle_10 : decode cX5_settle 10 = .ok (.istore 6, 2) := do_54 6 (byt_at bX5_settle_0 (j := 10) rfl) (byt_at bX5_settle_0 (j := 11) rfl)
theorem dX5_settle_12 : decode cX5_settle 12 = .ok (.iconst 0, 1) := do_3 (byt_at bX5_settle_0 (j := 12) rfl)
theorem dX5_settle_13 : decode cX5_settle 13 = .ok (.istore 7, 2) := do_54 7 (byt_at bX5_settle_0 (j := 13) rfl) (byt_at bX5_settle_0 (j := 14) rfl)
theorem bX5_settle_1 : ((bys cX5_settle).drop 16).take 16 = [7, 43, 180, 0, 18, 162, 0, 54, 21, 6, 21, 7, 28, 160, 0, 7] := by decide +kernel
theorem dX5_settle_15 : decode cX5_settle 15 = .ok (.iload 7, 2) := do_21 7 (byt_at bX5_settle_0 (j := 15) rfl) (byt_at bX5_settle_1 (j := 0) rfl)
theorem dX5_settle_17 : decode cX5_settle 17 = .ok (.aload_n 1, 1) := do_43 (byt_at bX5_settle_1 (j := 1) rfl)
theorem dX5_settle_18 : decode cX5_settle 18 = .ok (.getfield 18, 3) := do_180 0 18 (byt_at bX5_settle_1 (j := 2) rfl) (byt_at bX5_settle_1 (j := 3) rfl) (byt_at bX5_settle_1 (j := 4) rfl)
theorem dX5_settle_21 : decode cX5_settle 21 = .ok (.if_icmp .ge 54, 3) := do_162 0 54 (byt_at bX5_settle_1 (j := 5) rfl) (byt_at bX5_settle_1 (j := 6) rfl) (byt_at bX5_settle_1 (j := 7) rfl) (by decide)
theorem dX5_settle_24 : decode cX5_settle 24 = .ok (.iload 6, 2) := do_21 6 (byt_at bX5_settle_1 (j := 8) rfl) (byt_at bX5_settle_1 (j := 9) rfl)
theorem dX5_settle_26 : decode cX5_settle 26 = .ok (.iload 7, 2) := do_21 7 (byt_at bX5_settle_1 (j := 10) rfl) (byt_at bX5_settle_1 (j := 11) rfl)
theorem dX5_settle_28 : decode cX5_settle 28 = .ok (.iload_n 2, 1) := do_28 (byt_at bX5_settle_1 (j := 12) rfl)
theorem dX5_settle_29 : decode cX5_settle 29 = .ok (.if_icmp .ne 7, 3) := do_160 0 7 (byt_at bX5_settle_1 (j := 13) rfl) (byt_at bX5_settle_1 (j := 14) rfl) (byt_at bX5_settle_1 (j := 15) rfl) (by decide)
theorem bX5_settle_2 : ((bys cX5_settle).drop 32).take 16 = [3, 167, 0, 10, 43, 21, 7, 29, 182, 0, 12, 100, 54, 8, 42, 21] := by decide +kernel
theorem dX5_settle_32 : decode cX5_settle 32 = .ok (.iconst 0, 1) := do_3 (byt_at bX5_settle_2 (j := 0) rfl)
theorem dX5_settle_33 : decode cX5_settle 33 = .ok (.goto 10, 3) := do_167 0 10 (byt_at bX5_settle_2 (j := 1) rfl) (byt_at bX5_settle_2 (j := 2) rfl) (byt_at bX5_settle_2 (j := 3) rfl) (by decide)
theorem dX5_settle_36 : decode cX5_settle 36 = .ok (.aload_n 1, 1) := do_43 (byt_at bX5_settle_2 (j := 4) rfl)
theorem dX5_settle_37 : decode cX5_settle 37 = .ok (.iload 7, 2) := do_21 7 (byt_at bX5_settle_2 (j := 5) rfl) (byt_at bX5_settle_2 (j := 6) rfl)
theorem dX5_settle_39 : decode cX5_settle 39 = .ok (.iload_n 3, 1) := do_29 (byt_at bX5_settle_2 (j := 7) rfl)
theorem dX5_settle_40 : decode cX5_settle 40 = .ok (.invokevirtual 12, 3) := do_182 0 12 (byt_at bX5_settle_2 (j := 8) rfl) (byt_at bX5_settle_2 (j := 9) rfl) (byt_at bX5_settle_2 (j := 10) rfl)
theorem dX5_settle_43 : decode cX5_settle 43 = .ok (.isub, 1) := do_100 (byt_at bX5_settle_2 (j := 11) rfl)
theorem dX5_settle_44 : decode cX5_settle 44 = .ok (.istore 8, 2) := do_54 8 (byt_at bX5_settle_2 (j := 12) rfl) (byt_at bX5_settle_2 (j := 13) rfl)
theorem dX5_settle_46 : decode cX5_settle 46 = .ok (.aload_n 0, 1) := do_42 (byt_at bX5_settle_2 (j := 14) rfl)
theorem bX5_settle_3 : ((bys cX5_settle).drop 48).take 16 = [8, 133, 21, 4, 133, 105, 21, 5, 133, 43, 28, 21, 7, 182, 0, 22] := by decide +kernel
theorem dX5_settle_47 : decode cX5_settle 47 = .ok (.iload 8, 2) := do_21 8 (byt_at bX5_settle_2 (j := 15) rfl) (byt_at bX5_settle_3 (j := 0) rfl)
theorem dX5_settle_49 : decode cX5_settle 49 = .ok (.i2l, 1) := do_133 (byt_at bX5_settle_3 (j := 1) rfl)
theorem dX5_settle_50 : decode cX5_settle 50 = .ok (.iload 4, 2) := do_21 4 (byt_at bX5_settle_3 (j := 2) rfl) (byt_at bX5_settle_3 (j := 3) rfl)
theorem dX5_settle_52 : decode cX5_settle 52 = .ok (.i2l, 1) := do_133 (byt_at bX5_settle_3 (j := 4) rfl)
theorem dX5_settle_53 : decode cX5_settle 53 = .ok (.lmul, 1) := do_105 (byt_at bX5_settle_3 (j := 5) rfl)
theorem dX5_settle_54 : decode cX5_settle 54 = .ok (.iload 5, 2) := do_21 5 (byt_at bX5_settle_3 (j := 6) rfl) (byt_at bX5_settle_3 (j := 7) rfl)
theorem dX5_settle_56 : decode cX5_settle 56 = .ok (.i2l, 1) := do_133 (byt_at bX5_settle_3 (j := 8) rfl)
theorem dX5_settle_57 : decode cX5_settle 57 = .ok (.aload_n 1, 1) := do_43 (byt_at bX5_settle_3 (j := 9) rfl)
theorem dX5_settle_58 : decode cX5_settle 58 = .ok (.iload_n 2, 1) := do_28 (byt_at bX5_settle_3 (j := 10) rfl)
theorem dX5_settle_59 : decode cX5_settle 59 = .ok (.iload 7, 2) := do_21 7 (byt_at bX5_settle_3 (j := 11) rfl) (byt_at bX5_settle_3 (j := 12) rfl)
theorem dX5_settle_61 : decode cX5_settle 61 = .ok (.invokevirtual 22, 3) := do_182 0 22 (byt_at bX5_settle_3 (j := 13) rfl) (byt_at bX5_settle_3 (j := 14) rfl) (byt_at bX5_settle_3 (j := 15) rfl)
theorem bX5_settle_4 : ((bys cX5_settle).drop 64).take 16 = [133, 105, 182, 0, 25, 132, 7, 1, 167, 255, 199, 42, 182, 0, 29, 172] := by decide +kernel
theorem dX5_settle_64 : decode cX5_settle 64 = .ok (.i2l, 1) := do_133 (byt_at bX5_settle_4 (j := 0) rfl)
theorem dX5_settle_65 : decode cX5_settle 65 = .ok (.lmul, 1) := do_105 (byt_at bX5_settle_4 (j := 1) rfl)
theorem dX5_settle_66 : decode cX5_settle 66 = .ok (.invokevirtual 25, 3) := do_182 0 25 (byt_at bX5_settle_4 (j := 2) rfl) (byt_at bX5_settle_4 (j := 3) rfl) (byt_at bX5_settle_4 (j := 4) rfl)
theorem dX5_settle_69 : decode cX5_settle 69 = .ok (.iinc 7 1, 3) := do_132 7 1 (byt_at bX5_settle_4 (j := 5) rfl) (byt_at bX5_settle_4 (j := 6) rfl) (byt_at bX5_settle_4 (j := 7) rfl) (by decide)
theorem dX5_settle_72 : decode cX5_settle 72 = .ok (.goto (-57), 3) := do_167 255 199 (byt_at bX5_settle_4 (j := 8) rfl) (byt_at bX5_settle_4 (j := 9) rfl) (byt_at bX5_settle_4 (j := 10) rfl) (by decide)
theorem dX5_settle_75 : decode cX5_settle 75 = .ok (.aload_n 0, 1) := do_42 (byt_at bX5_settle_4 (j := 11) rfl)
theorem dX5_settle_76 : decode cX5_settle 76 = .ok (.invokevirtual 29, 3) := do_182 0 29 (byt_at bX5_settle_4 (j := 12) rfl) (byt_at bX5_settle_4 (j := 13) rfl) (byt_at bX5_settle_4 (j := 14) rfl)
theorem dX5_settle_79 : decode cX5_settle 79 = .ok (.ireturn, 1) := do_172 (byt_at bX5_settle_4 (j := 15) rfl)
theorem bX5_start_0 : ((bys cX5_start).drop 0).take 16 = [42, 9, 181, 0, 47, 42, 10, 181, 0, 43, 42, 9, 181, 0, 65, 42] := by decide +kernel
theorem dX5_start_0 : decode cX5_start 0 = .ok (.aload_n 0, 1) := do_42 (byt_at bX5_start_0 (j := 0) rfl)
theorem dX5_start_1 : decode cX5_start 1 = .ok (.lconst 0, 1) := do_9 (byt_at bX5_start_0 (j := 1) rfl)
theorem dX5_start_2 : decode cX5_start 2 = .ok (.putfield 47, 3) := do_181 0 47 (byt_at bX5_start_0 (j := 2) rfl) (byt_at bX5_start_0 (j := 3) rfl) (byt_at bX5_start_0 (j := 4) rfl)
theorem dX5_start_5 : decode cX5_start 5 = .ok (.aload_n 0, 1) := do_42 (byt_at bX5_start_0 (j := 5) rfl)
theorem dX5_start_6 : decode cX5_start 6 = .ok (.lconst 1, 1) := do_10 (byt_at bX5_start_0 (j := 6) rfl)
theorem dX5_start_7 : decode cX5_start 7 = .ok (.putfield 43, 3) := do_181 0 43 (byt_at bX5_start_0 (j := 7) rfl) (byt_at bX5_start_0 (j := 8) rfl) (byt_at bX5_start_0 (j := 9) rfl)
theorem dX5_start_10 : decode cX5_start 10 = .ok (.aload_n 0, 1) := do_42 (byt_at bX5_start_0 (j := 10) rfl)
theorem dX5_start_11 : decode cX5_start 11 = .ok (.lconst 0, 1) := do_9 (byt_at bX5_start_0 (j := 11) rfl)
theorem dX5_start_12 : decode cX5_start 12 = .ok (.putfield 65, 3) := do_181 0 65 (byt_at bX5_start_0 (j := 12) rfl) (byt_at bX5_start_0 (j := 13) rfl) (byt_at bX5_start_0 (j := 14) rfl)
theorem dX5_start_15 : decode cX5_start 15 = .ok (.aload_n 0, 1) := do_42 (byt_at bX5_start_0 (j := 15) rfl)
theorem bX5_start_1 : ((bys cX5_start).drop 16).take 16 = [9, 181, 0, 68, 42, 3, 181, 0, 71, 177] := by decide +kernel
theorem dX5_start_16 : decode cX5_start 16 = .ok (.lconst 0, 1) := do_9 (byt_at bX5_start_1 (j := 0) rfl)
theorem dX5_start_17 : decode cX5_start 17 = .ok (.putfield 68, 3) := do_181 0 68 (byt_at bX5_start_1 (j := 1) rfl) (byt_at bX5_start_1 (j := 2) rfl) (byt_at bX5_start_1 (j := 3) rfl)
theorem dX5_start_20 : decode cX5_start 20 = .ok (.aload_n 0, 1) := do_42 (byt_at bX5_start_1 (j := 4) rfl)
theorem dX5_start_21 : decode cX5_start 21 = .ok (.iconst 0, 1) := do_3 (byt_at bX5_start_1 (j := 5) rfl)
theorem dX5_start_22 : decode cX5_start 22 = .ok (.putfield 71, 3) := do_181 0 71 (byt_at bX5_start_1 (j := 6) rfl) (byt_at bX5_start_1 (j := 7) rfl) (byt_at bX5_start_1 (j := 8) rfl)
theorem dX5_start_25 : decode cX5_start 25 = .ok (.return_, 1) := do_177 (byt_at bX5_start_1 (j := 9) rfl)
theorem bX5_need_0 : ((bys cX5_need).drop 0).take 16 = [31, 9, 148, 158, 0, 29, 33, 42, 180, 0, 43, 105, 42, 180, 0, 47] := by decide +kernel
theorem dX5_need_0 : decode cX5_need 0 = .ok (.lload_n 1, 1) := do_31 (byt_at bX5_need_0 (j := 0) rfl)
theorem dX5_need_1 : decode cX5_need 1 = .ok (.lconst 0, 1) := do_9 (byt_at bX5_need_0 (j := 1) rfl)
theorem dX5_need_2 : decode cX5_need 2 = .ok (.lcmp, 1) := do_148 (byt_at bX5_need_0 (j := 2) rfl)
theorem dX5_need_3 : decode cX5_need 3 = .ok (.ifCond .le 29, 3) := do_158 0 29 (byt_at bX5_need_0 (j := 3) rfl) (byt_at bX5_need_0 (j := 4) rfl) (byt_at bX5_need_0 (j := 5) rfl) (by decide)
theorem dX5_need_6 : decode cX5_need 6 = .ok (.lload_n 3, 1) := do_33 (byt_at bX5_need_0 (j := 6) rfl)
theorem dX5_need_7 : decode cX5_need 7 = .ok (.aload_n 0, 1) := do_42 (byt_at bX5_need_0 (j := 7) rfl)
theorem dX5_need_8 : decode cX5_need 8 = .ok (.getfield 43, 3) := do_180 0 43 (byt_at bX5_need_0 (j := 8) rfl) (byt_at bX5_need_0 (j := 9) rfl) (byt_at bX5_need_0 (j := 10) rfl)
theorem dX5_need_11 : decode cX5_need 11 = .ok (.lmul, 1) := do_105 (byt_at bX5_need_0 (j := 11) rfl)
theorem dX5_need_12 : decode cX5_need 12 = .ok (.aload_n 0, 1) := do_42 (byt_at bX5_need_0 (j := 12) rfl)
theorem dX5_need_13 : decode cX5_need 13 = .ok (.getfield 47, 3) := do_180 0 47 (byt_at bX5_need_0 (j := 13) rfl) (byt_at bX5_need_0 (j := 14) rfl) (byt_at bX5_need_0 (j := 15) rfl)
theorem bX5_need_1 : ((bys cX5_need).drop 16).take 16 = [31, 105, 148, 158, 0, 13, 42, 33, 181, 0, 47, 42, 31, 181, 0, 43] := by decide +kernel
theorem dX5_need_16 : decode cX5_need 16 = .ok (.lload_n 1, 1) := do_31 (byt_at bX5_need_1 (j := 0) rfl)
theorem dX5_need_17 : decode cX5_need 17 = .ok (.lmul, 1) := do_105 (byt_at bX5_need_1 (j := 1) rfl)
theorem dX5_need_18 : decode cX5_need 18 = .ok (.lcmp, 1) := do_148 (byt_at bX5_need_1 (j := 2) rfl)
theorem dX5_need_19 : decode cX5_need 19 = .ok (.ifCond .le 13, 3) := do_158 0 13 (byt_at bX5_need_1 (j := 3) rfl) (byt_at bX5_need_1 (j := 4) rfl) (byt_at bX5_need_1 (j := 5) rfl) (by decide)
theorem dX5_need_22 : decode cX5_need 22 = .ok (.aload_n 0, 1) := do_42 (byt_at bX5_need_1 (j := 6) rfl)
theorem dX5_need_23 : decode cX5_need 23 = .ok (.lload_n 3, 1) := do_33 (byt_at bX5_need_1 (j := 7) rfl)
theorem dX5_need_24 : decode cX5_need 24 = .ok (.putfield 47, 3) := do_181 0 47 (byt_at bX5_need_1 (j := 8) rfl) (byt_at bX5_need_1 (j := 9) rfl) (byt_at bX5_need_1 (j := 10) rfl)
theorem dX5_need_27 : decode cX5_need 27 = .ok (.aload_n 0, 1) := do_42 (byt_at bX5_need_1 (j := 11) rfl)
theorem dX5_need_28 : decode cX5_need 28 = .ok (.lload_n 1, 1) := do_31 (byt_at bX5_need_1 (j := 12) rfl)
theorem dX5_need_29 : decode cX5_need 29 = .ok (.putfield 43, 3) := do_181 0 43 (byt_at bX5_need_1 (j := 13) rfl) (byt_at bX5_need_1 (j := 14) rfl) (byt_at bX5_need_1 (j := 15) rfl)
theorem bX5_need_2 : ((bys cX5_need).drop 32).take 16 = [31, 9, 148, 154, 0, 14, 33, 9, 148, 158, 0, 8, 42, 4, 181, 0] := by decide +kernel
theorem dX5_need_32 : decode cX5_need 32 = .ok (.lload_n 1, 1) := do_31 (byt_at bX5_need_2 (j := 0) rfl)
theorem dX5_need_33 : decode cX5_need 33 = .ok (.lconst 0, 1) := do_9 (byt_at bX5_need_2 (j := 1) rfl)
theorem dX5_need_34 : decode cX5_need 34 = .ok (.lcmp, 1) := do_148 (byt_at bX5_need_2 (j := 2) rfl)
theorem dX5_need_35 : decode cX5_need 35 = .ok (.ifCond .ne 14, 3) := do_154 0 14 (byt_at bX5_need_2 (j := 3) rfl) (byt_at bX5_need_2 (j := 4) rfl) (byt_at bX5_need_2 (j := 5) rfl) (by decide)
theorem dX5_need_38 : decode cX5_need 38 = .ok (.lload_n 3, 1) := do_33 (byt_at bX5_need_2 (j := 6) rfl)
theorem dX5_need_39 : decode cX5_need 39 = .ok (.lconst 0, 1) := do_9 (byt_at bX5_need_2 (j := 7) rfl)
theorem dX5_need_40 : decode cX5_need 40 = .ok (.lcmp, 1) := do_148 (byt_at bX5_need_2 (j := 8) rfl)
theorem dX5_need_41 : decode cX5_need 41 = .ok (.ifCond .le 8, 3) := do_158 0 8 (byt_at bX5_need_2 (j := 9) rfl) (byt_at bX5_need_2 (j := 10) rfl) (byt_at bX5_need_2 (j := 11) rfl) (by decide)
theorem dX5_need_44 : decode cX5_need 44 = .ok (.aload_n 0, 1) := do_42 (byt_at bX5_need_2 (j := 12) rfl)
theorem dX5_need_45 : decode cX5_need 45 = .ok (.iconst 1, 1) := do_4 (byt_at bX5_need_2 (j := 13) rfl)
theorem bX5_need_3 : ((bys cX5_need).drop 48).take 16 = [71, 31, 9, 148, 156, 0, 40, 42, 180, 0, 68, 9, 148, 153, 0, 19] := by decide +kernel
theorem dX5_need_46 : decode cX5_need 46 = .ok (.putfield 71, 3) := do_181 0 71 (byt_at bX5_need_2 (j := 14) rfl) (byt_at bX5_need_2 (j := 15) rfl) (byt_at bX5_need_3 (j := 0) rfl)
theorem dX5_need_49 : decode cX5_need 49 = .ok (.lload_n 1, 1) := do_31 (byt_at bX5_need_3 (j := 1) rfl)
theorem dX5_need_50 : decode cX5_need 50 = .ok (.lconst 0, 1) := do_9 (byt_at bX5_need_3 (j := 2) rfl)
theorem dX5_need_51 : decode cX5_need 51 = .ok (.lcmp, 1) := do_148 (byt_at bX5_need_3 (j := 3) rfl)
theorem dX5_need_52 : decode cX5_need 52 = .ok (.ifCond .ge 40, 3) := do_156 0 40 (byt_at bX5_need_3 (j := 4) rfl) (byt_at bX5_need_3 (j := 5) rfl) (byt_at bX5_need_3 (j := 6) rfl) (by decide)
theorem dX5_need_55 : decode cX5_need 55 = .ok (.aload_n 0, 1) := do_42 (byt_at bX5_need_3 (j := 7) rfl)
theorem dX5_need_56 : decode cX5_need 56 = .ok (.getfield 68, 3) := do_180 0 68 (byt_at bX5_need_3 (j := 8) rfl) (byt_at bX5_need_3 (j := 9) rfl) (byt_at bX5_need_3 (j := 10) rfl)
theorem dX5_need_59 : decode cX5_need 59 = .ok (.lconst 0, 1) := do_9 (byt_at bX5_need_3 (j := 11) rfl)
theorem dX5_need_60 : decode cX5_need 60 = .ok (.lcmp, 1) := do_148 (byt_at bX5_need_3 (j := 12) rfl)
theorem dX5_need_61 : decode cX5_need 61 = .ok (.ifCond .eq 19, 3) := do_153 0 19 (byt_at bX5_need_3 (j := 13) rfl) (byt_at bX5_need_3 (j := 14) rfl) (byt_at bX5_need_3 (j := 15) rfl) (by decide)
theorem bX5_need_4 : ((bys cX5_need).drop 64).take 16 = [33, 42, 180, 0, 68, 105, 42, 180, 0, 65, 31, 105, 148, 158, 0, 15] := by decide +kernel
theorem dX5_need_64 : decode cX5_need 64 = .ok (.lload_n 3, 1) := do_33 (byt_at bX5_need_4 (j := 0) rfl)
theorem dX5_need_65 : decode cX5_need 65 = .ok (.aload_n 0, 1) := do_42 (byt_at bX5_need_4 (j := 1) rfl)
theorem dX5_need_66 : decode cX5_need 66 = .ok (.getfield 68, 3) := do_180 0 68 (byt_at bX5_need_4 (j := 2) rfl) (byt_at bX5_need_4 (j := 3) rfl) (byt_at bX5_need_4 (j := 4) rfl)
theorem dX5_need_69 : decode cX5_need 69 = .ok (.lmul, 1) := do_105 (byt_at bX5_need_4 (j := 5) rfl)
theorem dX5_need_70 : decode cX5_need 70 = .ok (.aload_n 0, 1) := do_42 (byt_at bX5_need_4 (j := 6) rfl)
theorem dX5_need_71 : decode cX5_need 71 = .ok (.getfield 65, 3) := do_180 0 65 (byt_at bX5_need_4 (j := 7) rfl) (byt_at bX5_need_4 (j := 8) rfl) (byt_at bX5_need_4 (j := 9) rfl)
theorem dX5_need_74 : decode cX5_need 74 = .ok (.lload_n 1, 1) := do_31 (byt_at bX5_need_4 (j := 10) rfl)
theorem dX5_need_75 : decode cX5_need 75 = .ok (.lmul, 1) := do_105 (byt_at bX5_need_4 (j := 11) rfl)
theorem dX5_need_76 : decode cX5_need 76 = .ok (.lcmp, 1) := do_148 (byt_at bX5_need_4 (j := 12) rfl)
theorem dX5_need_77 : decode cX5_need 77 = .ok (.ifCond .le 15, 3) := do_158 0 15 (byt_at bX5_need_4 (j := 13) rfl) (byt_at bX5_need_4 (j := 14) rfl) (byt_at bX5_need_4 (j := 15) rfl) (by decide)
theorem bX5_need_5 : ((bys cX5_need).drop 80).take 16 = [42, 33, 117, 181, 0, 65, 42, 31, 117, 181, 0, 68, 177] := by decide +kernel
theorem dX5_need_80 : decode cX5_need 80 = .ok (.aload_n 0, 1) := do_42 (byt_at bX5_need_5 (j := 0) rfl)
theorem dX5_need_81 : decode cX5_need 81 = .ok (.lload_n 3, 1) := do_33 (byt_at bX5_need_5 (j := 1) rfl)
theorem dX5_need_82 : decode cX5_need 82 = .ok (.lneg, 1) := do_117 (byt_at bX5_need_5 (j := 2) rfl)
theorem dX5_need_83 : decode cX5_need 83 = .ok (.putfield 65, 3) := do_181 0 65 (byt_at bX5_need_5 (j := 3) rfl) (byt_at bX5_need_5 (j := 4) rfl) (byt_at bX5_need_5 (j := 5) rfl)
theorem dX5_need_86 : decode cX5_need 86 = .ok (.aload_n 0, 1) := do_42 (byt_at bX5_need_5 (j := 6) rfl)
theorem dX5_need_87 : decode cX5_need 87 = .ok (.lload_n 1, 1) := do_31 (byt_at bX5_need_5 (j := 7) rfl)
theorem dX5_need_88 : decode cX5_need 88 = .ok (.lneg, 1) := do_117 (byt_at bX5_need_5 (j := 8) rfl)
theorem dX5_need_89 : decode cX5_need 89 = .ok (.putfield 68, 3) := do_181 0 68 (byt_at bX5_need_5 (j := 9) rfl) (byt_at bX5_need_5 (j := 10) rfl) (byt_at bX5_need_5 (j := 11) rfl)
theorem dX5_need_92 : decode cX5_need 92 = .ok (.return_, 1) := do_177 (byt_at bX5_need_5 (j := 12) rfl)
theorem bX5_isMet_0 : ((bys cX5_isMet).drop 0).take 16 = [42, 180, 0, 68, 9, 148, 153, 0, 25, 42, 180, 0, 47, 42, 180, 0] := by decide +kernel
theorem dX5_isMet_0 : decode cX5_isMet 0 = .ok (.aload_n 0, 1) := do_42 (byt_at bX5_isMet_0 (j := 0) rfl)
theorem dX5_isMet_1 : decode cX5_isMet 1 = .ok (.getfield 68, 3) := do_180 0 68 (byt_at bX5_isMet_0 (j := 1) rfl) (byt_at bX5_isMet_0 (j := 2) rfl) (byt_at bX5_isMet_0 (j := 3) rfl)
theorem dX5_isMet_4 : decode cX5_isMet 4 = .ok (.lconst 0, 1) := do_9 (byt_at bX5_isMet_0 (j := 4) rfl)
theorem dX5_isMet_5 : decode cX5_isMet 5 = .ok (.lcmp, 1) := do_148 (byt_at bX5_isMet_0 (j := 5) rfl)
theorem dX5_isMet_6 : decode cX5_isMet 6 = .ok (.ifCond .eq 25, 3) := do_153 0 25 (byt_at bX5_isMet_0 (j := 6) rfl) (byt_at bX5_isMet_0 (j := 7) rfl) (byt_at bX5_isMet_0 (j := 8) rfl) (by decide)
theorem dX5_isMet_9 : decode cX5_isMet 9 = .ok (.aload_n 0, 1) := do_42 (byt_at bX5_isMet_0 (j := 9) rfl)
theorem dX5_isMet_10 : decode cX5_isMet 10 = .ok (.getfield 47, 3) := do_180 0 47 (byt_at bX5_isMet_0 (j := 10) rfl) (byt_at bX5_isMet_0 (j := 11) rfl) (byt_at bX5_isMet_0 (j := 12) rfl)
theorem dX5_isMet_13 : decode cX5_isMet 13 = .ok (.aload_n 0, 1) := do_42 (byt_at bX5_isMet_0 (j := 13) rfl)
theorem bX5_isMet_1 : ((bys cX5_isMet).drop 16).take 16 = [68, 105, 42, 180, 0, 65, 42, 180, 0, 43, 105, 148, 157, 0, 7, 4] := by decide +kernel
theorem dX5_isMet_14 : decode cX5_isMet 14 = .ok (.getfield 68, 3) := do_180 0 68 (byt_at bX5_isMet_0 (j := 14) rfl) (byt_at bX5_isMet_0 (j := 15) rfl) (byt_at bX5_isMet_1 (j := 0) rfl)
theorem dX5_isMet_17 : decode cX5_isMet 17 = .ok (.lmul, 1) := do_105 (byt_at bX5_isMet_1 (j := 1) rfl)
theorem dX5_isMet_18 : decode cX5_isMet 18 = .ok (.aload_n 0, 1) := do_42 (byt_at bX5_isMet_1 (j := 2) rfl)
theorem dX5_isMet_19 : decode cX5_isMet 19 = .ok (.getfield 65, 3) := do_180 0 65 (byt_at bX5_isMet_1 (j := 3) rfl) (byt_at bX5_isMet_1 (j := 4) rfl) (byt_at bX5_isMet_1 (j := 5) rfl)
theorem dX5_isMet_22 : decode cX5_isMet 22 = .ok (.aload_n 0, 1) := do_42 (byt_at bX5_isMet_1 (j := 6) rfl)
theorem dX5_isMet_23 : decode cX5_isMet 23 = .ok (.getfield 43, 3) := do_180 0 43 (byt_at bX5_isMet_1 (j := 7) rfl) (byt_at bX5_isMet_1 (j := 8) rfl) (byt_at bX5_isMet_1 (j := 9) rfl)
theorem dX5_isMet_26 : decode cX5_isMet 26 = .ok (.lmul, 1) := do_105 (byt_at bX5_isMet_1 (j := 10) rfl)
theorem dX5_isMet_27 : decode cX5_isMet 27 = .ok (.lcmp, 1) := do_148 (byt_at bX5_isMet_1 (j := 11) rfl)
theorem dX5_isMet_28 : decode cX5_isMet 28 = .ok (.ifCond .gt 7, 3) := do_157 0 7 (byt_at bX5_isMet_1 (j := 12) rfl) (byt_at bX5_isMet_1 (j := 13) rfl) (byt_at bX5_isMet_1 (j := 14) rfl) (by decide)
theorem dX5_isMet_31 : decode cX5_isMet 31 = .ok (.iconst 1, 1) := do_4 (byt_at bX5_isMet_1 (j := 15) rfl)
theorem bX5_isMet_2 : ((bys cX5_isMet).drop 32).take 16 = [167, 0, 4, 3, 60, 42, 180, 0, 71, 154, 0, 11, 27, 153, 0, 7] := by decide +kernel
theorem dX5_isMet_32 : decode cX5_isMet 32 = .ok (.goto 4, 3) := do_167 0 4 (byt_at bX5_isMet_2 (j := 0) rfl) (byt_at bX5_isMet_2 (j := 1) rfl) (byt_at bX5_isMet_2 (j := 2) rfl) (by decide)
theorem dX5_isMet_35 : decode cX5_isMet 35 = .ok (.iconst 0, 1) := do_3 (byt_at bX5_isMet_2 (j := 3) rfl)
theorem dX5_isMet_36 : decode cX5_isMet 36 = .ok (.istore_n 1, 1) := do_60 (byt_at bX5_isMet_2 (j := 4) rfl)
theorem dX5_isMet_37 : decode cX5_isMet 37 = .ok (.aload_n 0, 1) := do_42 (byt_at bX5_isMet_2 (j := 5) rfl)
theorem dX5_isMet_38 : decode cX5_isMet 38 = .ok (.getfield 71, 3) := do_180 0 71 (byt_at bX5_isMet_2 (j := 6) rfl) (byt_at bX5_isMet_2 (j := 7) rfl) (byt_at bX5_isMet_2 (j := 8) rfl)
theorem dX5_isMet_41 : decode cX5_isMet 41 = .ok (.ifCond .ne 11, 3) := do_154 0 11 (byt_at bX5_isMet_2 (j := 9) rfl) (byt_at bX5_isMet_2 (j := 10) rfl) (byt_at bX5_isMet_2 (j := 11) rfl) (by decide)
theorem dX5_isMet_44 : decode cX5_isMet 44 = .ok (.iload_n 1, 1) := do_27 (byt_at bX5_isMet_2 (j := 12) rfl)
theorem dX5_isMet_45 : decode cX5_isMet 45 = .ok (.ifCond .eq 7, 3) := do_153 0 7 (byt_at bX5_isMet_2 (j := 13) rfl) (byt_at bX5_isMet_2 (j := 14) rfl) (byt_at bX5_isMet_2 (j := 15) rfl) (by decide)
theorem bX5_isMet_3 : ((bys cX5_isMet).drop 48).take 16 = [4, 167, 0, 4, 3, 172] := by decide +kernel
theorem dX5_isMet_48 : decode cX5_isMet 48 = .ok (.iconst 1, 1) := do_4 (byt_at bX5_isMet_3 (j := 0) rfl)
theorem dX5_isMet_49 : decode cX5_isMet 49 = .ok (.goto 4, 3) := do_167 0 4 (byt_at bX5_isMet_3 (j := 1) rfl) (byt_at bX5_isMet_3 (j := 2) rfl) (byt_at bX5_isMet_3 (j := 3) rfl) (by decide)
theorem dX5_isMet_52 : decode cX5_isMet 52 = .ok (.iconst 0, 1) := do_3 (byt_at bX5_isMet_3 (j := 4) rfl)
theorem dX5_isMet_53 : decode cX5_isMet 53 = .ok (.ireturn, 1) := do_172 (byt_at bX5_isMet_3 (j := 5) rfl)
theorem kk_X4_wageInto_0 : Cond.fieldLink RX4 46 "PaidBySigns$LeastCost" "hire" "LPaidBySigns$Hire;" ∈ wsX4_wageInto := List.mem_cons_of_mem _ (List.mem_append_left _ (List.mem_append_left _ (List.mem_append_left _ (List.mem_of_getElem? (i := 0) rfl))))
theorem kk_X4_wageInto_1 : Cond.fieldLink RX4 79 "PaidBySigns$Hire" "least" "I" ∈ wsX4_wageInto := List.mem_cons_of_mem _ (List.mem_append_left _ (List.mem_append_left _ (List.mem_append_left _ (List.mem_of_getElem? (i := 1) rfl))))
theorem kk_X4_wageInto_2 : Cond.fieldLink RX4 15 "PaidBySigns$LeastCost" "aboveLower" "J" ∈ wsX4_wageInto := List.mem_cons_of_mem _ (List.mem_append_left _ (List.mem_append_left _ (List.mem_append_left _ (List.mem_of_getElem? (i := 2) rfl))))
theorem kk_X4_wageInto_3 : Cond.fieldLink RX4 9 "PaidBySigns$LeastCost" "above" "[J" ∈ wsX4_wageInto := List.mem_cons_of_mem _ (List.mem_append_left _ (List.mem_append_left _ (List.mem_append_left _ (List.mem_of_getElem? (i := 3) rfl))))
theorem kk_X5_start_0 : Cond.fieldLink RX5 47 "PaidBySigns$OneSum" "lowUpper" "J" ∈ wsX5_start := List.mem_cons_of_mem _ (List.mem_append_left _ (List.mem_of_getElem? (i := 0) rfl))
theorem kk_X5_start_1 : Cond.fieldLink RX5 43 "PaidBySigns$OneSum" "lowLower" "J" ∈ wsX5_start := List.mem_cons_of_mem _ (List.mem_append_left _ (List.mem_of_getElem? (i := 1) rfl))
theorem kk_X5_start_2 : Cond.fieldLink RX5 65 "PaidBySigns$OneSum" "capUpper" "J" ∈ wsX5_start := List.mem_cons_of_mem _ (List.mem_append_left _ (List.mem_of_getElem? (i := 2) rfl))
theorem kk_X5_start_3 : Cond.fieldLink RX5 68 "PaidBySigns$OneSum" "capLower" "J" ∈ wsX5_start := List.mem_cons_of_mem _ (List.mem_append_left _ (List.mem_of_getElem? (i := 3) rfl))
theorem kk_X5_start_4 : Cond.fieldLink RX5 71 "PaidBySigns$OneSum" "isBroken" "Z" ∈ wsX5_start := List.mem_cons_of_mem _ (List.mem_append_left _ (List.mem_of_getElem? (i := 4) rfl))
theorem kk_X5_settle_0 : Cond.fieldLink RX5 18 "PaidBySigns$Hire" "works" "I" ∈ wsX5_settle := pm_X5_settle_r1 _ (List.mem_of_getElem? (i := 0) rfl)
theorem kk_X5_isMet_0 : Cond.fieldLink RX5 68 "PaidBySigns$OneSum" "capLower" "J" ∈ wsX5_isMet := List.mem_cons_of_mem _ (List.mem_append_left _ (List.mem_of_getElem? (i := 0) rfl))
theorem kk_X5_isMet_1 : Cond.fieldLink RX5 71 "PaidBySigns$OneSum" "isBroken" "Z" ∈ wsX5_isMet := List.mem_cons_of_mem _ (List.mem_append_left _ (List.mem_of_getElem? (i := 4) rfl))
theorem kk_X5_isMet_2 : Cond.fieldLink RX5 47 "PaidBySigns$OneSum" "lowUpper" "J" ∈ wsX5_isMet := List.mem_cons_of_mem _ (List.mem_append_left _ (List.mem_of_getElem? (i := 1) rfl))
theorem kk_X5_isMet_3 : Cond.fieldLink RX5 65 "PaidBySigns$OneSum" "capUpper" "J" ∈ wsX5_isMet := List.mem_cons_of_mem _ (List.mem_append_left _ (List.mem_of_getElem? (i := 2) rfl))
theorem kk_X5_isMet_4 : Cond.fieldLink RX5 43 "PaidBySigns$OneSum" "lowLower" "J" ∈ wsX5_isMet := List.mem_cons_of_mem _ (List.mem_append_left _ (List.mem_of_getElem? (i := 3) rfl))
theorem kk_X5_need_0 : Cond.fieldLink RX5 68 "PaidBySigns$OneSum" "capLower" "J" ∈ wsX5_need := List.mem_cons_of_mem _ (List.mem_append_left _ (List.mem_of_getElem? (i := 3) rfl))
theorem kk_X5_need_1 : Cond.fieldLink RX5 65 "PaidBySigns$OneSum" "capUpper" "J" ∈ wsX5_need := List.mem_cons_of_mem _ (List.mem_append_left _ (List.mem_of_getElem? (i := 4) rfl))
theorem kk_X5_need_2 : Cond.fieldLink RX5 71 "PaidBySigns$OneSum" "isBroken" "Z" ∈ wsX5_need := List.mem_cons_of_mem _ (List.mem_append_left _ (List.mem_of_getElem? (i := 2) rfl))
theorem kk_X5_need_3 : Cond.fieldLink RX5 43 "PaidBySigns$OneSum" "lowLower" "J" ∈ wsX5_need := List.mem_cons_of_mem _ (List.mem_append_left _ (List.mem_of_getElem? (i := 0) rfl))
theorem kk_X5_need_4 : Cond.fieldLink RX5 47 "PaidBySigns$OneSum" "lowUpper" "J" ∈ wsX5_need := List.mem_cons_of_mem _ (List.mem_append_left _ (List.mem_of_getElem? (i := 1) rfl))
theorem iw_X4_wageInto_X4 : ∀ w ∈ wsX40, w ∈ wsX4_wageInto := fun _ h => List.mem_cons_of_mem _ (List.mem_append_left _ (List.mem_append_left _ (List.mem_append_right _ h)))
theorem iw_X4_wageInto_X3 : ∀ w ∈ wsX30, w ∈ wsX4_wageInto := fun _ h => List.mem_cons_of_mem _ (List.mem_append_left _ (List.mem_append_right _ h))
theorem iw_X5_start_X5 : ∀ w ∈ wsX50, w ∈ wsX5_start := fun _ h => List.mem_cons_of_mem _ (List.mem_append_right _ h)
theorem iw_X5_settle_X3 : ∀ w ∈ wsX30, w ∈ wsX5_settle := pw_X5_settle_X3
theorem iw_X5_isMet_X5 : ∀ w ∈ wsX50, w ∈ wsX5_isMet := fun _ h => List.mem_cons_of_mem _ (List.mem_append_right _ h)
theorem iw_X5_need_X5 : ∀ w ∈ wsX50, w ∈ wsX5_need := fun _ h => List.mem_cons_of_mem _ (List.mem_append_right _ h)
