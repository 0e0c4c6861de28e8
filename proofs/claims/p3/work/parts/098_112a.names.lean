def tyX6 : Nat → FieldType := fun k => match k with
  | 0 => .int
  | 1 => .array .int
  | 2 => .int
  | _ => .array .int
abbrev wsX60 : List Cond := u_ws RX6 TX6 4
theorem nmX6 : ∀ a, a < 4 → ∀ b, b < 4 → a ≠ b → (TX6 a).2.1 ≠ (TX6 b).2.1 := by decide +kernel
theorem tyX6_ok : ∀ k, k < 4 → parseFieldDescriptor (TX6 k).2.2.1 = some (tyX6 k) := by decide +kernel
abbrev cX6_forget : ByteArray := prog_8_method_2_code
def yX6_forget : MethodName := ⟨RX6, "forget", "()V"⟩
abbrev cX6_changePress : ByteArray := prog_8_method_3_code
def yX6_changePress : MethodName := ⟨RX6, "changePress", "(II)I"⟩
abbrev cX6_changeElse : ByteArray := prog_8_method_4_code
def yX6_changeElse : MethodName := ⟨RX6, "changeElse", "(I)I"⟩
abbrev cX6_changeMix : ByteArray := prog_8_method_5_code
def yX6_changeMix : MethodName := ⟨RX6, "changeMix", "(II)I"⟩
abbrev cJ7_fill_53178 : ByteArray := prog_19_method_103_code
def yJ7_fill_53178 : MethodName := ⟨RJ7, "fill", "([II)V"⟩
def wsJ7_fill_53178 : List Cond := .code yJ7_fill_53178 cJ7_fill_53178 4 none :: ([])
def wsX6_forget : List Cond := .code yX6_forget cX6_forget 1 none :: ([.fieldLink RX6 9 "PaidBySigns$Proofs" "lowerNumber" "I", .fieldLink RX6 19 "PaidBySigns$Proofs" "pressOfElse" "I", .fieldLink RX6 15 "PaidBySigns$Proofs" "press" "[I", .fieldLink RX6 22 "PaidBySigns$Proofs" "mixed" "[I", .methodLink RX6 25 yJ7_fill_53178, .static yJ7_fill_53178, .initialized RJ7, .code yJ7_fill_53178 cJ7_fill_53178 4 none] ++ wsX60)
def wsX6_changePress : List Cond := .code yX6_changePress cX6_changePress 4 (some .int) :: ([.fieldLink RX6 15 "PaidBySigns$Proofs" "press" "[I"] ++ wsX60)
def wsX6_changeElse : List Cond := .code yX6_changeElse cX6_changeElse 3 (some .int) :: ([.fieldLink RX6 19 "PaidBySigns$Proofs" "pressOfElse" "I"] ++ wsX60)
def wsX6_changeMix : List Cond := .code yX6_changeMix cX6_changeMix 4 (some .int) :: ([.fieldLink RX6 22 "PaidBySigns$Proofs" "mixed" "[I"] ++ wsX60)
set_option maxRecDepth 20000 in
theorem ggX6_forget_J7_fill_53178 : GoodIn wsX6_forget wsJ7_fill_53178 := goodIn_r _ [8] (by decide +kernel) (by decide +kernel)
set_option maxRecDepth 20000 in
theorem gX6_forget_J7_fill_53178 : GoodIn wsX6_forget (va_wsS RX6 25 yJ7_fill_53178 wsJ7_fill_53178) := goodIn_app (goodIn_of _ (by decide +kernel)) ggX6_forget_J7_fill_53178
theorem dX6_forget_0 : decode cX6_forget 0 = .ok (.aload_n 0, 1) := by decide +kernel
theorem dX6_forget_1 : decode cX6_forget 1 = .ok (.iconst 1, 1) := by decide +kernel
theorem dX6_forget_2 : decode cX6_forget 2 = .ok (.putfield 9, 3) := by decide +kernel
theorem dX6_forget_5 : decode cX6_forget 5 = .ok (.aload_n 0, 1) := by decide +kernel
theorem dX6_forget_6 : decode cX6_forget 6 = .ok (.iconst 0, 1) := by decide +kernel
theorem dX6_forget_7 : decode cX6_forget 7 = .ok (.putfield 19, 3) := by decide +kernel
theorem dX6_forget_10 : decode cX6_forget 10 = .ok (.aload_n 0, 1) := by decide +kernel
theorem dX6_forget_11 : decode cX6_forget 11 = .ok (.getfield 15, 3) := by decide +kernel
theorem dX6_forget_14 : decode cX6_forget 14 = .ok (.iconst 0, 1) := by decide +kernel
theorem dX6_forget_15 : decode cX6_forget 15 = .ok (.invokestatic 25, 3) := by decide +kernel
theorem dX6_forget_18 : decode cX6_forget 18 = .ok (.aload_n 0, 1) := by decide +kernel
theorem dX6_forget_19 : decode cX6_forget 19 = .ok (.getfield 22, 3) := by decide +kernel
theorem dX6_forget_22 : decode cX6_forget 22 = .ok (.iconst 0, 1) := by decide +kernel
theorem dX6_forget_23 : decode cX6_forget 23 = .ok (.invokestatic 25, 3) := by decide +kernel
theorem dX6_forget_26 : decode cX6_forget 26 = .ok (.return_, 1) := by decide +kernel
theorem dX6_changePress_0 : decode cX6_changePress 0 = .ok (.aload_n 0, 1) := by decide +kernel
theorem dX6_changePress_1 : decode cX6_changePress 1 = .ok (.getfield 15, 3) := by decide +kernel
theorem dX6_changePress_4 : decode cX6_changePress 4 = .ok (.iload_n 1, 1) := by decide +kernel
theorem dX6_changePress_5 : decode cX6_changePress 5 = .ok (.iaload, 1) := by decide +kernel
theorem dX6_changePress_6 : decode cX6_changePress 6 = .ok (.istore_n 3, 1) := by decide +kernel
theorem dX6_changePress_7 : decode cX6_changePress 7 = .ok (.aload_n 0, 1) := by decide +kernel
theorem dX6_changePress_8 : decode cX6_changePress 8 = .ok (.getfield 15, 3) := by decide +kernel
theorem dX6_changePress_11 : decode cX6_changePress 11 = .ok (.iload_n 1, 1) := by decide +kernel
theorem dX6_changePress_12 : decode cX6_changePress 12 = .ok (.iload_n 2, 1) := by decide +kernel
theorem dX6_changePress_13 : decode cX6_changePress 13 = .ok (.iastore, 1) := by decide +kernel
theorem dX6_changePress_14 : decode cX6_changePress 14 = .ok (.iload_n 3, 1) := by decide +kernel
theorem dX6_changePress_15 : decode cX6_changePress 15 = .ok (.ireturn, 1) := by decide +kernel
theorem dX6_changeElse_0 : decode cX6_changeElse 0 = .ok (.aload_n 0, 1) := by decide +kernel
theorem dX6_changeElse_1 : decode cX6_changeElse 1 = .ok (.getfield 19, 3) := by decide +kernel
theorem dX6_changeElse_4 : decode cX6_changeElse 4 = .ok (.istore_n 2, 1) := by decide +kernel
theorem dX6_changeElse_5 : decode cX6_changeElse 5 = .ok (.aload_n 0, 1) := by decide +kernel
theorem dX6_changeElse_6 : decode cX6_changeElse 6 = .ok (.iload_n 1, 1) := by decide +kernel
theorem dX6_changeElse_7 : decode cX6_changeElse 7 = .ok (.putfield 19, 3) := by decide +kernel
theorem dX6_changeElse_10 : decode cX6_changeElse 10 = .ok (.iload_n 2, 1) := by decide +kernel
theorem dX6_changeElse_11 : decode cX6_changeElse 11 = .ok (.ireturn, 1) := by decide +kernel
theorem dX6_changeMix_0 : decode cX6_changeMix 0 = .ok (.aload_n 0, 1) := by decide +kernel
theorem dX6_changeMix_1 : decode cX6_changeMix 1 = .ok (.getfield 22, 3) := by decide +kernel
theorem dX6_changeMix_4 : decode cX6_changeMix 4 = .ok (.iload_n 1, 1) := by decide +kernel
theorem dX6_changeMix_5 : decode cX6_changeMix 5 = .ok (.iaload, 1) := by decide +kernel
theorem dX6_changeMix_6 : decode cX6_changeMix 6 = .ok (.istore_n 3, 1) := by decide +kernel
theorem dX6_changeMix_7 : decode cX6_changeMix 7 = .ok (.aload_n 0, 1) := by decide +kernel
theorem dX6_changeMix_8 : decode cX6_changeMix 8 = .ok (.getfield 22, 3) := by decide +kernel
theorem dX6_changeMix_11 : decode cX6_changeMix 11 = .ok (.iload_n 1, 1) := by decide +kernel
theorem dX6_changeMix_12 : decode cX6_changeMix 12 = .ok (.iload_n 2, 1) := by decide +kernel
theorem dX6_changeMix_13 : decode cX6_changeMix 13 = .ok (.iastore, 1) := by decide +kernel
theorem dX6_changeMix_14 : decode cX6_changeMix 14 = .ok (.iload_n 3, 1) := by decide +kernel
theorem dX6_changeMix_15 : decode cX6_changeMix 15 = .ok (.ireturn, 1) := by decide +kernel
theorem dJ7_fill_53178_0 : decode cJ7_fill_53178 0 = .ok (.iconst 0, 1) := by decide +kernel
theorem dJ7_fill_53178_1 : decode cJ7_fill_53178 1 = .ok (.istore_n 2, 1) := by decide +kernel
theorem dJ7_fill_53178_2 : decode cJ7_fill_53178 2 = .ok (.aload_n 0, 1) := by decide +kernel
theorem dJ7_fill_53178_3 : decode cJ7_fill_53178 3 = .ok (.arraylength, 1) := by decide +kernel
theorem dJ7_fill_53178_4 : decode cJ7_fill_53178 4 = .ok (.istore_n 3, 1) := by decide +kernel
theorem dJ7_fill_53178_5 : decode cJ7_fill_53178 5 = .ok (.iload_n 2, 1) := by decide +kernel
theorem dJ7_fill_53178_6 : decode cJ7_fill_53178 6 = .ok (.iload_n 3, 1) := by decide +kernel
theorem dJ7_fill_53178_7 : decode cJ7_fill_53178 7 = .ok (.if_icmp .ge 13, 3) := by decide +kernel
theorem dJ7_fill_53178_10 : decode cJ7_fill_53178 10 = .ok (.aload_n 0, 1) := by decide +kernel
theorem dJ7_fill_53178_11 : decode cJ7_fill_53178 11 = .ok (.iload_n 2, 1) := by decide +kernel
theorem dJ7_fill_53178_12 : decode cJ7_fill_53178 12 = .ok (.iload_n 1, 1) := by decide +kernel
theorem dJ7_fill_53178_13 : decode cJ7_fill_53178 13 = .ok (.iastore, 1) := by decide +kernel
theorem dJ7_fill_53178_14 : decode cJ7_fill_53178 14 = .ok (.iinc 2 1, 3) := by decide +kernel
theorem dJ7_fill_53178_17 : decode cJ7_fill_53178 17 = .ok (.goto (-12), 3) := by decide +kernel
theorem dJ7_fill_53178_20 : decode cJ7_fill_53178 20 = .ok (.return_, 1) := by decide +kernel
theorem kk_X6_forget_0 : Cond.fieldLink RX6 9 "PaidBySigns$Proofs" "lowerNumber" "I" ∈ wsX6_forget := by decide +kernel
theorem kk_X6_forget_1 : Cond.fieldLink RX6 19 "PaidBySigns$Proofs" "pressOfElse" "I" ∈ wsX6_forget := by decide +kernel
theorem kk_X6_forget_2 : Cond.fieldLink RX6 15 "PaidBySigns$Proofs" "press" "[I" ∈ wsX6_forget := by decide +kernel
theorem kk_X6_forget_3 : Cond.fieldLink RX6 22 "PaidBySigns$Proofs" "mixed" "[I" ∈ wsX6_forget := by decide +kernel
theorem kk_X6_changePress_0 : Cond.fieldLink RX6 15 "PaidBySigns$Proofs" "press" "[I" ∈ wsX6_changePress := by decide +kernel
theorem kk_X6_changeElse_0 : Cond.fieldLink RX6 19 "PaidBySigns$Proofs" "pressOfElse" "I" ∈ wsX6_changeElse := by decide +kernel
theorem kk_X6_changeMix_0 : Cond.fieldLink RX6 22 "PaidBySigns$Proofs" "mixed" "[I" ∈ wsX6_changeMix := by decide +kernel
theorem iw_X6_forget_X6 : ∀ w ∈ wsX60, w ∈ wsX6_forget := by decide +kernel
theorem iw_X6_changePress_X6 : ∀ w ∈ wsX60, w ∈ wsX6_changePress := by decide +kernel
theorem iw_X6_changeElse_X6 : ∀ w ∈ wsX60, w ∈ wsX6_changeElse := by decide +kernel
theorem iw_X6_changeMix_X6 : ∀ w ∈ wsX60, w ∈ wsX6_changeMix := by decide +kernel

abbrev cX6_boundInto : ByteArray := prog_8_method_6_code
def yX6_boundInto : MethodName := ⟨RX6, "boundInto", "(LPaidBySigns$Fraction;LPaidBySigns$Hire;I)Z"⟩
abbrev cX6_pressedAt : ByteArray := prog_8_method_7_code
def yX6_pressedAt : MethodName := ⟨RX6, "pressedAt", "(LPaidBySigns$Hire;II)J"⟩
abbrev cX6_leastOf : ByteArray := prog_8_method_8_code
def yX6_leastOf : MethodName := ⟨RX6, "leastOf", "(LPaidBySigns$Hire;JJ)J"⟩
abbrev cX6_isRuledOut : ByteArray := prog_8_method_9_code
def yX6_isRuledOut : MethodName := ⟨RX6, "isRuledOut", "(LPaidBySigns$Hire;I)Z"⟩
abbrev cX6_mixedChance : ByteArray := prog_8_method_10_code
def yX6_mixedChance : MethodName := ⟨RX6, "mixedChance", "(LPaidBySigns$Hire;II)I"⟩
def wsX6_pressedAt : List Cond := .code yX6_pressedAt cX6_pressedAt 7 (some .long) :: ([.fieldLink RX6 19 "PaidBySigns$Proofs" "pressOfElse" "I", .fieldLink RX6 48 "PaidBySigns$Hire" "chances" "[[I", .fieldLink RX6 39 "PaidBySigns$Hire" "works" "I", .fieldLink RX6 15 "PaidBySigns$Proofs" "press" "[I"] ++ wsX60 ++ wsX30)
def wsX6_leastOf : List Cond := .code yX6_leastOf cX6_leastOf 9 (some .long) :: ([.fieldLink RX6 72 "PaidBySigns$Hire" "least" "I", .fieldLink RX6 59 "PaidBySigns$Hire" "rates" "I", .fieldLink RX6 79 "PaidBySigns$Hire" "mark" "[I", .methodLink RX6 82 Lib.MathLoose.min_long.x, .static Lib.MathLoose.min_long.x, .initialized "java/lang/Math", .code Lib.MathLoose.min_long.x Lib.MathLoose.min_long.code 4 (some .long), .methodLink RX6 75 yX3_feltOf, .instanceMethod yX3_feltOf, .selects RX3 yX3_feltOf yX3_feltOf, .initialized RX3, .code yX3_feltOf cX3_feltOf 6 (some .int), .fieldLink RX3 48 "PaidBySigns$Hire" "rates" "I", .fieldLink RX3 26 "PaidBySigns$Hire" "mark" "[I", .methodLink RX3 51 Lib.Math.min.name, .static Lib.Math.min.name, .code Lib.Math.min.name Lib.Math.min.code 2 (some .int), .fieldLink RX3 23 "PaidBySigns$Hire" "rate" "[I"] ++ wsX30)
def wsX6_boundInto_r1 : List Cond := [Cond.fieldLink RX6 19 "PaidBySigns$Proofs" "pressOfElse" "I", Cond.fieldLink RX6 31 "PaidBySigns$Hire" "costs" "[I", Cond.fieldLink RX6 36 "PaidBySigns$Hire" "otherwise" "I", Cond.fieldLink RX6 39 "PaidBySigns$Hire" "works" "I", Cond.fieldLink RX6 15 "PaidBySigns$Proofs" "press" "[I", Cond.fieldLink RX6 42 "PaidBySigns$Hire" "whole" "I", Cond.fieldLink RX6 45 "PaidBySigns$Hire" "signs" "I", Cond.fieldLink RX6 48 "PaidBySigns$Hire" "chances" "[[I", Cond.fieldLink RX6 9 "PaidBySigns$Proofs" "lowerNumber" "I", Cond.fieldLink RX6 56 "PaidBySigns$Hire" "rate" "[I", Cond.fieldLink RX6 59 "PaidBySigns$Hire" "rates" "I", Cond.methodLink RX6 52 yX6_pressedAt, Cond.instanceMethod yX6_pressedAt, Cond.selects RX6 yX6_pressedAt yX6_pressedAt, Cond.initialized RX6, Cond.code yX6_pressedAt cX6_pressedAt 7 (some .long), Cond.methodLink RX6 62 yX6_leastOf, Cond.static yX6_leastOf, Cond.code yX6_leastOf cX6_leastOf 9 (some .long), Cond.fieldLink RX6 72 "PaidBySigns$Hire" "least" "I", Cond.fieldLink RX6 79 "PaidBySigns$Hire" "mark" "[I", Cond.methodLink RX6 82 Lib.MathLoose.min_long.x, Cond.static Lib.MathLoose.min_long.x, Cond.initialized "java/lang/Math"]
def wsX6_boundInto_r2 : List Cond := [Cond.code Lib.MathLoose.min_long.x Lib.MathLoose.min_long.code 4 (some .long), Cond.methodLink RX6 75 yX3_feltOf, Cond.instanceMethod yX3_feltOf, Cond.selects RX3 yX3_feltOf yX3_feltOf, Cond.initialized RX3, Cond.code yX3_feltOf cX3_feltOf 6 (some .int), Cond.fieldLink RX3 48 "PaidBySigns$Hire" "rates" "I", Cond.fieldLink RX3 26 "PaidBySigns$Hire" "mark" "[I", Cond.methodLink RX3 51 Lib.Math.min.name, Cond.static Lib.Math.min.name, Cond.code Lib.Math.min.name Lib.Math.min.code 2 (some .int), Cond.fieldLink RX3 23 "PaidBySigns$Hire" "rate" "[I", Cond.methodLink RX6 66 yX2_become, Cond.instanceMethod yX2_become, Cond.selects RX2 yX2_become yX2_become, Cond.initialized RX2, Cond.code yX2_become cX2_become 7 none, Cond.methodLink RX2 20 Lib.MathLoose.abs_long.x, Cond.static Lib.MathLoose.abs_long.x, Cond.code Lib.MathLoose.abs_long.x Lib.MathLoose.abs_long.code 2 (some .long), Cond.fieldLink RX2 11 "PaidBySigns$Fraction" "upper" "J", Cond.fieldLink RX2 17 "PaidBySigns$Fraction" "lower" "J", Cond.methodLink RX2 26 yX2_commonPart, Cond.static yX2_commonPart]
def wsX6_boundInto_r3 : List Cond := [Cond.code yX2_commonPart cX2_commonPart 11 (some .long), Cond.methodLink RX2 30 yX2_forget, Cond.instanceMethod yX2_forget, Cond.selects RX2 yX2_forget yX2_forget, Cond.code yX2_forget cX2_forget 1 none, Cond.constantLong RX2 9 (-2000000000)]
def wsX6_boundInto : List Cond := .code yX6_boundInto cX6_boundInto 11 (some .boolean) :: ((wsX6_boundInto_r1 ++ (wsX6_boundInto_r2 ++ wsX6_boundInto_r3)) ++ wsX60 ++ wsX30 ++ wsX20)
def wsX6_mixedChance : List Cond := .code yX6_mixedChance cX6_mixedChance 6 (some .int) :: ([.fieldLink RX6 39 "PaidBySigns$Hire" "works" "I", .fieldLink RX6 22 "PaidBySigns$Proofs" "mixed" "[I", .fieldLink RX6 48 "PaidBySigns$Hire" "chances" "[[I"] ++ wsX30 ++ wsX60)
def wsX6_isRuledOut : List Cond := .code yX6_isRuledOut cX6_isRuledOut 6 (some .boolean) :: ([.fieldLink RX6 39 "PaidBySigns$Hire" "works" "I", .fieldLink RX6 22 "PaidBySigns$Proofs" "mixed" "[I", .fieldLink RX6 31 "PaidBySigns$Hire" "costs" "[I", .fieldLink RX6 45 "PaidBySigns$Hire" "signs" "I", .fieldLink RX6 48 "PaidBySigns$Hire" "chances" "[[I", .methodLink RX6 88 yX6_mixedChance, .instanceMethod yX6_mixedChance, .selects RX6 yX6_mixedChance yX6_mixedChance, .initialized RX6, .code yX6_mixedChance cX6_mixedChance 6 (some .int)] ++ wsX30 ++ wsX60)
theorem pm_X6_boundInto_r1 : ∀ w ∈ wsX6_boundInto_r1, w ∈ wsX6_boundInto := fun _ h => List.mem_cons_of_mem _ (List.mem_append_left _ (List.mem_append_left _ (List.mem_append_left _ (List.mem_append_left _ h))))
theorem pm_X6_boundInto_r2 : ∀ w ∈ wsX6_boundInto_r2, w ∈ wsX6_boundInto := fun _ h => List.mem_cons_of_mem _ (List.mem_append_left _ (List.mem_append_left _ (List.mem_append_left _ (List.mem_append_right _ (List.mem_append_left _ h)))))
theorem pm_X6_boundInto_r3 : ∀ w ∈ wsX6_boundInto_r3, w ∈ wsX6_boundInto := fun _ h => List.mem_cons_of_mem _ (List.mem_append_left _ (List.mem_append_left _ (List.mem_append_left _ (List.mem_append_right _ (List.mem_append_right _ (h))))))
theorem pw_X6_boundInto_X6 : ∀ w ∈ wsX60, w ∈ wsX6_boundInto := fun _ h => List.mem_cons_of_mem _ (List.mem_append_left _ (List.mem_append_left _ (List.mem_append_right _ h)))
theorem pw_X6_boundInto_X3 : ∀ w ∈ wsX30, w ∈ wsX6_boundInto := fun _ h => List.mem_cons_of_mem _ (List.mem_append_left _ (List.mem_append_right _ h))
theorem pw_X6_boundInto_X2 : ∀ w ∈ wsX20, w ∈ wsX6_boundInto := fun _ h => List.mem_cons_of_mem _ (List.mem_append_right _ h)
set_option maxRecDepth 20000 in
theorem ggX6_boundInto_X6_pressedAt : GoodIn wsX6_boundInto wsX6_pressedAt := goodIn_sub (List.forall_mem_cons.mpr ⟨pm_X6_boundInto_r1 _ (List.mem_of_getElem? (i := 15) rfl), List.forall_mem_append.mpr ⟨List.forall_mem_append.mpr ⟨List.forall_mem_cons.mpr ⟨pm_X6_boundInto_r1 _ (List.mem_of_getElem? (i := 0) rfl), List.forall_mem_cons.mpr ⟨pm_X6_boundInto_r1 _ (List.mem_of_getElem? (i := 7) rfl), List.forall_mem_cons.mpr ⟨pm_X6_boundInto_r1 _ (List.mem_of_getElem? (i := 3) rfl), List.forall_mem_cons.mpr ⟨pm_X6_boundInto_r1 _ (List.mem_of_getElem? (i := 4) rfl), fun _ h => absurd h List.not_mem_nil⟩⟩⟩⟩, pw_X6_boundInto_X6⟩, pw_X6_boundInto_X3⟩⟩) (by decide +kernel)
set_option maxRecDepth 20000 in
theorem gX6_boundInto_X6_pressedAt : GoodIn wsX6_boundInto (wsV RX6 52 RX6 yX6_pressedAt wsX6_pressedAt) := goodIn_app (goodIn_of _ (by decide +kernel)) ggX6_boundInto_X6_pressedAt
set_option maxRecDepth 20000 in
theorem ggX6_boundInto_X6_leastOf : GoodIn wsX6_boundInto wsX6_leastOf := goodIn_sub (List.forall_mem_cons.mpr ⟨pm_X6_boundInto_r1 _ (List.mem_of_getElem? (i := 18) rfl), List.forall_mem_append.mpr ⟨List.forall_mem_cons.mpr ⟨pm_X6_boundInto_r1 _ (List.mem_of_getElem? (i := 19) rfl), List.forall_mem_cons.mpr ⟨pm_X6_boundInto_r1 _ (List.mem_of_getElem? (i := 10) rfl), List.forall_mem_cons.mpr ⟨pm_X6_boundInto_r1 _ (List.mem_of_getElem? (i := 20) rfl), List.forall_mem_cons.mpr ⟨pm_X6_boundInto_r1 _ (List.mem_of_getElem? (i := 21) rfl), List.forall_mem_cons.mpr ⟨pm_X6_boundInto_r1 _ (List.mem_of_getElem? (i := 22) rfl), List.forall_mem_cons.mpr ⟨pm_X6_boundInto_r1 _ (List.mem_of_getElem? (i := 23) rfl), List.forall_mem_cons.mpr ⟨pm_X6_boundInto_r2 _ (List.mem_of_getElem? (i := 0) rfl), List.forall_mem_cons.mpr ⟨pm_X6_boundInto_r2 _ (List.mem_of_getElem? (i := 1) rfl), List.forall_mem_cons.mpr ⟨pm_X6_boundInto_r2 _ (List.mem_of_getElem? (i := 2) rfl), List.forall_mem_cons.mpr ⟨pm_X6_boundInto_r2 _ (List.mem_of_getElem? (i := 3) rfl), List.forall_mem_cons.mpr ⟨pm_X6_boundInto_r2 _ (List.mem_of_getElem? (i := 4) rfl), List.forall_mem_cons.mpr ⟨pm_X6_boundInto_r2 _ (List.mem_of_getElem? (i := 5) rfl), List.forall_mem_cons.mpr ⟨pm_X6_boundInto_r2 _ (List.mem_of_getElem? (i := 6) rfl), List.forall_mem_cons.mpr ⟨pm_X6_boundInto_r2 _ (List.mem_of_getElem? (i := 7) rfl), List.forall_mem_cons.mpr ⟨pm_X6_boundInto_r2 _ (List.mem_of_getElem? (i := 8) rfl), List.forall_mem_cons.mpr ⟨pm_X6_boundInto_r2 _ (List.mem_of_getElem? (i := 9) rfl), List.forall_mem_cons.mpr ⟨pm_X6_boundInto_r2 _ (List.mem_of_getElem? (i := 10) rfl), List.forall_mem_cons.mpr ⟨pm_X6_boundInto_r2 _ (List.mem_of_getElem? (i := 11) rfl), fun _ h => absurd h List.not_mem_nil⟩⟩⟩⟩⟩⟩⟩⟩⟩⟩⟩⟩⟩⟩⟩⟩⟩⟩, pw_X6_boundInto_X3⟩⟩) (by decide +kernel)
set_option maxRecDepth 20000 in
theorem gX6_boundInto_X6_leastOf : GoodIn wsX6_boundInto (va_wsS RX6 62 yX6_leastOf wsX6_leastOf) := goodIn_app (goodIn_of _ (by decide +kernel)) ggX6_boundInto_X6_leastOf
set_option maxRecDepth 20000 in
theorem ggX6_boundInto_X2_become : GoodIn wsX6_boundInto wsX2_become := goodIn_sub (List.forall_mem_cons.mpr ⟨pm_X6_boundInto_r2 _ (List.mem_of_getElem? (i := 16) rfl), List.forall_mem_append.mpr ⟨List.forall_mem_cons.mpr ⟨pm_X6_boundInto_r2 _ (List.mem_of_getElem? (i := 17) rfl), List.forall_mem_cons.mpr ⟨pm_X6_boundInto_r2 _ (List.mem_of_getElem? (i := 18) rfl), List.forall_mem_cons.mpr ⟨pm_X6_boundInto_r1 _ (List.mem_of_getElem? (i := 23) rfl), List.forall_mem_cons.mpr ⟨pm_X6_boundInto_r2 _ (List.mem_of_getElem? (i := 19) rfl), List.forall_mem_cons.mpr ⟨pm_X6_boundInto_r2 _ (List.mem_of_getElem? (i := 20) rfl), List.forall_mem_cons.mpr ⟨pm_X6_boundInto_r2 _ (List.mem_of_getElem? (i := 21) rfl), List.forall_mem_cons.mpr ⟨pm_X6_boundInto_r2 _ (List.mem_of_getElem? (i := 22) rfl), List.forall_mem_cons.mpr ⟨pm_X6_boundInto_r2 _ (List.mem_of_getElem? (i := 23) rfl), List.forall_mem_cons.mpr ⟨pm_X6_boundInto_r2 _ (List.mem_of_getElem? (i := 15) rfl), List.forall_mem_cons.mpr ⟨pm_X6_boundInto_r3 _ (List.mem_of_getElem? (i := 0) rfl), List.forall_mem_cons.mpr ⟨pm_X6_boundInto_r3 _ (List.mem_of_getElem? (i := 1) rfl), List.forall_mem_cons.mpr ⟨pm_X6_boundInto_r3 _ (List.mem_of_getElem? (i := 2) rfl), List.forall_mem_cons.mpr ⟨pm_X6_boundInto_r3 _ (List.mem_of_getElem? (i := 3) rfl), List.forall_mem_cons.mpr ⟨pm_X6_boundInto_r3 _ (List.mem_of_getElem? (i := 4) rfl), List.forall_mem_cons.mpr ⟨pm_X6_boundInto_r3 _ (List.mem_of_getElem? (i := 5) rfl), fun _ h => absurd h List.not_mem_nil⟩⟩⟩⟩⟩⟩⟩⟩⟩⟩⟩⟩⟩⟩⟩, pw_X6_boundInto_X2⟩⟩) (by decide +kernel)
set_option maxRecDepth 20000 in
theorem gX6_boundInto_X2_become : GoodIn wsX6_boundInto (wsV RX6 66 RX2 yX2_become wsX2_become) := goodIn_app (goodIn_of _ (by decide +kernel)) ggX6_boundInto_X2_become
theorem dX6_boundInto_0 : decode cX6_boundInto 0 = .ok (.aload_n 0, 1) := by decide +kernel
theorem dX6_boundInto_1 : decode cX6_boundInto 1 = .ok (.getfield 19, 3) := by decide +kernel
theorem dX6_boundInto_4 : decode cX6_boundInto 4 = .ok (.i2l, 1) := by decide +kernel
theorem dX6_boundInto_5 : decode cX6_boundInto 5 = .ok (.aload_n 2, 1) := by decide +kernel
theorem dX6_boundInto_6 : decode cX6_boundInto 6 = .ok (.getfield 31, 3) := by decide +kernel
theorem dX6_boundInto_9 : decode cX6_boundInto 9 = .ok (.iload_n 3, 1) := by decide +kernel
theorem dX6_boundInto_10 : decode cX6_boundInto 10 = .ok (.iaload, 1) := by decide +kernel
theorem dX6_boundInto_11 : decode cX6_boundInto 11 = .ok (.aload_n 2, 1) := by decide +kernel
theorem dX6_boundInto_12 : decode cX6_boundInto 12 = .ok (.getfield 36, 3) := by decide +kernel
theorem dX6_boundInto_15 : decode cX6_boundInto 15 = .ok (.iadd, 1) := by decide +kernel
theorem dX6_boundInto_16 : decode cX6_boundInto 16 = .ok (.i2l, 1) := by decide +kernel
theorem dX6_boundInto_17 : decode cX6_boundInto 17 = .ok (.lmul, 1) := by decide +kernel
theorem dX6_boundInto_18 : decode cX6_boundInto 18 = .ok (.lstore 4, 2) := by decide +kernel
theorem dX6_boundInto_20 : decode cX6_boundInto 20 = .ok (.iconst 0, 1) := by decide +kernel
theorem dX6_boundInto_21 : decode cX6_boundInto 21 = .ok (.istore 6, 2) := by decide +kernel
theorem dX6_boundInto_23 : decode cX6_boundInto 23 = .ok (.iload 6, 2) := by decide +kernel
theorem dX6_boundInto_25 : decode cX6_boundInto 25 = .ok (.aload_n 2, 1) := by decide +kernel
theorem dX6_boundInto_26 : decode cX6_boundInto 26 = .ok (.getfield 39, 3) := by decide +kernel
theorem dX6_boundInto_29 : decode cX6_boundInto 29 = .ok (.if_icmp .ge 38, 3) := by decide +kernel
theorem dX6_boundInto_32 : decode cX6_boundInto 32 = .ok (.lload 4, 2) := by decide +kernel
theorem dX6_boundInto_34 : decode cX6_boundInto 34 = .ok (.aload_n 0, 1) := by decide +kernel
theorem dX6_boundInto_35 : decode cX6_boundInto 35 = .ok (.getfield 15, 3) := by decide +kernel
theorem dX6_boundInto_38 : decode cX6_boundInto 38 = .ok (.iload 6, 2) := by decide +kernel
theorem dX6_boundInto_40 : decode cX6_boundInto 40 = .ok (.iaload, 1) := by decide +kernel
theorem dX6_boundInto_41 : decode cX6_boundInto 41 = .ok (.i2l, 1) := by decide +kernel
theorem dX6_boundInto_42 : decode cX6_boundInto 42 = .ok (.aload_n 2, 1) := by decide +kernel
theorem dX6_boundInto_43 : decode cX6_boundInto 43 = .ok (.getfield 31, 3) := by decide +kernel
theorem dX6_boundInto_46 : decode cX6_boundInto 46 = .ok (.iload_n 3, 1) := by decide +kernel
theorem dX6_boundInto_47 : decode cX6_boundInto 47 = .ok (.iaload, 1) := by decide +kernel
theorem dX6_boundInto_48 : decode cX6_boundInto 48 = .ok (.aload_n 2, 1) := by decide +kernel
theorem dX6_boundInto_49 : decode cX6_boundInto 49 = .ok (.getfield 31, 3) := by decide +kernel
theorem dX6_boundInto_52 : decode cX6_boundInto 52 = .ok (.iload 6, 2) := by decide +kernel
theorem dX6_boundInto_54 : decode cX6_boundInto 54 = .ok (.iaload, 1) := by decide +kernel
theorem dX6_boundInto_55 : decode cX6_boundInto 55 = .ok (.isub, 1) := by decide +kernel
theorem dX6_boundInto_56 : decode cX6_boundInto 56 = .ok (.i2l, 1) := by decide +kernel
theorem dX6_boundInto_57 : decode cX6_boundInto 57 = .ok (.lmul, 1) := by decide +kernel
theorem dX6_boundInto_58 : decode cX6_boundInto 58 = .ok (.ladd, 1) := by decide +kernel
theorem dX6_boundInto_59 : decode cX6_boundInto 59 = .ok (.lstore 4, 2) := by decide +kernel
theorem dX6_boundInto_61 : decode cX6_boundInto 61 = .ok (.iinc 6 1, 3) := by decide +kernel
theorem dX6_boundInto_64 : decode cX6_boundInto 64 = .ok (.goto (-41), 3) := by decide +kernel
theorem dX6_boundInto_67 : decode cX6_boundInto 67 = .ok (.lload 4, 2) := by decide +kernel
theorem dX6_boundInto_69 : decode cX6_boundInto 69 = .ok (.aload_n 2, 1) := by decide +kernel
theorem dX6_boundInto_70 : decode cX6_boundInto 70 = .ok (.getfield 42, 3) := by decide +kernel
theorem dX6_boundInto_73 : decode cX6_boundInto 73 = .ok (.i2l, 1) := by decide +kernel
theorem dX6_boundInto_74 : decode cX6_boundInto 74 = .ok (.lmul, 1) := by decide +kernel
theorem dX6_boundInto_75 : decode cX6_boundInto 75 = .ok (.lstore 4, 2) := by decide +kernel
theorem dX6_boundInto_77 : decode cX6_boundInto 77 = .ok (.iconst 0, 1) := by decide +kernel
theorem dX6_boundInto_78 : decode cX6_boundInto 78 = .ok (.istore 6, 2) := by decide +kernel
theorem dX6_boundInto_80 : decode cX6_boundInto 80 = .ok (.iload 6, 2) := by decide +kernel
theorem dX6_boundInto_82 : decode cX6_boundInto 82 = .ok (.aload_n 2, 1) := by decide +kernel
theorem dX6_boundInto_83 : decode cX6_boundInto 83 = .ok (.getfield 45, 3) := by decide +kernel
theorem dX6_boundInto_86 : decode cX6_boundInto 86 = .ok (.if_icmp .ge 73, 3) := by decide +kernel
theorem dX6_boundInto_89 : decode cX6_boundInto 89 = .ok (.aload_n 2, 1) := by decide +kernel
theorem dX6_boundInto_90 : decode cX6_boundInto 90 = .ok (.getfield 48, 3) := by decide +kernel
theorem dX6_boundInto_93 : decode cX6_boundInto 93 = .ok (.iload_n 3, 1) := by decide +kernel
theorem dX6_boundInto_94 : decode cX6_boundInto 94 = .ok (.aaload, 1) := by decide +kernel
theorem dX6_boundInto_95 : decode cX6_boundInto 95 = .ok (.iload 6, 2) := by decide +kernel
theorem dX6_boundInto_97 : decode cX6_boundInto 97 = .ok (.iaload, 1) := by decide +kernel
theorem dX6_boundInto_98 : decode cX6_boundInto 98 = .ok (.i2l, 1) := by decide +kernel
theorem dX6_boundInto_99 : decode cX6_boundInto 99 = .ok (.aload_n 0, 1) := by decide +kernel
theorem dX6_boundInto_100 : decode cX6_boundInto 100 = .ok (.getfield 9, 3) := by decide +kernel
theorem dX6_boundInto_103 : decode cX6_boundInto 103 = .ok (.i2l, 1) := by decide +kernel
theorem dX6_boundInto_104 : decode cX6_boundInto 104 = .ok (.lmul, 1) := by decide +kernel
theorem dX6_boundInto_105 : decode cX6_boundInto 105 = .ok (.lstore 7, 2) := by decide +kernel
theorem dX6_boundInto_107 : decode cX6_boundInto 107 = .ok (.aload_n 0, 1) := by decide +kernel
theorem dX6_boundInto_108 : decode cX6_boundInto 108 = .ok (.aload_n 2, 1) := by decide +kernel
theorem dX6_boundInto_109 : decode cX6_boundInto 109 = .ok (.iload_n 3, 1) := by decide +kernel
theorem dX6_boundInto_110 : decode cX6_boundInto 110 = .ok (.iload 6, 2) := by decide +kernel
theorem dX6_boundInto_112 : decode cX6_boundInto 112 = .ok (.invokevirtual 52, 3) := by decide +kernel
theorem dX6_boundInto_115 : decode cX6_boundInto 115 = .ok (.lstore 9, 2) := by decide +kernel
theorem dX6_boundInto_117 : decode cX6_boundInto 117 = .ok (.lload 7, 2) := by decide +kernel
theorem dX6_boundInto_119 : decode cX6_boundInto 119 = .ok (.aload_n 2, 1) := by decide +kernel
theorem dX6_boundInto_120 : decode cX6_boundInto 120 = .ok (.getfield 56, 3) := by decide +kernel
theorem dX6_boundInto_123 : decode cX6_boundInto 123 = .ok (.aload_n 2, 1) := by decide +kernel
theorem dX6_boundInto_124 : decode cX6_boundInto 124 = .ok (.getfield 59, 3) := by decide +kernel
theorem dX6_boundInto_127 : decode cX6_boundInto 127 = .ok (.iconst 1, 1) := by decide +kernel
theorem dX6_boundInto_128 : decode cX6_boundInto 128 = .ok (.isub, 1) := by decide +kernel
theorem dX6_boundInto_129 : decode cX6_boundInto 129 = .ok (.iaload, 1) := by decide +kernel
theorem dX6_boundInto_130 : decode cX6_boundInto 130 = .ok (.i2l, 1) := by decide +kernel
theorem dX6_boundInto_131 : decode cX6_boundInto 131 = .ok (.lload 9, 2) := by decide +kernel
theorem dX6_boundInto_133 : decode cX6_boundInto 133 = .ok (.lmul, 1) := by decide +kernel
theorem dX6_boundInto_134 : decode cX6_boundInto 134 = .ok (.lcmp, 1) := by decide +kernel
theorem dX6_boundInto_135 : decode cX6_boundInto 135 = .ok (.ifCond .ge 5, 3) := by decide +kernel
theorem dX6_boundInto_138 : decode cX6_boundInto 138 = .ok (.iconst 0, 1) := by decide +kernel
theorem dX6_boundInto_139 : decode cX6_boundInto 139 = .ok (.ireturn, 1) := by decide +kernel
theorem dX6_boundInto_140 : decode cX6_boundInto 140 = .ok (.lload 4, 2) := by decide +kernel
theorem dX6_boundInto_142 : decode cX6_boundInto 142 = .ok (.aload_n 2, 1) := by decide +kernel
theorem dX6_boundInto_143 : decode cX6_boundInto 143 = .ok (.lload 7, 2) := by decide +kernel
theorem dX6_boundInto_145 : decode cX6_boundInto 145 = .ok (.lload 9, 2) := by decide +kernel
theorem dX6_boundInto_147 : decode cX6_boundInto 147 = .ok (.invokestatic 62, 3) := by decide +kernel
theorem dX6_boundInto_150 : decode cX6_boundInto 150 = .ok (.ladd, 1) := by decide +kernel
theorem dX6_boundInto_151 : decode cX6_boundInto 151 = .ok (.lstore 4, 2) := by decide +kernel
theorem dX6_boundInto_153 : decode cX6_boundInto 153 = .ok (.iinc 6 1, 3) := by decide +kernel
theorem dX6_boundInto_156 : decode cX6_boundInto 156 = .ok (.goto (-76), 3) := by decide +kernel
theorem dX6_boundInto_159 : decode cX6_boundInto 159 = .ok (.aload_n 1, 1) := by decide +kernel
theorem dX6_boundInto_160 : decode cX6_boundInto 160 = .ok (.lload 4, 2) := by decide +kernel
theorem dX6_boundInto_162 : decode cX6_boundInto 162 = .ok (.aload_n 0, 1) := by decide +kernel
theorem dX6_boundInto_163 : decode cX6_boundInto 163 = .ok (.getfield 9, 3) := by decide +kernel
theorem dX6_boundInto_166 : decode cX6_boundInto 166 = .ok (.i2l, 1) := by decide +kernel
theorem dX6_boundInto_167 : decode cX6_boundInto 167 = .ok (.aload_n 2, 1) := by decide +kernel
theorem dX6_boundInto_168 : decode cX6_boundInto 168 = .ok (.getfield 42, 3) := by decide +kernel
theorem dX6_boundInto_171 : decode cX6_boundInto 171 = .ok (.i2l, 1) := by decide +kernel
theorem dX6_boundInto_172 : decode cX6_boundInto 172 = .ok (.lmul, 1) := by decide +kernel
theorem dX6_boundInto_173 : decode cX6_boundInto 173 = .ok (.invokevirtual 66, 3) := by decide +kernel
theorem dX6_boundInto_176 : decode cX6_boundInto 176 = .ok (.iconst 1, 1) := by decide +kernel
theorem dX6_boundInto_177 : decode cX6_boundInto 177 = .ok (.ireturn, 1) := by decide +kernel
theorem dX6_pressedAt_0 : decode cX6_pressedAt 0 = .ok (.aload_n 0, 1) := by decide +kernel
theorem dX6_pressedAt_1 : decode cX6_pressedAt 1 = .ok (.getfield 19, 3) := by decide +kernel
theorem dX6_pressedAt_4 : decode cX6_pressedAt 4 = .ok (.i2l, 1) := by decide +kernel
theorem dX6_pressedAt_5 : decode cX6_pressedAt 5 = .ok (.aload_n 1, 1) := by decide +kernel
theorem dX6_pressedAt_6 : decode cX6_pressedAt 6 = .ok (.getfield 48, 3) := by decide +kernel
theorem dX6_pressedAt_9 : decode cX6_pressedAt 9 = .ok (.iload_n 2, 1) := by decide +kernel
theorem dX6_pressedAt_10 : decode cX6_pressedAt 10 = .ok (.aaload, 1) := by decide +kernel
theorem dX6_pressedAt_11 : decode cX6_pressedAt 11 = .ok (.iload_n 3, 1) := by decide +kernel
theorem dX6_pressedAt_12 : decode cX6_pressedAt 12 = .ok (.iaload, 1) := by decide +kernel
theorem dX6_pressedAt_13 : decode cX6_pressedAt 13 = .ok (.i2l, 1) := by decide +kernel
theorem dX6_pressedAt_14 : decode cX6_pressedAt 14 = .ok (.lmul, 1) := by decide +kernel
theorem dX6_pressedAt_15 : decode cX6_pressedAt 15 = .ok (.lstore 4, 2) := by decide +kernel
theorem dX6_pressedAt_17 : decode cX6_pressedAt 17 = .ok (.iconst 0, 1) := by decide +kernel
theorem dX6_pressedAt_18 : decode cX6_pressedAt 18 = .ok (.istore 6, 2) := by decide +kernel
theorem dX6_pressedAt_20 : decode cX6_pressedAt 20 = .ok (.iload 6, 2) := by decide +kernel
theorem dX6_pressedAt_22 : decode cX6_pressedAt 22 = .ok (.aload_n 1, 1) := by decide +kernel
theorem dX6_pressedAt_23 : decode cX6_pressedAt 23 = .ok (.getfield 39, 3) := by decide +kernel
theorem dX6_pressedAt_26 : decode cX6_pressedAt 26 = .ok (.if_icmp .ge 42, 3) := by decide +kernel
theorem dX6_pressedAt_29 : decode cX6_pressedAt 29 = .ok (.lload 4, 2) := by decide +kernel
theorem dX6_pressedAt_31 : decode cX6_pressedAt 31 = .ok (.aload_n 0, 1) := by decide +kernel
theorem dX6_pressedAt_32 : decode cX6_pressedAt 32 = .ok (.getfield 15, 3) := by decide +kernel
theorem dX6_pressedAt_35 : decode cX6_pressedAt 35 = .ok (.iload 6, 2) := by decide +kernel
theorem dX6_pressedAt_37 : decode cX6_pressedAt 37 = .ok (.iaload, 1) := by decide +kernel
theorem dX6_pressedAt_38 : decode cX6_pressedAt 38 = .ok (.i2l, 1) := by decide +kernel
theorem dX6_pressedAt_39 : decode cX6_pressedAt 39 = .ok (.aload_n 1, 1) := by decide +kernel
theorem dX6_pressedAt_40 : decode cX6_pressedAt 40 = .ok (.getfield 48, 3) := by decide +kernel
theorem dX6_pressedAt_43 : decode cX6_pressedAt 43 = .ok (.iload_n 2, 1) := by decide +kernel
theorem dX6_pressedAt_44 : decode cX6_pressedAt 44 = .ok (.aaload, 1) := by decide +kernel
theorem dX6_pressedAt_45 : decode cX6_pressedAt 45 = .ok (.iload_n 3, 1) := by decide +kernel
theorem dX6_pressedAt_46 : decode cX6_pressedAt 46 = .ok (.iaload, 1) := by decide +kernel
theorem dX6_pressedAt_47 : decode cX6_pressedAt 47 = .ok (.aload_n 1, 1) := by decide +kernel
theorem dX6_pressedAt_48 : decode cX6_pressedAt 48 = .ok (.getfield 48, 3) := by decide +kernel
theorem dX6_pressedAt_51 : decode cX6_pressedAt 51 = .ok (.iload 6, 2) := by decide +kernel
theorem dX6_pressedAt_53 : decode cX6_pressedAt 53 = .ok (.aaload, 1) := by decide +kernel
theorem dX6_pressedAt_54 : decode cX6_pressedAt 54 = .ok (.iload_n 3, 1) := by decide +kernel
theorem dX6_pressedAt_55 : decode cX6_pressedAt 55 = .ok (.iaload, 1) := by decide +kernel
theorem dX6_pressedAt_56 : decode cX6_pressedAt 56 = .ok (.isub, 1) := by decide +kernel
theorem dX6_pressedAt_57 : decode cX6_pressedAt 57 = .ok (.i2l, 1) := by decide +kernel
theorem dX6_pressedAt_58 : decode cX6_pressedAt 58 = .ok (.lmul, 1) := by decide +kernel
theorem dX6_pressedAt_59 : decode cX6_pressedAt 59 = .ok (.ladd, 1) := by decide +kernel
theorem dX6_pressedAt_60 : decode cX6_pressedAt 60 = .ok (.lstore 4, 2) := by decide +kernel
theorem dX6_pressedAt_62 : decode cX6_pressedAt 62 = .ok (.iinc 6 1, 3) := by decide +kernel
theorem dX6_pressedAt_65 : decode cX6_pressedAt 65 = .ok (.goto (-45), 3) := by decide +kernel
theorem dX6_pressedAt_68 : decode cX6_pressedAt 68 = .ok (.lload 4, 2) := by decide +kernel
theorem dX6_pressedAt_70 : decode cX6_pressedAt 70 = .ok (.lreturn, 1) := by decide +kernel
set_option maxRecDepth 20000 in
theorem ggX6_leastOf_X3_feltOf : GoodIn wsX6_leastOf wsX3_feltOf := goodIn_r _ [12, 13, 14, 15, 16, 6, 17, 18, 19, 20, 21, 22, 23, 24, 25, 26, 27, 28, 29] (by decide +kernel) (by decide +kernel)
set_option maxRecDepth 20000 in
theorem gX6_leastOf_X3_feltOf : GoodIn wsX6_leastOf (wsV RX6 75 RX3 yX3_feltOf wsX3_feltOf) := goodIn_app (goodIn_of _ (by decide +kernel)) ggX6_leastOf_X3_feltOf
theorem dX6_leastOf_0 : decode cX6_leastOf 0 = .ok (.lload_n 1, 1) := by decide +kernel
theorem dX6_leastOf_1 : decode cX6_leastOf 1 = .ok (.aload_n 0, 1) := by decide +kernel
theorem dX6_leastOf_2 : decode cX6_leastOf 2 = .ok (.getfield 72, 3) := by decide +kernel
theorem dX6_leastOf_5 : decode cX6_leastOf 5 = .ok (.i2l, 1) := by decide +kernel
theorem dX6_leastOf_6 : decode cX6_leastOf 6 = .ok (.lmul, 1) := by decide +kernel
theorem dX6_leastOf_7 : decode cX6_leastOf 7 = .ok (.lload_n 3, 1) := by decide +kernel
theorem dX6_leastOf_8 : decode cX6_leastOf 8 = .ok (.aload_n 0, 1) := by decide +kernel
theorem dX6_leastOf_9 : decode cX6_leastOf 9 = .ok (.aload_n 0, 1) := by decide +kernel
theorem dX6_leastOf_10 : decode cX6_leastOf 10 = .ok (.getfield 72, 3) := by decide +kernel
theorem dX6_leastOf_13 : decode cX6_leastOf 13 = .ok (.invokevirtual 75, 3) := by decide +kernel
theorem dX6_leastOf_16 : decode cX6_leastOf 16 = .ok (.i2l, 1) := by decide +kernel
theorem dX6_leastOf_17 : decode cX6_leastOf 17 = .ok (.lmul, 1) := by decide +kernel
theorem dX6_leastOf_18 : decode cX6_leastOf 18 = .ok (.lsub, 1) := by decide +kernel
theorem dX6_leastOf_19 : decode cX6_leastOf 19 = .ok (.lstore 5, 2) := by decide +kernel
theorem dX6_leastOf_21 : decode cX6_leastOf 21 = .ok (.iconst 0, 1) := by decide +kernel
theorem dX6_leastOf_22 : decode cX6_leastOf 22 = .ok (.istore 7, 2) := by decide +kernel
theorem dX6_leastOf_24 : decode cX6_leastOf 24 = .ok (.iload 7, 2) := by decide +kernel
theorem dX6_leastOf_26 : decode cX6_leastOf 26 = .ok (.aload_n 0, 1) := by decide +kernel
theorem dX6_leastOf_27 : decode cX6_leastOf 27 = .ok (.getfield 59, 3) := by decide +kernel
theorem dX6_leastOf_30 : decode cX6_leastOf 30 = .ok (.iconst 1, 1) := by decide +kernel
theorem dX6_leastOf_31 : decode cX6_leastOf 31 = .ok (.isub, 1) := by decide +kernel
theorem dX6_leastOf_32 : decode cX6_leastOf 32 = .ok (.if_icmp .ge 49, 3) := by decide +kernel
theorem dX6_leastOf_35 : decode cX6_leastOf 35 = .ok (.aload_n 0, 1) := by decide +kernel
theorem dX6_leastOf_36 : decode cX6_leastOf 36 = .ok (.getfield 79, 3) := by decide +kernel
theorem dX6_leastOf_39 : decode cX6_leastOf 39 = .ok (.iload 7, 2) := by decide +kernel
theorem dX6_leastOf_41 : decode cX6_leastOf 41 = .ok (.iaload, 1) := by decide +kernel
theorem dX6_leastOf_42 : decode cX6_leastOf 42 = .ok (.istore 8, 2) := by decide +kernel
theorem dX6_leastOf_44 : decode cX6_leastOf 44 = .ok (.iload 8, 2) := by decide +kernel
theorem dX6_leastOf_46 : decode cX6_leastOf 46 = .ok (.aload_n 0, 1) := by decide +kernel
theorem dX6_leastOf_47 : decode cX6_leastOf 47 = .ok (.getfield 72, 3) := by decide +kernel
theorem dX6_leastOf_50 : decode cX6_leastOf 50 = .ok (.if_icmp .le 25, 3) := by decide +kernel
theorem dX6_leastOf_53 : decode cX6_leastOf 53 = .ok (.lload 5, 2) := by decide +kernel
theorem dX6_leastOf_55 : decode cX6_leastOf 55 = .ok (.lload_n 1, 1) := by decide +kernel
theorem dX6_leastOf_56 : decode cX6_leastOf 56 = .ok (.iload 8, 2) := by decide +kernel
theorem dX6_leastOf_58 : decode cX6_leastOf 58 = .ok (.i2l, 1) := by decide +kernel
theorem dX6_leastOf_59 : decode cX6_leastOf 59 = .ok (.lmul, 1) := by decide +kernel
theorem dX6_leastOf_60 : decode cX6_leastOf 60 = .ok (.lload_n 3, 1) := by decide +kernel
theorem dX6_leastOf_61 : decode cX6_leastOf 61 = .ok (.aload_n 0, 1) := by decide +kernel
theorem dX6_leastOf_62 : decode cX6_leastOf 62 = .ok (.iload 8, 2) := by decide +kernel
theorem dX6_leastOf_64 : decode cX6_leastOf 64 = .ok (.invokevirtual 75, 3) := by decide +kernel
theorem dX6_leastOf_67 : decode cX6_leastOf 67 = .ok (.i2l, 1) := by decide +kernel
theorem dX6_leastOf_68 : decode cX6_leastOf 68 = .ok (.lmul, 1) := by decide +kernel
theorem dX6_leastOf_69 : decode cX6_leastOf 69 = .ok (.lsub, 1) := by decide +kernel
theorem dX6_leastOf_70 : decode cX6_leastOf 70 = .ok (.invokestatic 82, 3) := by decide +kernel
theorem dX6_leastOf_73 : decode cX6_leastOf 73 = .ok (.lstore 5, 2) := by decide +kernel
theorem dX6_leastOf_75 : decode cX6_leastOf 75 = .ok (.iinc 7 1, 3) := by decide +kernel
theorem dX6_leastOf_78 : decode cX6_leastOf 78 = .ok (.goto (-54), 3) := by decide +kernel
theorem dX6_leastOf_81 : decode cX6_leastOf 81 = .ok (.lload 5, 2) := by decide +kernel
theorem dX6_leastOf_83 : decode cX6_leastOf 83 = .ok (.lreturn, 1) := by decide +kernel
set_option maxRecDepth 20000 in
theorem ggX6_isRuledOut_X6_mixedChance : GoodIn wsX6_isRuledOut wsX6_mixedChance := goodIn_r _ [10, 1, 2, 5, 11, 12, 13, 14, 15, 16, 17, 18, 19, 20, 21, 22, 23, 24, 25] (by decide +kernel) (by decide +kernel)
set_option maxRecDepth 20000 in
theorem gX6_isRuledOut_X6_mixedChance : GoodIn wsX6_isRuledOut (wsV RX6 88 RX6 yX6_mixedChance wsX6_mixedChance) := goodIn_app (goodIn_of _ (by decide +kernel)) ggX6_isRuledOut_X6_mixedChance
theorem dX6_isRuledOut_0 : decode cX6_isRuledOut 0 = .ok (.iconst 0, 1) := by decide +kernel
theorem dX6_isRuledOut_1 : decode cX6_isRuledOut 1 = .ok (.istore_n 3, 1) := by decide +kernel
theorem dX6_isRuledOut_2 : decode cX6_isRuledOut 2 = .ok (.iconst 0, 1) := by decide +kernel
theorem dX6_isRuledOut_3 : decode cX6_isRuledOut 3 = .ok (.istore 4, 2) := by decide +kernel
theorem dX6_isRuledOut_5 : decode cX6_isRuledOut 5 = .ok (.iconst 0, 1) := by decide +kernel
theorem dX6_isRuledOut_6 : decode cX6_isRuledOut 6 = .ok (.istore 5, 2) := by decide +kernel
theorem dX6_isRuledOut_8 : decode cX6_isRuledOut 8 = .ok (.iload 5, 2) := by decide +kernel
theorem dX6_isRuledOut_10 : decode cX6_isRuledOut 10 = .ok (.aload_n 1, 1) := by decide +kernel
theorem dX6_isRuledOut_11 : decode cX6_isRuledOut 11 = .ok (.getfield 39, 3) := by decide +kernel
theorem dX6_isRuledOut_14 : decode cX6_isRuledOut 14 = .ok (.if_icmp .ge 45, 3) := by decide +kernel
theorem dX6_isRuledOut_17 : decode cX6_isRuledOut 17 = .ok (.iload 5, 2) := by decide +kernel
theorem dX6_isRuledOut_19 : decode cX6_isRuledOut 19 = .ok (.iload_n 2, 1) := by decide +kernel
theorem dX6_isRuledOut_20 : decode cX6_isRuledOut 20 = .ok (.if_icmp .eq 33, 3) := by decide +kernel
theorem dX6_isRuledOut_23 : decode cX6_isRuledOut 23 = .ok (.iload_n 3, 1) := by decide +kernel
theorem dX6_isRuledOut_24 : decode cX6_isRuledOut 24 = .ok (.aload_n 0, 1) := by decide +kernel
theorem dX6_isRuledOut_25 : decode cX6_isRuledOut 25 = .ok (.getfield 22, 3) := by decide +kernel
theorem dX6_isRuledOut_28 : decode cX6_isRuledOut 28 = .ok (.iload 5, 2) := by decide +kernel
theorem dX6_isRuledOut_30 : decode cX6_isRuledOut 30 = .ok (.iaload, 1) := by decide +kernel
theorem dX6_isRuledOut_31 : decode cX6_isRuledOut 31 = .ok (.iadd, 1) := by decide +kernel
theorem dX6_isRuledOut_32 : decode cX6_isRuledOut 32 = .ok (.istore_n 3, 1) := by decide +kernel
theorem dX6_isRuledOut_33 : decode cX6_isRuledOut 33 = .ok (.iload 4, 2) := by decide +kernel
theorem dX6_isRuledOut_35 : decode cX6_isRuledOut 35 = .ok (.aload_n 0, 1) := by decide +kernel
theorem dX6_isRuledOut_36 : decode cX6_isRuledOut 36 = .ok (.getfield 22, 3) := by decide +kernel
theorem dX6_isRuledOut_39 : decode cX6_isRuledOut 39 = .ok (.iload 5, 2) := by decide +kernel
theorem dX6_isRuledOut_41 : decode cX6_isRuledOut 41 = .ok (.iaload, 1) := by decide +kernel
theorem dX6_isRuledOut_42 : decode cX6_isRuledOut 42 = .ok (.aload_n 1, 1) := by decide +kernel
theorem dX6_isRuledOut_43 : decode cX6_isRuledOut 43 = .ok (.getfield 31, 3) := by decide +kernel
theorem dX6_isRuledOut_46 : decode cX6_isRuledOut 46 = .ok (.iload 5, 2) := by decide +kernel
theorem dX6_isRuledOut_48 : decode cX6_isRuledOut 48 = .ok (.iaload, 1) := by decide +kernel
theorem dX6_isRuledOut_49 : decode cX6_isRuledOut 49 = .ok (.imul, 1) := by decide +kernel
theorem dX6_isRuledOut_50 : decode cX6_isRuledOut 50 = .ok (.iadd, 1) := by decide +kernel
theorem dX6_isRuledOut_51 : decode cX6_isRuledOut 51 = .ok (.istore 4, 2) := by decide +kernel
theorem dX6_isRuledOut_53 : decode cX6_isRuledOut 53 = .ok (.iinc 5 1, 3) := by decide +kernel
theorem dX6_isRuledOut_56 : decode cX6_isRuledOut 56 = .ok (.goto (-48), 3) := by decide +kernel
theorem dX6_isRuledOut_59 : decode cX6_isRuledOut 59 = .ok (.iconst 0, 1) := by decide +kernel
theorem dX6_isRuledOut_60 : decode cX6_isRuledOut 60 = .ok (.istore 5, 2) := by decide +kernel
theorem dX6_isRuledOut_62 : decode cX6_isRuledOut 62 = .ok (.iload 5, 2) := by decide +kernel
theorem dX6_isRuledOut_64 : decode cX6_isRuledOut 64 = .ok (.aload_n 1, 1) := by decide +kernel
theorem dX6_isRuledOut_65 : decode cX6_isRuledOut 65 = .ok (.getfield 45, 3) := by decide +kernel
theorem dX6_isRuledOut_68 : decode cX6_isRuledOut 68 = .ok (.if_icmp .ge 33, 3) := by decide +kernel
theorem dX6_isRuledOut_71 : decode cX6_isRuledOut 71 = .ok (.aload_n 0, 1) := by decide +kernel
theorem dX6_isRuledOut_72 : decode cX6_isRuledOut 72 = .ok (.aload_n 1, 1) := by decide +kernel
theorem dX6_isRuledOut_73 : decode cX6_isRuledOut 73 = .ok (.iload_n 2, 1) := by decide +kernel
theorem dX6_isRuledOut_74 : decode cX6_isRuledOut 74 = .ok (.iload 5, 2) := by decide +kernel
theorem dX6_isRuledOut_76 : decode cX6_isRuledOut 76 = .ok (.invokevirtual 88, 3) := by decide +kernel
theorem dX6_isRuledOut_79 : decode cX6_isRuledOut 79 = .ok (.iload_n 3, 1) := by decide +kernel
theorem dX6_isRuledOut_80 : decode cX6_isRuledOut 80 = .ok (.aload_n 1, 1) := by decide +kernel
theorem dX6_isRuledOut_81 : decode cX6_isRuledOut 81 = .ok (.getfield 48, 3) := by decide +kernel
theorem dX6_isRuledOut_84 : decode cX6_isRuledOut 84 = .ok (.iload_n 2, 1) := by decide +kernel
theorem dX6_isRuledOut_85 : decode cX6_isRuledOut 85 = .ok (.aaload, 1) := by decide +kernel
theorem dX6_isRuledOut_86 : decode cX6_isRuledOut 86 = .ok (.iload 5, 2) := by decide +kernel
theorem dX6_isRuledOut_88 : decode cX6_isRuledOut 88 = .ok (.iaload, 1) := by decide +kernel
theorem dX6_isRuledOut_89 : decode cX6_isRuledOut 89 = .ok (.imul, 1) := by decide +kernel
theorem dX6_isRuledOut_90 : decode cX6_isRuledOut 90 = .ok (.if_icmp .eq 5, 3) := by decide +kernel
theorem dX6_isRuledOut_93 : decode cX6_isRuledOut 93 = .ok (.iconst 0, 1) := by decide +kernel
theorem dX6_isRuledOut_94 : decode cX6_isRuledOut 94 = .ok (.ireturn, 1) := by decide +kernel
theorem dX6_isRuledOut_95 : decode cX6_isRuledOut 95 = .ok (.iinc 5 1, 3) := by decide +kernel
theorem dX6_isRuledOut_98 : decode cX6_isRuledOut 98 = .ok (.goto (-36), 3) := by decide +kernel
theorem dX6_isRuledOut_101 : decode cX6_isRuledOut 101 = .ok (.iload 4, 2) := by decide +kernel
theorem dX6_isRuledOut_103 : decode cX6_isRuledOut 103 = .ok (.iload_n 3, 1) := by decide +kernel
theorem dX6_isRuledOut_104 : decode cX6_isRuledOut 104 = .ok (.aload_n 1, 1) := by decide +kernel
theorem dX6_isRuledOut_105 : decode cX6_isRuledOut 105 = .ok (.getfield 31, 3) := by decide +kernel
theorem dX6_isRuledOut_108 : decode cX6_isRuledOut 108 = .ok (.iload_n 2, 1) := by decide +kernel
theorem dX6_isRuledOut_109 : decode cX6_isRuledOut 109 = .ok (.iaload, 1) := by decide +kernel
theorem dX6_isRuledOut_110 : decode cX6_isRuledOut 110 = .ok (.imul, 1) := by decide +kernel
theorem dX6_isRuledOut_111 : decode cX6_isRuledOut 111 = .ok (.if_icmp .ge 7, 3) := by decide +kernel
theorem dX6_isRuledOut_114 : decode cX6_isRuledOut 114 = .ok (.iconst 1, 1) := by decide +kernel
theorem dX6_isRuledOut_115 : decode cX6_isRuledOut 115 = .ok (.goto 4, 3) := by decide +kernel
theorem dX6_isRuledOut_118 : decode cX6_isRuledOut 118 = .ok (.iconst 0, 1) := by decide +kernel
theorem dX6_isRuledOut_119 : decode cX6_isRuledOut 119 = .ok (.ireturn, 1) := by decide +kernel
theorem dX6_mixedChance_0 : decode cX6_mixedChance 0 = .ok (.iconst 0, 1) := by decide +kernel
theorem dX6_mixedChance_1 : decode cX6_mixedChance 1 = .ok (.istore 4, 2) := by decide +kernel
theorem dX6_mixedChance_3 : decode cX6_mixedChance 3 = .ok (.iconst 0, 1) := by decide +kernel
theorem dX6_mixedChance_4 : decode cX6_mixedChance 4 = .ok (.istore 5, 2) := by decide +kernel
theorem dX6_mixedChance_6 : decode cX6_mixedChance 6 = .ok (.iload 5, 2) := by decide +kernel
theorem dX6_mixedChance_8 : decode cX6_mixedChance 8 = .ok (.aload_n 1, 1) := by decide +kernel
theorem dX6_mixedChance_9 : decode cX6_mixedChance 9 = .ok (.getfield 39, 3) := by decide +kernel
theorem dX6_mixedChance_12 : decode cX6_mixedChance 12 = .ok (.if_icmp .ge 37, 3) := by decide +kernel
theorem dX6_mixedChance_15 : decode cX6_mixedChance 15 = .ok (.iload 5, 2) := by decide +kernel
theorem dX6_mixedChance_17 : decode cX6_mixedChance 17 = .ok (.iload_n 2, 1) := by decide +kernel
theorem dX6_mixedChance_18 : decode cX6_mixedChance 18 = .ok (.if_icmp .eq 25, 3) := by decide +kernel
theorem dX6_mixedChance_21 : decode cX6_mixedChance 21 = .ok (.iload 4, 2) := by decide +kernel
theorem dX6_mixedChance_23 : decode cX6_mixedChance 23 = .ok (.aload_n 0, 1) := by decide +kernel
theorem dX6_mixedChance_24 : decode cX6_mixedChance 24 = .ok (.getfield 22, 3) := by decide +kernel
theorem dX6_mixedChance_27 : decode cX6_mixedChance 27 = .ok (.iload 5, 2) := by decide +kernel
theorem dX6_mixedChance_29 : decode cX6_mixedChance 29 = .ok (.iaload, 1) := by decide +kernel
theorem dX6_mixedChance_30 : decode cX6_mixedChance 30 = .ok (.aload_n 1, 1) := by decide +kernel
theorem dX6_mixedChance_31 : decode cX6_mixedChance 31 = .ok (.getfield 48, 3) := by decide +kernel
theorem dX6_mixedChance_34 : decode cX6_mixedChance 34 = .ok (.iload 5, 2) := by decide +kernel
theorem dX6_mixedChance_36 : decode cX6_mixedChance 36 = .ok (.aaload, 1) := by decide +kernel
theorem dX6_mixedChance_37 : decode cX6_mixedChance 37 = .ok (.iload_n 3, 1) := by decide +kernel
theorem dX6_mixedChance_38 : decode cX6_mixedChance 38 = .ok (.iaload, 1) := by decide +kernel
theorem dX6_mixedChance_39 : decode cX6_mixedChance 39 = .ok (.imul, 1) := by decide +kernel
theorem dX6_mixedChance_40 : decode cX6_mixedChance 40 = .ok (.iadd, 1) := by decide +kernel
theorem dX6_mixedChance_41 : decode cX6_mixedChance 41 = .ok (.istore 4, 2) := by decide +kernel
theorem dX6_mixedChance_43 : decode cX6_mixedChance 43 = .ok (.iinc 5 1, 3) := by decide +kernel
theorem dX6_mixedChance_46 : decode cX6_mixedChance 46 = .ok (.goto (-40), 3) := by decide +kernel
theorem dX6_mixedChance_49 : decode cX6_mixedChance 49 = .ok (.iload 4, 2) := by decide +kernel
theorem dX6_mixedChance_51 : decode cX6_mixedChance 51 = .ok (.ireturn, 1) := by decide +kernel
theorem kk_X6_boundInto_0 : Cond.fieldLink RX6 19 "PaidBySigns$Proofs" "pressOfElse" "I" ∈ wsX6_boundInto := pm_X6_boundInto_r1 _ (List.mem_of_getElem? (i := 0) rfl)
theorem kk_X6_boundInto_1 : Cond.fieldLink RX6 31 "PaidBySigns$Hire" "costs" "[I" ∈ wsX6_boundInto := pm_X6_boundInto_r1 _ (List.mem_of_getElem? (i := 1) rfl)
theorem kk_X6_boundInto_2 : Cond.fieldLink RX6 36 "PaidBySigns$Hire" "otherwise" "I" ∈ wsX6_boundInto := pm_X6_boundInto_r1 _ (List.mem_of_getElem? (i := 2) rfl)
theorem kk_X6_boundInto_3 : Cond.fieldLink RX6 39 "PaidBySigns$Hire" "works" "I" ∈ wsX6_boundInto := pm_X6_boundInto_r1 _ (List.mem_of_getElem? (i := 3) rfl)
theorem kk_X6_boundInto_4 : Cond.fieldLink RX6 42 "PaidBySigns$Hire" "whole" "I" ∈ wsX6_boundInto := pm_X6_boundInto_r1 _ (List.mem_of_getElem? (i := 5) rfl)
theorem kk_X6_boundInto_5 : Cond.fieldLink RX6 45 "PaidBySigns$Hire" "signs" "I" ∈ wsX6_boundInto := pm_X6_boundInto_r1 _ (List.mem_of_getElem? (i := 6) rfl)
theorem kk_X6_boundInto_6 : Cond.fieldLink RX6 9 "PaidBySigns$Proofs" "lowerNumber" "I" ∈ wsX6_boundInto := pm_X6_boundInto_r1 _ (List.mem_of_getElem? (i := 8) rfl)
theorem kk_X6_boundInto_7 : Cond.fieldLink RX6 48 "PaidBySigns$Hire" "chances" "[[I" ∈ wsX6_boundInto := pm_X6_boundInto_r1 _ (List.mem_of_getElem? (i := 7) rfl)
theorem kk_X6_pressedAt_0 : Cond.fieldLink RX6 19 "PaidBySigns$Proofs" "pressOfElse" "I" ∈ wsX6_pressedAt := by decide +kernel
theorem kk_X6_pressedAt_1 : Cond.fieldLink RX6 48 "PaidBySigns$Hire" "chances" "[[I" ∈ wsX6_pressedAt := by decide +kernel
theorem kk_X6_pressedAt_2 : Cond.fieldLink RX6 39 "PaidBySigns$Hire" "works" "I" ∈ wsX6_pressedAt := by decide +kernel
theorem kk_X6_pressedAt_3 : Cond.fieldLink RX6 15 "PaidBySigns$Proofs" "press" "[I" ∈ wsX6_pressedAt := by decide +kernel
theorem kk_X6_boundInto_8 : Cond.fieldLink RX6 56 "PaidBySigns$Hire" "rate" "[I" ∈ wsX6_boundInto := pm_X6_boundInto_r1 _ (List.mem_of_getElem? (i := 9) rfl)
theorem kk_X6_boundInto_9 : Cond.fieldLink RX6 59 "PaidBySigns$Hire" "rates" "I" ∈ wsX6_boundInto := pm_X6_boundInto_r1 _ (List.mem_of_getElem? (i := 10) rfl)
theorem kk_X6_leastOf_0 : Cond.fieldLink RX6 72 "PaidBySigns$Hire" "least" "I" ∈ wsX6_leastOf := by decide +kernel
theorem kk_X6_leastOf_1 : Cond.fieldLink RX6 59 "PaidBySigns$Hire" "rates" "I" ∈ wsX6_leastOf := by decide +kernel
theorem kk_X6_leastOf_2 : Cond.fieldLink RX6 79 "PaidBySigns$Hire" "mark" "[I" ∈ wsX6_leastOf := by decide +kernel
theorem kk_X6_leastOf_3 : Cond.methodLink RX6 82 Lib.MathLoose.min_long.x ∈ wsX6_leastOf := by decide +kernel
theorem kk_X6_leastOf_4 : Cond.static Lib.MathLoose.min_long.x ∈ wsX6_leastOf := by decide +kernel
theorem kk_X6_leastOf_5 : Cond.initialized "java/lang/Math" ∈ wsX6_leastOf := by decide +kernel
theorem kk_X6_leastOf_6 : Cond.code Lib.MathLoose.min_long.x Lib.MathLoose.min_long.code 4 (some .long) ∈ wsX6_leastOf := by decide +kernel
theorem kk_X6_boundInto_10 : Cond.fieldLink RX6 15 "PaidBySigns$Proofs" "press" "[I" ∈ wsX6_boundInto := pm_X6_boundInto_r1 _ (List.mem_of_getElem? (i := 4) rfl)
theorem kk_X6_isRuledOut_0 : Cond.fieldLink RX6 39 "PaidBySigns$Hire" "works" "I" ∈ wsX6_isRuledOut := by decide +kernel
theorem kk_X6_isRuledOut_1 : Cond.fieldLink RX6 45 "PaidBySigns$Hire" "signs" "I" ∈ wsX6_isRuledOut := by decide +kernel
theorem kk_X6_isRuledOut_2 : Cond.fieldLink RX6 31 "PaidBySigns$Hire" "costs" "[I" ∈ wsX6_isRuledOut := by decide +kernel
theorem kk_X6_mixedChance_0 : Cond.fieldLink RX6 39 "PaidBySigns$Hire" "works" "I" ∈ wsX6_mixedChance := by decide +kernel
theorem kk_X6_mixedChance_1 : Cond.fieldLink RX6 22 "PaidBySigns$Proofs" "mixed" "[I" ∈ wsX6_mixedChance := by decide +kernel
theorem kk_X6_mixedChance_2 : Cond.fieldLink RX6 48 "PaidBySigns$Hire" "chances" "[[I" ∈ wsX6_mixedChance := by decide +kernel
theorem kk_X6_isRuledOut_3 : Cond.fieldLink RX6 48 "PaidBySigns$Hire" "chances" "[[I" ∈ wsX6_isRuledOut := by decide +kernel
theorem kk_X6_isRuledOut_4 : Cond.fieldLink RX6 22 "PaidBySigns$Proofs" "mixed" "[I" ∈ wsX6_isRuledOut := by decide +kernel
theorem iw_X6_boundInto_X6 : ∀ w ∈ wsX60, w ∈ wsX6_boundInto := pw_X6_boundInto_X6
theorem iw_X6_boundInto_X3 : ∀ w ∈ wsX30, w ∈ wsX6_boundInto := pw_X6_boundInto_X3
theorem iw_X6_pressedAt_X6 : ∀ w ∈ wsX60, w ∈ wsX6_pressedAt := by decide +kernel
theorem iw_X6_pressedAt_X3 : ∀ w ∈ wsX30, w ∈ wsX6_pressedAt := by decide +kernel
theorem iw_X6_leastOf_X3 : ∀ w ∈ wsX30, w ∈ wsX6_leastOf := by decide +kernel
theorem iw_X6_isRuledOut_X3 : ∀ w ∈ wsX30, w ∈ wsX6_isRuledOut := by decide +kernel
theorem iw_X6_mixedChance_X3 : ∀ w ∈ wsX30, w ∈ wsX6_mixedChance := by decide +kernel
theorem iw_X6_mixedChance_X6 : ∀ w ∈ wsX60, w ∈ wsX6_mixedChance := by decide +kernel
theorem iw_X6_isRuledOut_X6 : ∀ w ∈ wsX60, w ∈ wsX6_isRuledOut := by decide +kernel

def tyX7 : Nat → FieldType := fun k => match k with
  | 0 => .int
  | 1 => .int
  | 2 => .int
  | 3 => .object "PaidBySigns$Hire"
  | 4 => .array .byte
  | 5 => .int
  | 6 => .int
  | 7 => .int
  | 8 => .int
  | 9 => .array .int
  | 10 => .array .int
  | 11 => .boolean
  | 12 => .boolean
  | _ => .boolean
abbrev wsX70 : List Cond := u_ws RX7 TX7 14
theorem nmX7 : ∀ a, a < 14 → ∀ b, b < 14 → a ≠ b → (TX7 a).2.1 ≠ (TX7 b).2.1 := by decide +kernel
theorem tyX7_ok : ∀ k, k < 14 → parseFieldDescriptor (TX7 k).2.2.1 = some (tyX7 k) := by decide +kernel
abbrev cX7_append : ByteArray := prog_9_method_2_code
def yX7_append : MethodName := ⟨RX7, "append", "(I)V"⟩
abbrev cX7_isWord : ByteArray := prog_9_method_20_code
def yX7_isWord : MethodName := ⟨RX7, "isWord", "(Ljava/lang/String;)Z"⟩
abbrev cX7_advance : ByteArray := prog_9_method_21_code
def yX7_advance : MethodName := ⟨RX7, "advance", "()V"⟩
abbrev cX7_takeRun : ByteArray := prog_9_method_22_code
def yX7_takeRun : MethodName := ⟨RX7, "takeRun", "()V"⟩
abbrev cX7_kindOf : ByteArray := prog_9_method_23_code
def yX7_kindOf : MethodName := ⟨RX7, "kindOf", "(B)I"⟩
def wsX7_append : List Cond := .code yX7_append cX7_append 3 none :: ([.fieldLink RX7 9 "PaidBySigns$Reader" "length" "I", .fieldLink RX7 28 "PaidBySigns$Reader" "text" "[B"] ++ wsX70)
def wsX7_kindOf : List Cond := .code yX7_kindOf cX7_kindOf 1 (some .int) :: ([])
def wsX7_takeRun : List Cond := .code yX7_takeRun cX7_takeRun 2 none :: ([.fieldLink RX7 32 "PaidBySigns$Reader" "next" "I", .fieldLink RX7 9 "PaidBySigns$Reader" "length" "I", .fieldLink RX7 28 "PaidBySigns$Reader" "text" "[B", .fieldLink RX7 35 "PaidBySigns$Reader" "token" "I", .fieldLink RX7 38 "PaidBySigns$Reader" "start" "I", .methodLink RX7 180 yX7_kindOf, .static yX7_kindOf, .initialized RX7, .code yX7_kindOf cX7_kindOf 1 (some .int)] ++ wsX70)
def wsX7_advance : List Cond := .code yX7_advance cX7_advance 1 none :: ([.fieldLink RX7 32 "PaidBySigns$Reader" "next" "I", .fieldLink RX7 9 "PaidBySigns$Reader" "length" "I", .fieldLink RX7 28 "PaidBySigns$Reader" "text" "[B", .fieldLink RX7 38 "PaidBySigns$Reader" "start" "I", .fieldLink RX7 35 "PaidBySigns$Reader" "token" "I", .methodLink RX7 180 yX7_kindOf, .static yX7_kindOf, .initialized RX7, .code yX7_kindOf cX7_kindOf 1 (some .int), .methodLink RX7 184 yX7_takeRun, .instanceMethod yX7_takeRun, .selects RX7 yX7_takeRun yX7_takeRun, .code yX7_takeRun cX7_takeRun 2 none] ++ wsX70)
def wsX7_isWord_r1 : List Cond := [Cond.fieldLink RX7 35 "PaidBySigns$Reader" "token" "I", Cond.fieldLink RX7 32 "PaidBySigns$Reader" "next" "I", Cond.fieldLink RX7 38 "PaidBySigns$Reader" "start" "I", Cond.fieldLink RX7 28 "PaidBySigns$Reader" "text" "[B", Cond.methodLink RX7 171 yJ0_length_8abf5, Cond.instanceMethod yJ0_length_8abf5, Cond.selects RJ0 yJ0_length_8abf5 yJ0_length_8abf5, Cond.initialized RJ0, Cond.code yJ0_length_8abf5 cJ0_length_8abf5 1 (some .int), Cond.fieldLink RJ0 9 "java/lang/String" "value" "[B", Cond.methodLink RJ0 335 yJ0_coder_7d493, Cond.instanceMethod yJ0_coder_7d493, Cond.selects RJ0 yJ0_coder_7d493 yJ0_coder_7d493, Cond.code yJ0_coder_7d493 cJ0_coder_7d493 1 (some .byte), Cond.fieldLink RJ0 38 "java/lang/String" "COMPACT_STRINGS" "Z", Cond.fieldLink RJ0 15 "java/lang/String" "coder" "B", Cond.methodLink RX7 176 yJ0_charAt_5068e, Cond.instanceMethod yJ0_charAt_5068e, Cond.selects RJ0 yJ0_charAt_5068e yJ0_charAt_5068e, Cond.code yJ0_charAt_5068e cJ0_charAt_5068e 2 (some .char), Cond.methodLink RJ0 492 yJ0_isLatin1_aae02, Cond.instanceMethod yJ0_isLatin1_aae02, Cond.selects RJ0 yJ0_isLatin1_aae02 yJ0_isLatin1_aae02, Cond.code yJ0_isLatin1_aae02 cJ0_isLatin1_aae02 1 (some .boolean)]
def wsX7_isWord_r2 : List Cond := [Cond.methodLink RJ0 495 yJ1_charAt_3b067, Cond.static yJ1_charAt_3b067, Cond.initialized RJ1, Cond.code yJ1_charAt_3b067 cJ1_charAt_3b067 2 (some .char), Cond.methodLink RJ1 9 yJ0_checkIndex_df160, Cond.static yJ0_checkIndex_df160, Cond.code yJ0_checkIndex_df160 cJ0_checkIndex_df160 2 none, Cond.fieldLink RJ0 1053 "jdk/internal/util/Preconditions" "SIOOBE_FORMATTER" "Ljava/util/function/BiFunction;", Cond.methodLink RJ0 1059 yJ3_checkIndex_8e157, Cond.static yJ3_checkIndex_8e157, Cond.initialized RJ3, Cond.code yJ3_checkIndex_8e157 cJ3_checkIndex_8e157 3 (some .int), Cond.methodLink RJ0 498 yJ2_charAt_3b067, Cond.static yJ2_charAt_3b067, Cond.initialized RJ2, Cond.code yJ2_charAt_3b067 cJ2_charAt_3b067 2 (some .char), Cond.methodLink RJ2 67 yJ2_checkIndex_2214a, Cond.static yJ2_checkIndex_2214a, Cond.code yJ2_checkIndex_2214a cJ2_checkIndex_2214a 2 none, Cond.methodLink RJ2 48 yJ2_length_9d52b, Cond.static yJ2_length_9d52b, Cond.code yJ2_length_9d52b cJ2_length_9d52b 1 (some .int), Cond.methodLink RJ2 414 yJ0_checkIndex_df160, Cond.methodLink RJ2 71 yJ2_getChar_3b067]
def wsX7_isWord_r3 : List Cond := [Cond.static yJ2_getChar_3b067, Cond.code yJ2_getChar_3b067 cJ2_getChar_3b067 2 (some .char), Cond.fieldLink RJ2 44 "java/lang/StringUTF16" "$assertionsDisabled" "Z", Cond.fieldLink RJ2 59 "java/lang/StringUTF16" "HI_BYTE_SHIFT" "I", Cond.fieldLink RJ2 63 "java/lang/StringUTF16" "LO_BYTE_SHIFT" "I"]
def wsX7_isWord : List Cond := .code yX7_isWord cX7_isWord 3 (some .boolean) :: ((wsX7_isWord_r1 ++ (wsX7_isWord_r2 ++ wsX7_isWord_r3)) ++ wsX70)
theorem dX7_append_0 : decode cX7_append 0 = .ok (.bipush 24, 2) := by decide +kernel
theorem dX7_append_2 : decode cX7_append 2 = .ok (.istore_n 2, 1) := by decide +kernel
theorem dX7_append_3 : decode cX7_append 3 = .ok (.iload_n 2, 1) := by decide +kernel
theorem dX7_append_4 : decode cX7_append 4 = .ok (.ifCond .lt 42, 3) := by decide +kernel
theorem dX7_append_7 : decode cX7_append 7 = .ok (.aload_n 0, 1) := by decide +kernel
theorem dX7_append_8 : decode cX7_append 8 = .ok (.getfield 9, 3) := by decide +kernel
theorem dX7_append_11 : decode cX7_append 11 = .ok (.sipush 900, 3) := by decide +kernel
theorem dX7_append_14 : decode cX7_append 14 = .ok (.if_icmp .ge 32, 3) := by decide +kernel
theorem dX7_append_17 : decode cX7_append 17 = .ok (.aload_n 0, 1) := by decide +kernel
theorem dX7_append_18 : decode cX7_append 18 = .ok (.getfield 28, 3) := by decide +kernel
theorem dX7_append_21 : decode cX7_append 21 = .ok (.aload_n 0, 1) := by decide +kernel
theorem dX7_append_22 : decode cX7_append 22 = .ok (.getfield 9, 3) := by decide +kernel
theorem dX7_append_25 : decode cX7_append 25 = .ok (.iload_n 1, 1) := by decide +kernel
theorem dX7_append_26 : decode cX7_append 26 = .ok (.iload_n 2, 1) := by decide +kernel
theorem dX7_append_27 : decode cX7_append 27 = .ok (.iushr, 1) := by decide +kernel
theorem dX7_append_28 : decode cX7_append 28 = .ok (.i2b, 1) := by decide +kernel
theorem dX7_append_29 : decode cX7_append 29 = .ok (.bastore, 1) := by decide +kernel
theorem dX7_append_30 : decode cX7_append 30 = .ok (.aload_n 0, 1) := by decide +kernel
theorem dX7_append_31 : decode cX7_append 31 = .ok (.dup, 1) := by decide +kernel
theorem dX7_append_32 : decode cX7_append 32 = .ok (.getfield 9, 3) := by decide +kernel
theorem dX7_append_35 : decode cX7_append 35 = .ok (.iconst 1, 1) := by decide +kernel
theorem dX7_append_36 : decode cX7_append 36 = .ok (.iadd, 1) := by decide +kernel
theorem dX7_append_37 : decode cX7_append 37 = .ok (.putfield 9, 3) := by decide +kernel
theorem dX7_append_40 : decode cX7_append 40 = .ok (.iinc 2 (-8), 3) := by decide +kernel
theorem dX7_append_43 : decode cX7_append 43 = .ok (.goto (-40), 3) := by decide +kernel
theorem dX7_append_46 : decode cX7_append 46 = .ok (.return_, 1) := by decide +kernel
theorem pm_X7_isWord_r1 : ∀ w ∈ wsX7_isWord_r1, w ∈ wsX7_isWord := fun _ h => List.mem_cons_of_mem _ (List.mem_append_left _ (List.mem_append_left _ h))
theorem pm_X7_isWord_r2 : ∀ w ∈ wsX7_isWord_r2, w ∈ wsX7_isWord := fun _ h => List.mem_cons_of_mem _ (List.mem_append_left _ (List.mem_append_right _ (List.mem_append_left _ h)))
theorem pm_X7_isWord_r3 : ∀ w ∈ wsX7_isWord_r3, w ∈ wsX7_isWord := fun _ h => List.mem_cons_of_mem _ (List.mem_append_left _ (List.mem_append_right _ (List.mem_append_right _ (h))))
theorem pw_X7_isWord_X7 : ∀ w ∈ wsX70, w ∈ wsX7_isWord := fun _ h => List.mem_cons_of_mem _ (List.mem_append_right _ h)
set_option maxRecDepth 20000 in
theorem ggX7_isWord_J0_length_8abf5 : GoodIn wsX7_isWord wsJ0_length_8abf5 := goodIn_sub (List.forall_mem_cons.mpr ⟨pm_X7_isWord_r1 _ (List.mem_of_getElem? (i := 8) rfl), List.forall_mem_cons.mpr ⟨pm_X7_isWord_r1 _ (List.mem_of_getElem? (i := 9) rfl), List.forall_mem_cons.mpr ⟨pm_X7_isWord_r1 _ (List.mem_of_getElem? (i := 10) rfl), List.forall_mem_cons.mpr ⟨pm_X7_isWord_r1 _ (List.mem_of_getElem? (i := 11) rfl), List.forall_mem_cons.mpr ⟨pm_X7_isWord_r1 _ (List.mem_of_getElem? (i := 12) rfl), List.forall_mem_cons.mpr ⟨pm_X7_isWord_r1 _ (List.mem_of_getElem? (i := 7) rfl), List.forall_mem_cons.mpr ⟨pm_X7_isWord_r1 _ (List.mem_of_getElem? (i := 13) rfl), List.forall_mem_cons.mpr ⟨pm_X7_isWord_r1 _ (List.mem_of_getElem? (i := 14) rfl), List.forall_mem_cons.mpr ⟨pm_X7_isWord_r1 _ (List.mem_of_getElem? (i := 15) rfl), fun _ h => absurd h List.not_mem_nil⟩⟩⟩⟩⟩⟩⟩⟩⟩) (by decide +kernel)
set_option maxRecDepth 20000 in
theorem gX7_isWord_J0_length_8abf5 : GoodIn wsX7_isWord (wsV RX7 171 RJ0 yJ0_length_8abf5 wsJ0_length_8abf5) := goodIn_app (goodIn_of _ (by decide +kernel)) ggX7_isWord_J0_length_8abf5
set_option maxRecDepth 20000 in
theorem pq_X7_isWord_J0_charAt_5068e_r1 : ∀ w ∈ wsJ0_charAt_5068e_r1, w ∈ wsX7_isWord := List.forall_mem_cons.mpr ⟨pm_X7_isWord_r1 _ (List.mem_of_getElem? (i := 9) rfl), List.forall_mem_cons.mpr ⟨pm_X7_isWord_r1 _ (List.mem_of_getElem? (i := 20) rfl), List.forall_mem_cons.mpr ⟨pm_X7_isWord_r1 _ (List.mem_of_getElem? (i := 21) rfl), List.forall_mem_cons.mpr ⟨pm_X7_isWord_r1 _ (List.mem_of_getElem? (i := 22) rfl), List.forall_mem_cons.mpr ⟨pm_X7_isWord_r1 _ (List.mem_of_getElem? (i := 7) rfl), List.forall_mem_cons.mpr ⟨pm_X7_isWord_r1 _ (List.mem_of_getElem? (i := 23) rfl), List.forall_mem_cons.mpr ⟨pm_X7_isWord_r1 _ (List.mem_of_getElem? (i := 14) rfl), List.forall_mem_cons.mpr ⟨pm_X7_isWord_r1 _ (List.mem_of_getElem? (i := 15) rfl), List.forall_mem_cons.mpr ⟨pm_X7_isWord_r2 _ (List.mem_of_getElem? (i := 0) rfl), List.forall_mem_cons.mpr ⟨pm_X7_isWord_r2 _ (List.mem_of_getElem? (i := 1) rfl), List.forall_mem_cons.mpr ⟨pm_X7_isWord_r2 _ (List.mem_of_getElem? (i := 2) rfl), List.forall_mem_cons.mpr ⟨pm_X7_isWord_r2 _ (List.mem_of_getElem? (i := 3) rfl), List.forall_mem_cons.mpr ⟨pm_X7_isWord_r2 _ (List.mem_of_getElem? (i := 4) rfl), List.forall_mem_cons.mpr ⟨pm_X7_isWord_r2 _ (List.mem_of_getElem? (i := 5) rfl), List.forall_mem_cons.mpr ⟨pm_X7_isWord_r2 _ (List.mem_of_getElem? (i := 6) rfl), List.forall_mem_cons.mpr ⟨pm_X7_isWord_r2 _ (List.mem_of_getElem? (i := 7) rfl), List.forall_mem_cons.mpr ⟨pm_X7_isWord_r2 _ (List.mem_of_getElem? (i := 8) rfl), List.forall_mem_cons.mpr ⟨pm_X7_isWord_r2 _ (List.mem_of_getElem? (i := 9) rfl), List.forall_mem_cons.mpr ⟨pm_X7_isWord_r2 _ (List.mem_of_getElem? (i := 10) rfl), List.forall_mem_cons.mpr ⟨pm_X7_isWord_r2 _ (List.mem_of_getElem? (i := 11) rfl), List.forall_mem_cons.mpr ⟨pm_X7_isWord_r2 _ (List.mem_of_getElem? (i := 12) rfl), List.forall_mem_cons.mpr ⟨pm_X7_isWord_r2 _ (List.mem_of_getElem? (i := 13) rfl), List.forall_mem_cons.mpr ⟨pm_X7_isWord_r2 _ (List.mem_of_getElem? (i := 14) rfl), List.forall_mem_cons.mpr ⟨pm_X7_isWord_r2 _ (List.mem_of_getElem? (i := 15) rfl), fun _ h => absurd h List.not_mem_nil⟩⟩⟩⟩⟩⟩⟩⟩⟩⟩⟩⟩⟩⟩⟩⟩⟩⟩⟩⟩⟩⟩⟩⟩
set_option maxRecDepth 20000 in
theorem pq_X7_isWord_J0_charAt_5068e_r2 : ∀ w ∈ wsJ0_charAt_5068e_r2, w ∈ wsX7_isWord := List.forall_mem_cons.mpr ⟨pm_X7_isWord_r2 _ (List.mem_of_getElem? (i := 16) rfl), List.forall_mem_cons.mpr ⟨pm_X7_isWord_r2 _ (List.mem_of_getElem? (i := 17) rfl), List.forall_mem_cons.mpr ⟨pm_X7_isWord_r2 _ (List.mem_of_getElem? (i := 18) rfl), List.forall_mem_cons.mpr ⟨pm_X7_isWord_r2 _ (List.mem_of_getElem? (i := 19) rfl), List.forall_mem_cons.mpr ⟨pm_X7_isWord_r2 _ (List.mem_of_getElem? (i := 20) rfl), List.forall_mem_cons.mpr ⟨pm_X7_isWord_r2 _ (List.mem_of_getElem? (i := 21) rfl), List.forall_mem_cons.mpr ⟨pm_X7_isWord_r2 _ (List.mem_of_getElem? (i := 22) rfl), List.forall_mem_cons.mpr ⟨pm_X7_isWord_r2 _ (List.mem_of_getElem? (i := 23) rfl), List.forall_mem_cons.mpr ⟨pm_X7_isWord_r3 _ (List.mem_of_getElem? (i := 0) rfl), List.forall_mem_cons.mpr ⟨pm_X7_isWord_r3 _ (List.mem_of_getElem? (i := 1) rfl), List.forall_mem_cons.mpr ⟨pm_X7_isWord_r3 _ (List.mem_of_getElem? (i := 2) rfl), List.forall_mem_cons.mpr ⟨pm_X7_isWord_r3 _ (List.mem_of_getElem? (i := 3) rfl), List.forall_mem_cons.mpr ⟨pm_X7_isWord_r3 _ (List.mem_of_getElem? (i := 4) rfl), fun _ h => absurd h List.not_mem_nil⟩⟩⟩⟩⟩⟩⟩⟩⟩⟩⟩⟩⟩
set_option maxRecDepth 20000 in
theorem ggX7_isWord_J0_charAt_5068e : GoodIn wsX7_isWord wsJ0_charAt_5068e := goodIn_sub (List.forall_mem_cons.mpr ⟨pm_X7_isWord_r1 _ (List.mem_of_getElem? (i := 19) rfl), List.forall_mem_append.mpr ⟨pq_X7_isWord_J0_charAt_5068e_r1, pq_X7_isWord_J0_charAt_5068e_r2⟩⟩) (by decide +kernel)
set_option maxRecDepth 20000 in
theorem gX7_isWord_J0_charAt_5068e : GoodIn wsX7_isWord (wsV RX7 176 RJ0 yJ0_charAt_5068e wsJ0_charAt_5068e) := goodIn_app (goodIn_of _ (by decide +kernel)) ggX7_isWord_J0_charAt_5068e
theorem dX7_isWord_0 : decode cX7_isWord 0 = .ok (.aload_n 0, 1) := by decide +kernel
theorem dX7_isWord_1 : decode cX7_isWord 1 = .ok (.getfield 35, 3) := by decide +kernel
theorem dX7_isWord_4 : decode cX7_isWord 4 = .ok (.iconst 1, 1) := by decide +kernel
theorem dX7_isWord_5 : decode cX7_isWord 5 = .ok (.if_icmp .ne 19, 3) := by decide +kernel
theorem dX7_isWord_8 : decode cX7_isWord 8 = .ok (.aload_n 1, 1) := by decide +kernel
theorem dX7_isWord_9 : decode cX7_isWord 9 = .ok (.invokevirtual 171, 3) := by decide +kernel
theorem dX7_isWord_12 : decode cX7_isWord 12 = .ok (.aload_n 0, 1) := by decide +kernel
theorem dX7_isWord_13 : decode cX7_isWord 13 = .ok (.getfield 32, 3) := by decide +kernel
theorem dX7_isWord_16 : decode cX7_isWord 16 = .ok (.aload_n 0, 1) := by decide +kernel
theorem dX7_isWord_17 : decode cX7_isWord 17 = .ok (.getfield 38, 3) := by decide +kernel
theorem dX7_isWord_20 : decode cX7_isWord 20 = .ok (.isub, 1) := by decide +kernel
theorem dX7_isWord_21 : decode cX7_isWord 21 = .ok (.if_icmp .eq 5, 3) := by decide +kernel
theorem dX7_isWord_24 : decode cX7_isWord 24 = .ok (.iconst 0, 1) := by decide +kernel
theorem dX7_isWord_25 : decode cX7_isWord 25 = .ok (.ireturn, 1) := by decide +kernel
theorem dX7_isWord_26 : decode cX7_isWord 26 = .ok (.iconst 0, 1) := by decide +kernel
theorem dX7_isWord_27 : decode cX7_isWord 27 = .ok (.istore_n 2, 1) := by decide +kernel
theorem dX7_isWord_28 : decode cX7_isWord 28 = .ok (.iload_n 2, 1) := by decide +kernel
theorem dX7_isWord_29 : decode cX7_isWord 29 = .ok (.aload_n 1, 1) := by decide +kernel
theorem dX7_isWord_30 : decode cX7_isWord 30 = .ok (.invokevirtual 171, 3) := by decide +kernel
theorem dX7_isWord_33 : decode cX7_isWord 33 = .ok (.if_icmp .ge 30, 3) := by decide +kernel
theorem dX7_isWord_36 : decode cX7_isWord 36 = .ok (.aload_n 0, 1) := by decide +kernel
theorem dX7_isWord_37 : decode cX7_isWord 37 = .ok (.getfield 28, 3) := by decide +kernel
theorem dX7_isWord_40 : decode cX7_isWord 40 = .ok (.aload_n 0, 1) := by decide +kernel
theorem dX7_isWord_41 : decode cX7_isWord 41 = .ok (.getfield 38, 3) := by decide +kernel
theorem dX7_isWord_44 : decode cX7_isWord 44 = .ok (.iload_n 2, 1) := by decide +kernel
theorem dX7_isWord_45 : decode cX7_isWord 45 = .ok (.iadd, 1) := by decide +kernel
theorem dX7_isWord_46 : decode cX7_isWord 46 = .ok (.baload, 1) := by decide +kernel
theorem dX7_isWord_47 : decode cX7_isWord 47 = .ok (.aload_n 1, 1) := by decide +kernel
theorem dX7_isWord_48 : decode cX7_isWord 48 = .ok (.iload_n 2, 1) := by decide +kernel
theorem dX7_isWord_49 : decode cX7_isWord 49 = .ok (.invokevirtual 176, 3) := by decide +kernel
theorem dX7_isWord_52 : decode cX7_isWord 52 = .ok (.if_icmp .eq 5, 3) := by decide +kernel
theorem dX7_isWord_55 : decode cX7_isWord 55 = .ok (.iconst 0, 1) := by decide +kernel
theorem dX7_isWord_56 : decode cX7_isWord 56 = .ok (.ireturn, 1) := by decide +kernel
theorem dX7_isWord_57 : decode cX7_isWord 57 = .ok (.iinc 2 1, 3) := by decide +kernel
theorem dX7_isWord_60 : decode cX7_isWord 60 = .ok (.goto (-32), 3) := by decide +kernel
theorem dX7_isWord_63 : decode cX7_isWord 63 = .ok (.iconst 1, 1) := by decide +kernel
theorem dX7_isWord_64 : decode cX7_isWord 64 = .ok (.ireturn, 1) := by decide +kernel
set_option maxRecDepth 20000 in
theorem ggX7_advance_X7_kindOf : GoodIn wsX7_advance wsX7_kindOf := goodIn_r _ [9] (by decide +kernel) (by decide +kernel)
set_option maxRecDepth 20000 in
theorem gX7_advance_X7_kindOf : GoodIn wsX7_advance (va_wsS RX7 180 yX7_kindOf wsX7_kindOf) := goodIn_app (goodIn_of _ (by decide +kernel)) ggX7_advance_X7_kindOf
set_option maxRecDepth 20000 in
theorem ggX7_advance_X7_takeRun : GoodIn wsX7_advance wsX7_takeRun := goodIn_r _ [13, 1, 2, 3, 5, 4, 6, 7, 8, 9, 14, 15, 16, 17, 18, 19, 20, 21, 22, 23, 24, 25, 26, 27] (by decide +kernel) (by decide +kernel)
set_option maxRecDepth 20000 in
theorem gX7_advance_X7_takeRun : GoodIn wsX7_advance (wsV RX7 184 RX7 yX7_takeRun wsX7_takeRun) := goodIn_app (goodIn_of _ (by decide +kernel)) ggX7_advance_X7_takeRun
theorem dX7_advance_0 : decode cX7_advance 0 = .ok (.aload_n 0, 1) := by decide +kernel
theorem dX7_advance_1 : decode cX7_advance 1 = .ok (.getfield 32, 3) := by decide +kernel
theorem dX7_advance_4 : decode cX7_advance 4 = .ok (.aload_n 0, 1) := by decide +kernel
theorem dX7_advance_5 : decode cX7_advance 5 = .ok (.getfield 9, 3) := by decide +kernel
theorem dX7_advance_8 : decode cX7_advance 8 = .ok (.if_icmp .ge 32, 3) := by decide +kernel
theorem dX7_advance_11 : decode cX7_advance 11 = .ok (.aload_n 0, 1) := by decide +kernel
theorem dX7_advance_12 : decode cX7_advance 12 = .ok (.getfield 28, 3) := by decide +kernel
theorem dX7_advance_15 : decode cX7_advance 15 = .ok (.aload_n 0, 1) := by decide +kernel
theorem dX7_advance_16 : decode cX7_advance 16 = .ok (.getfield 32, 3) := by decide +kernel
theorem dX7_advance_19 : decode cX7_advance 19 = .ok (.baload, 1) := by decide +kernel
theorem dX7_advance_20 : decode cX7_advance 20 = .ok (.invokestatic 180, 3) := by decide +kernel
theorem dX7_advance_23 : decode cX7_advance 23 = .ok (.iconst 5, 1) := by decide +kernel
theorem dX7_advance_24 : decode cX7_advance 24 = .ok (.if_icmp .ne 16, 3) := by decide +kernel
theorem dX7_advance_27 : decode cX7_advance 27 = .ok (.aload_n 0, 1) := by decide +kernel
theorem dX7_advance_28 : decode cX7_advance 28 = .ok (.dup, 1) := by decide +kernel
theorem dX7_advance_29 : decode cX7_advance 29 = .ok (.getfield 32, 3) := by decide +kernel
theorem dX7_advance_32 : decode cX7_advance 32 = .ok (.iconst 1, 1) := by decide +kernel
theorem dX7_advance_33 : decode cX7_advance 33 = .ok (.iadd, 1) := by decide +kernel
theorem dX7_advance_34 : decode cX7_advance 34 = .ok (.putfield 32, 3) := by decide +kernel
theorem dX7_advance_37 : decode cX7_advance 37 = .ok (.goto (-37), 3) := by decide +kernel
theorem dX7_advance_40 : decode cX7_advance 40 = .ok (.aload_n 0, 1) := by decide +kernel
theorem dX7_advance_41 : decode cX7_advance 41 = .ok (.aload_n 0, 1) := by decide +kernel
theorem dX7_advance_42 : decode cX7_advance 42 = .ok (.getfield 32, 3) := by decide +kernel
theorem dX7_advance_45 : decode cX7_advance 45 = .ok (.putfield 38, 3) := by decide +kernel
theorem dX7_advance_48 : decode cX7_advance 48 = .ok (.aload_n 0, 1) := by decide +kernel
theorem dX7_advance_49 : decode cX7_advance 49 = .ok (.getfield 32, 3) := by decide +kernel
theorem dX7_advance_52 : decode cX7_advance 52 = .ok (.aload_n 0, 1) := by decide +kernel
theorem dX7_advance_53 : decode cX7_advance 53 = .ok (.getfield 9, 3) := by decide +kernel
theorem dX7_advance_56 : decode cX7_advance 56 = .ok (.if_icmp .lt 9, 3) := by decide +kernel
theorem dX7_advance_59 : decode cX7_advance 59 = .ok (.aload_n 0, 1) := by decide +kernel
theorem dX7_advance_60 : decode cX7_advance 60 = .ok (.iconst 0, 1) := by decide +kernel
theorem dX7_advance_61 : decode cX7_advance 61 = .ok (.putfield 35, 3) := by decide +kernel
theorem dX7_advance_64 : decode cX7_advance 64 = .ok (.return_, 1) := by decide +kernel
theorem dX7_advance_65 : decode cX7_advance 65 = .ok (.aload_n 0, 1) := by decide +kernel
theorem dX7_advance_66 : decode cX7_advance 66 = .ok (.aload_n 0, 1) := by decide +kernel
theorem dX7_advance_67 : decode cX7_advance 67 = .ok (.getfield 28, 3) := by decide +kernel
theorem dX7_advance_70 : decode cX7_advance 70 = .ok (.aload_n 0, 1) := by decide +kernel
theorem dX7_advance_71 : decode cX7_advance 71 = .ok (.getfield 32, 3) := by decide +kernel
theorem dX7_advance_74 : decode cX7_advance 74 = .ok (.baload, 1) := by decide +kernel
theorem dX7_advance_75 : decode cX7_advance 75 = .ok (.invokestatic 180, 3) := by decide +kernel
theorem dX7_advance_78 : decode cX7_advance 78 = .ok (.putfield 35, 3) := by decide +kernel
theorem dX7_advance_81 : decode cX7_advance 81 = .ok (.aload_n 0, 1) := by decide +kernel
theorem dX7_advance_82 : decode cX7_advance 82 = .ok (.dup, 1) := by decide +kernel
theorem dX7_advance_83 : decode cX7_advance 83 = .ok (.getfield 32, 3) := by decide +kernel
theorem dX7_advance_86 : decode cX7_advance 86 = .ok (.iconst 1, 1) := by decide +kernel
theorem dX7_advance_87 : decode cX7_advance 87 = .ok (.iadd, 1) := by decide +kernel
theorem dX7_advance_88 : decode cX7_advance 88 = .ok (.putfield 32, 3) := by decide +kernel
theorem dX7_advance_91 : decode cX7_advance 91 = .ok (.aload_n 0, 1) := by decide +kernel
theorem dX7_advance_92 : decode cX7_advance 92 = .ok (.getfield 35, 3) := by decide +kernel
theorem dX7_advance_95 : decode cX7_advance 95 = .ok (.iconst 1, 1) := by decide +kernel
theorem dX7_advance_96 : decode cX7_advance 96 = .ok (.if_icmp .eq 11, 3) := by decide +kernel
theorem dX7_advance_99 : decode cX7_advance 99 = .ok (.aload_n 0, 1) := by decide +kernel
theorem dX7_advance_100 : decode cX7_advance 100 = .ok (.getfield 35, 3) := by decide +kernel
theorem dX7_advance_103 : decode cX7_advance 103 = .ok (.iconst 2, 1) := by decide +kernel
theorem dX7_advance_104 : decode cX7_advance 104 = .ok (.if_icmp .ne 7, 3) := by decide +kernel
theorem dX7_advance_107 : decode cX7_advance 107 = .ok (.aload_n 0, 1) := by decide +kernel
theorem dX7_advance_108 : decode cX7_advance 108 = .ok (.invokevirtual 184, 3) := by decide +kernel
theorem dX7_advance_111 : decode cX7_advance 111 = .ok (.return_, 1) := by decide +kernel
set_option maxRecDepth 20000 in
theorem ggX7_takeRun_X7_kindOf : GoodIn wsX7_takeRun wsX7_kindOf := goodIn_r _ [9] (by decide +kernel) (by decide +kernel)
set_option maxRecDepth 20000 in
theorem gX7_takeRun_X7_kindOf : GoodIn wsX7_takeRun (va_wsS RX7 180 yX7_kindOf wsX7_kindOf) := goodIn_app (goodIn_of _ (by decide +kernel)) ggX7_takeRun_X7_kindOf
theorem dX7_takeRun_0 : decode cX7_takeRun 0 = .ok (.aload_n 0, 1) := by decide +kernel
theorem dX7_takeRun_1 : decode cX7_takeRun 1 = .ok (.getfield 32, 3) := by decide +kernel
theorem dX7_takeRun_4 : decode cX7_takeRun 4 = .ok (.aload_n 0, 1) := by decide +kernel
theorem dX7_takeRun_5 : decode cX7_takeRun 5 = .ok (.getfield 9, 3) := by decide +kernel
theorem dX7_takeRun_8 : decode cX7_takeRun 8 = .ok (.if_icmp .ge 35, 3) := by decide +kernel
theorem dX7_takeRun_11 : decode cX7_takeRun 11 = .ok (.aload_n 0, 1) := by decide +kernel
theorem dX7_takeRun_12 : decode cX7_takeRun 12 = .ok (.getfield 28, 3) := by decide +kernel
theorem dX7_takeRun_15 : decode cX7_takeRun 15 = .ok (.aload_n 0, 1) := by decide +kernel
theorem dX7_takeRun_16 : decode cX7_takeRun 16 = .ok (.getfield 32, 3) := by decide +kernel
theorem dX7_takeRun_19 : decode cX7_takeRun 19 = .ok (.baload, 1) := by decide +kernel
theorem dX7_takeRun_20 : decode cX7_takeRun 20 = .ok (.invokestatic 180, 3) := by decide +kernel
theorem dX7_takeRun_23 : decode cX7_takeRun 23 = .ok (.aload_n 0, 1) := by decide +kernel
theorem dX7_takeRun_24 : decode cX7_takeRun 24 = .ok (.getfield 35, 3) := by decide +kernel
theorem dX7_takeRun_27 : decode cX7_takeRun 27 = .ok (.if_icmp .ne 16, 3) := by decide +kernel
theorem dX7_takeRun_30 : decode cX7_takeRun 30 = .ok (.aload_n 0, 1) := by decide +kernel
theorem dX7_takeRun_31 : decode cX7_takeRun 31 = .ok (.dup, 1) := by decide +kernel
theorem dX7_takeRun_32 : decode cX7_takeRun 32 = .ok (.getfield 32, 3) := by decide +kernel
theorem dX7_takeRun_35 : decode cX7_takeRun 35 = .ok (.iconst 1, 1) := by decide +kernel
theorem dX7_takeRun_36 : decode cX7_takeRun 36 = .ok (.iadd, 1) := by decide +kernel
theorem dX7_takeRun_37 : decode cX7_takeRun 37 = .ok (.putfield 32, 3) := by decide +kernel
theorem dX7_takeRun_40 : decode cX7_takeRun 40 = .ok (.goto (-40), 3) := by decide +kernel
theorem dX7_takeRun_43 : decode cX7_takeRun 43 = .ok (.aload_n 0, 1) := by decide +kernel
theorem dX7_takeRun_44 : decode cX7_takeRun 44 = .ok (.getfield 35, 3) := by decide +kernel
theorem dX7_takeRun_47 : decode cX7_takeRun 47 = .ok (.iconst 1, 1) := by decide +kernel
theorem dX7_takeRun_48 : decode cX7_takeRun 48 = .ok (.if_icmp .ne 8, 3) := by decide +kernel
theorem dX7_takeRun_51 : decode cX7_takeRun 51 = .ok (.bipush 8, 2) := by decide +kernel
theorem dX7_takeRun_53 : decode cX7_takeRun 53 = .ok (.goto 4, 3) := by decide +kernel
theorem dX7_takeRun_56 : decode cX7_takeRun 56 = .ok (.iconst 4, 1) := by decide +kernel
theorem dX7_takeRun_57 : decode cX7_takeRun 57 = .ok (.istore_n 1, 1) := by decide +kernel
theorem dX7_takeRun_58 : decode cX7_takeRun 58 = .ok (.aload_n 0, 1) := by decide +kernel
theorem dX7_takeRun_59 : decode cX7_takeRun 59 = .ok (.getfield 32, 3) := by decide +kernel
theorem dX7_takeRun_62 : decode cX7_takeRun 62 = .ok (.aload_n 0, 1) := by decide +kernel
theorem dX7_takeRun_63 : decode cX7_takeRun 63 = .ok (.getfield 38, 3) := by decide +kernel
theorem dX7_takeRun_66 : decode cX7_takeRun 66 = .ok (.isub, 1) := by decide +kernel
theorem dX7_takeRun_67 : decode cX7_takeRun 67 = .ok (.iload_n 1, 1) := by decide +kernel
theorem dX7_takeRun_68 : decode cX7_takeRun 68 = .ok (.if_icmp .le 8, 3) := by decide +kernel
theorem dX7_takeRun_71 : decode cX7_takeRun 71 = .ok (.aload_n 0, 1) := by decide +kernel
theorem dX7_takeRun_72 : decode cX7_takeRun 72 = .ok (.iconst 4, 1) := by decide +kernel
theorem dX7_takeRun_73 : decode cX7_takeRun 73 = .ok (.putfield 35, 3) := by decide +kernel
theorem dX7_takeRun_76 : decode cX7_takeRun 76 = .ok (.return_, 1) := by decide +kernel
theorem dX7_kindOf_0 : decode cX7_kindOf 0 = .ok (.iload_n 0, 1) := by decide +kernel
theorem dX7_kindOf_1 : decode cX7_kindOf 1 = .ok (.bipush 97, 2) := by decide +kernel
theorem dX7_kindOf_3 : decode cX7_kindOf 3 = .ok (.if_icmp .lt 11, 3) := by decide +kernel
theorem dX7_kindOf_6 : decode cX7_kindOf 6 = .ok (.iload_n 0, 1) := by decide +kernel
theorem dX7_kindOf_7 : decode cX7_kindOf 7 = .ok (.bipush 122, 2) := by decide +kernel
theorem dX7_kindOf_9 : decode cX7_kindOf 9 = .ok (.if_icmp .gt 5, 3) := by decide +kernel
theorem dX7_kindOf_12 : decode cX7_kindOf 12 = .ok (.iconst 1, 1) := by decide +kernel
theorem dX7_kindOf_13 : decode cX7_kindOf 13 = .ok (.ireturn, 1) := by decide +kernel
theorem dX7_kindOf_14 : decode cX7_kindOf 14 = .ok (.iload_n 0, 1) := by decide +kernel
theorem dX7_kindOf_15 : decode cX7_kindOf 15 = .ok (.bipush 48, 2) := by decide +kernel
theorem dX7_kindOf_17 : decode cX7_kindOf 17 = .ok (.if_icmp .lt 11, 3) := by decide +kernel
theorem dX7_kindOf_20 : decode cX7_kindOf 20 = .ok (.iload_n 0, 1) := by decide +kernel
theorem dX7_kindOf_21 : decode cX7_kindOf 21 = .ok (.bipush 57, 2) := by decide +kernel
theorem dX7_kindOf_23 : decode cX7_kindOf 23 = .ok (.if_icmp .gt 5, 3) := by decide +kernel
theorem dX7_kindOf_26 : decode cX7_kindOf 26 = .ok (.iconst 2, 1) := by decide +kernel
theorem dX7_kindOf_27 : decode cX7_kindOf 27 = .ok (.ireturn, 1) := by decide +kernel
theorem dX7_kindOf_28 : decode cX7_kindOf 28 = .ok (.iload_n 0, 1) := by decide +kernel
theorem dX7_kindOf_29 : decode cX7_kindOf 29 = .ok (.bipush 32, 2) := by decide +kernel
theorem dX7_kindOf_31 : decode cX7_kindOf 31 = .ok (.if_icmp .eq 9, 3) := by decide +kernel
theorem dX7_kindOf_34 : decode cX7_kindOf 34 = .ok (.iload_n 0, 1) := by decide +kernel
theorem dX7_kindOf_35 : decode cX7_kindOf 35 = .ok (.bipush 10, 2) := by decide +kernel
theorem dX7_kindOf_37 : decode cX7_kindOf 37 = .ok (.if_icmp .ne 5, 3) := by decide +kernel
theorem dX7_kindOf_40 : decode cX7_kindOf 40 = .ok (.iconst 5, 1) := by decide +kernel
theorem dX7_kindOf_41 : decode cX7_kindOf 41 = .ok (.ireturn, 1) := by decide +kernel
theorem dX7_kindOf_42 : decode cX7_kindOf 42 = .ok (.iload_n 0, 1) := by decide +kernel
theorem dX7_kindOf_43 : decode cX7_kindOf 43 = .ok (.bipush 59, 2) := by decide +kernel
theorem dX7_kindOf_45 : decode cX7_kindOf 45 = .ok (.if_icmp .ne 7, 3) := by decide +kernel
theorem dX7_kindOf_48 : decode cX7_kindOf 48 = .ok (.iconst 3, 1) := by decide +kernel
theorem dX7_kindOf_49 : decode cX7_kindOf 49 = .ok (.goto 4, 3) := by decide +kernel
theorem dX7_kindOf_52 : decode cX7_kindOf 52 = .ok (.iconst 4, 1) := by decide +kernel
theorem dX7_kindOf_53 : decode cX7_kindOf 53 = .ok (.ireturn, 1) := by decide +kernel
theorem kk_X7_append_0 : Cond.fieldLink RX7 9 "PaidBySigns$Reader" "length" "I" ∈ wsX7_append := by decide +kernel
theorem kk_X7_append_1 : Cond.fieldLink RX7 28 "PaidBySigns$Reader" "text" "[B" ∈ wsX7_append := by decide +kernel
theorem kk_X7_advance_0 : Cond.fieldLink RX7 32 "PaidBySigns$Reader" "next" "I" ∈ wsX7_advance := by decide +kernel
theorem kk_X7_advance_1 : Cond.fieldLink RX7 9 "PaidBySigns$Reader" "length" "I" ∈ wsX7_advance := by decide +kernel
theorem kk_X7_advance_2 : Cond.fieldLink RX7 38 "PaidBySigns$Reader" "start" "I" ∈ wsX7_advance := by decide +kernel
theorem kk_X7_advance_3 : Cond.fieldLink RX7 28 "PaidBySigns$Reader" "text" "[B" ∈ wsX7_advance := by decide +kernel
theorem kk_X7_advance_4 : Cond.fieldLink RX7 35 "PaidBySigns$Reader" "token" "I" ∈ wsX7_advance := by decide +kernel
theorem kk_X7_takeRun_0 : Cond.fieldLink RX7 32 "PaidBySigns$Reader" "next" "I" ∈ wsX7_takeRun := by decide +kernel
theorem kk_X7_takeRun_1 : Cond.fieldLink RX7 9 "PaidBySigns$Reader" "length" "I" ∈ wsX7_takeRun := by decide +kernel
theorem kk_X7_takeRun_2 : Cond.fieldLink RX7 35 "PaidBySigns$Reader" "token" "I" ∈ wsX7_takeRun := by decide +kernel
theorem kk_X7_takeRun_3 : Cond.fieldLink RX7 38 "PaidBySigns$Reader" "start" "I" ∈ wsX7_takeRun := by decide +kernel
theorem kk_X7_takeRun_4 : Cond.fieldLink RX7 28 "PaidBySigns$Reader" "text" "[B" ∈ wsX7_takeRun := by decide +kernel
theorem kk_X7_isWord_0 : Cond.fieldLink RX7 35 "PaidBySigns$Reader" "token" "I" ∈ wsX7_isWord := pm_X7_isWord_r1 _ (List.mem_of_getElem? (i := 0) rfl)
theorem kk_X7_isWord_1 : Cond.fieldLink RX7 32 "PaidBySigns$Reader" "next" "I" ∈ wsX7_isWord := pm_X7_isWord_r1 _ (List.mem_of_getElem? (i := 1) rfl)
theorem kk_X7_isWord_2 : Cond.fieldLink RX7 38 "PaidBySigns$Reader" "start" "I" ∈ wsX7_isWord := pm_X7_isWord_r1 _ (List.mem_of_getElem? (i := 2) rfl)
theorem kk_X7_isWord_3 : Cond.fieldLink RX7 28 "PaidBySigns$Reader" "text" "[B" ∈ wsX7_isWord := pm_X7_isWord_r1 _ (List.mem_of_getElem? (i := 3) rfl)
theorem iw_X7_append_X7 : ∀ w ∈ wsX70, w ∈ wsX7_append := by decide +kernel
theorem iw_X7_advance_X7 : ∀ w ∈ wsX70, w ∈ wsX7_advance := by decide +kernel
theorem iw_X7_takeRun_X7 : ∀ w ∈ wsX70, w ∈ wsX7_takeRun := by decide +kernel
theorem iw_X7_isWord_X7 : ∀ w ∈ wsX70, w ∈ wsX7_isWord := pw_X7_isWord_X7

abbrev cX7_fail : ByteArray := prog_9_method_4_code
def yX7_fail : MethodName := ⟨RX7, "fail", "(I)Z"⟩
abbrev cX7_readWhole : ByteArray := prog_9_method_5_code
def yX7_readWhole : MethodName := ⟨RX7, "readWhole", "()Z"⟩
abbrev cX7_isNumber : ByteArray := prog_9_method_15_code
def yX7_isNumber : MethodName := ⟨RX7, "isNumber", "(II)Z"⟩
abbrev cX7_passSemicolon : ByteArray := prog_9_method_16_code
def yX7_passSemicolon : MethodName := ⟨RX7, "passSemicolon", "()Z"⟩
abbrev cX7_isSameRun : ByteArray := prog_9_method_19_code
def yX7_isSameRun : MethodName := ⟨RX7, "isSameRun", "(II)Z"⟩
def wsX7_fail : List Cond := .code yX7_fail cX7_fail 2 (some .boolean) :: ([.fieldLink RX7 15 "PaidBySigns$Reader" "faultKind" "I", .fieldLink RX7 38 "PaidBySigns$Reader" "start" "I", .fieldLink RX7 18 "PaidBySigns$Reader" "faultPlace" "I"] ++ wsX70)
def wsX7_isNumber : List Cond := .code yX7_isNumber cX7_isNumber 4 (some .boolean) :: ([.fieldLink RX7 35 "PaidBySigns$Reader" "token" "I", .fieldLink RX7 41 "PaidBySigns$Reader" "value" "I", .fieldLink RX7 38 "PaidBySigns$Reader" "start" "I", .fieldLink RX7 32 "PaidBySigns$Reader" "next" "I", .fieldLink RX7 28 "PaidBySigns$Reader" "text" "[B", .methodLink RX7 100 yX7_fail, .instanceMethod yX7_fail, .selects RX7 yX7_fail yX7_fail, .initialized RX7, .code yX7_fail cX7_fail 2 (some .boolean), .fieldLink RX7 15 "PaidBySigns$Reader" "faultKind" "I", .fieldLink RX7 18 "PaidBySigns$Reader" "faultPlace" "I"] ++ wsX70)
def wsX7_passSemicolon : List Cond := .code yX7_passSemicolon cX7_passSemicolon 1 (some .boolean) :: ([.fieldLink RX7 35 "PaidBySigns$Reader" "token" "I", .methodLink RX7 100 yX7_fail, .instanceMethod yX7_fail, .selects RX7 yX7_fail yX7_fail, .initialized RX7, .code yX7_fail cX7_fail 2 (some .boolean), .fieldLink RX7 15 "PaidBySigns$Reader" "faultKind" "I", .fieldLink RX7 38 "PaidBySigns$Reader" "start" "I", .fieldLink RX7 18 "PaidBySigns$Reader" "faultPlace" "I", .methodLink RX7 64 yX7_advance, .instanceMethod yX7_advance, .selects RX7 yX7_advance yX7_advance, .code yX7_advance cX7_advance 1 none, .fieldLink RX7 32 "PaidBySigns$Reader" "next" "I", .fieldLink RX7 9 "PaidBySigns$Reader" "length" "I", .fieldLink RX7 28 "PaidBySigns$Reader" "text" "[B", .methodLink RX7 180 yX7_kindOf, .static yX7_kindOf, .code yX7_kindOf cX7_kindOf 1 (some .int), .methodLink RX7 184 yX7_takeRun, .instanceMethod yX7_takeRun, .selects RX7 yX7_takeRun yX7_takeRun, .code yX7_takeRun cX7_takeRun 2 none] ++ wsX70)
def wsX7_readWhole_r1 : List Cond := [Cond.fieldLink RX7 24 "PaidBySigns$Reader" "into" "LPaidBySigns$Hire;", Cond.fieldLink RX7 41 "PaidBySigns$Reader" "value" "I", Cond.fieldLink RX7 90 "PaidBySigns$Hire" "whole" "I", Cond.methodLink RX7 82 yX7_isWord, Cond.instanceMethod yX7_isWord, Cond.selects RX7 yX7_isWord yX7_isWord, Cond.initialized RX7, Cond.code yX7_isWord cX7_isWord 3 (some .boolean), Cond.fieldLink RX7 35 "PaidBySigns$Reader" "token" "I", Cond.fieldLink RX7 32 "PaidBySigns$Reader" "next" "I", Cond.fieldLink RX7 38 "PaidBySigns$Reader" "start" "I", Cond.fieldLink RX7 28 "PaidBySigns$Reader" "text" "[B", Cond.methodLink RX7 171 yJ0_length_8abf5, Cond.instanceMethod yJ0_length_8abf5, Cond.selects RJ0 yJ0_length_8abf5 yJ0_length_8abf5, Cond.initialized RJ0, Cond.code yJ0_length_8abf5 cJ0_length_8abf5 1 (some .int), Cond.fieldLink RJ0 9 "java/lang/String" "value" "[B", Cond.methodLink RJ0 335 yJ0_coder_7d493, Cond.instanceMethod yJ0_coder_7d493, Cond.selects RJ0 yJ0_coder_7d493 yJ0_coder_7d493, Cond.code yJ0_coder_7d493 cJ0_coder_7d493 1 (some .byte), Cond.fieldLink RJ0 38 "java/lang/String" "COMPACT_STRINGS" "Z", Cond.fieldLink RJ0 15 "java/lang/String" "coder" "B"]
def wsX7_readWhole_r2 : List Cond := [Cond.methodLink RX7 176 yJ0_charAt_5068e, Cond.instanceMethod yJ0_charAt_5068e, Cond.selects RJ0 yJ0_charAt_5068e yJ0_charAt_5068e, Cond.code yJ0_charAt_5068e cJ0_charAt_5068e 2 (some .char), Cond.methodLink RJ0 492 yJ0_isLatin1_aae02, Cond.instanceMethod yJ0_isLatin1_aae02, Cond.selects RJ0 yJ0_isLatin1_aae02 yJ0_isLatin1_aae02, Cond.code yJ0_isLatin1_aae02 cJ0_isLatin1_aae02 1 (some .boolean), Cond.methodLink RJ0 495 yJ1_charAt_3b067, Cond.static yJ1_charAt_3b067, Cond.initialized RJ1, Cond.code yJ1_charAt_3b067 cJ1_charAt_3b067 2 (some .char), Cond.methodLink RJ1 9 yJ0_checkIndex_df160, Cond.static yJ0_checkIndex_df160, Cond.code yJ0_checkIndex_df160 cJ0_checkIndex_df160 2 none, Cond.fieldLink RJ0 1053 "jdk/internal/util/Preconditions" "SIOOBE_FORMATTER" "Ljava/util/function/BiFunction;", Cond.methodLink RJ0 1059 yJ3_checkIndex_8e157, Cond.static yJ3_checkIndex_8e157, Cond.initialized RJ3, Cond.code yJ3_checkIndex_8e157 cJ3_checkIndex_8e157 3 (some .int), Cond.methodLink RJ0 498 yJ2_charAt_3b067, Cond.static yJ2_charAt_3b067, Cond.initialized RJ2, Cond.code yJ2_charAt_3b067 cJ2_charAt_3b067 2 (some .char)]
def wsX7_readWhole_r3 : List Cond := [Cond.methodLink RJ2 67 yJ2_checkIndex_2214a, Cond.static yJ2_checkIndex_2214a, Cond.code yJ2_checkIndex_2214a cJ2_checkIndex_2214a 2 none, Cond.methodLink RJ2 48 yJ2_length_9d52b, Cond.static yJ2_length_9d52b, Cond.code yJ2_length_9d52b cJ2_length_9d52b 1 (some .int), Cond.methodLink RJ2 414 yJ0_checkIndex_df160, Cond.methodLink RJ2 71 yJ2_getChar_3b067, Cond.static yJ2_getChar_3b067, Cond.code yJ2_getChar_3b067 cJ2_getChar_3b067 2 (some .char), Cond.fieldLink RJ2 44 "java/lang/StringUTF16" "$assertionsDisabled" "Z", Cond.fieldLink RJ2 59 "java/lang/StringUTF16" "HI_BYTE_SHIFT" "I", Cond.fieldLink RJ2 63 "java/lang/StringUTF16" "LO_BYTE_SHIFT" "I", Cond.methodLink RX7 64 yX7_advance, Cond.instanceMethod yX7_advance, Cond.selects RX7 yX7_advance yX7_advance, Cond.code yX7_advance cX7_advance 1 none, Cond.fieldLink RX7 9 "PaidBySigns$Reader" "length" "I", Cond.methodLink RX7 180 yX7_kindOf, Cond.static yX7_kindOf, Cond.code yX7_kindOf cX7_kindOf 1 (some .int), Cond.methodLink RX7 184 yX7_takeRun, Cond.instanceMethod yX7_takeRun, Cond.selects RX7 yX7_takeRun yX7_takeRun]
def wsX7_readWhole_r4 : List Cond := [Cond.code yX7_takeRun cX7_takeRun 2 none, Cond.methodLink RX7 86 yX7_isNumber, Cond.instanceMethod yX7_isNumber, Cond.selects RX7 yX7_isNumber yX7_isNumber, Cond.code yX7_isNumber cX7_isNumber 4 (some .boolean), Cond.methodLink RX7 100 yX7_fail, Cond.instanceMethod yX7_fail, Cond.selects RX7 yX7_fail yX7_fail, Cond.code yX7_fail cX7_fail 2 (some .boolean), Cond.fieldLink RX7 15 "PaidBySigns$Reader" "faultKind" "I", Cond.fieldLink RX7 18 "PaidBySigns$Reader" "faultPlace" "I", Cond.methodLink RX7 92 yX7_passSemicolon, Cond.instanceMethod yX7_passSemicolon, Cond.selects RX7 yX7_passSemicolon yX7_passSemicolon, Cond.code yX7_passSemicolon cX7_passSemicolon 1 (some .boolean)]
def wsX7_readWhole : List Cond := .code yX7_readWhole cX7_readWhole 1 (some .boolean) :: ((wsX7_readWhole_r1 ++ (wsX7_readWhole_r2 ++ (wsX7_readWhole_r3 ++ wsX7_readWhole_r4))) ++ wsX70 ++ wsX30)
def wsX7_isSameRun : List Cond := .code yX7_isSameRun cX7_isSameRun 4 (some .boolean) :: ([.fieldLink RX7 32 "PaidBySigns$Reader" "next" "I", .fieldLink RX7 38 "PaidBySigns$Reader" "start" "I", .fieldLink RX7 28 "PaidBySigns$Reader" "text" "[B"] ++ wsX70)
theorem dX7_fail_0 : decode cX7_fail 0 = .ok (.aload_n 0, 1) := by decide +kernel
theorem dX7_fail_1 : decode cX7_fail 1 = .ok (.iload_n 1, 1) := by decide +kernel
theorem dX7_fail_2 : decode cX7_fail 2 = .ok (.putfield 15, 3) := by decide +kernel
theorem dX7_fail_5 : decode cX7_fail 5 = .ok (.aload_n 0, 1) := by decide +kernel
theorem dX7_fail_6 : decode cX7_fail 6 = .ok (.aload_n 0, 1) := by decide +kernel
theorem dX7_fail_7 : decode cX7_fail 7 = .ok (.getfield 38, 3) := by decide +kernel
theorem dX7_fail_10 : decode cX7_fail 10 = .ok (.putfield 18, 3) := by decide +kernel
theorem dX7_fail_13 : decode cX7_fail 13 = .ok (.iconst 0, 1) := by decide +kernel
theorem dX7_fail_14 : decode cX7_fail 14 = .ok (.ireturn, 1) := by decide +kernel
theorem pm_X7_readWhole_r1 : ∀ w ∈ wsX7_readWhole_r1, w ∈ wsX7_readWhole := fun _ h => List.mem_cons_of_mem _ (List.mem_append_left _ (List.mem_append_left _ (List.mem_append_left _ h)))
theorem pm_X7_readWhole_r2 : ∀ w ∈ wsX7_readWhole_r2, w ∈ wsX7_readWhole := fun _ h => List.mem_cons_of_mem _ (List.mem_append_left _ (List.mem_append_left _ (List.mem_append_right _ (List.mem_append_left _ h))))
theorem pm_X7_readWhole_r3 : ∀ w ∈ wsX7_readWhole_r3, w ∈ wsX7_readWhole := fun _ h => List.mem_cons_of_mem _ (List.mem_append_left _ (List.mem_append_left _ (List.mem_append_right _ (List.mem_append_right _ (List.mem_append_left _ h)))))
theorem pm_X7_readWhole_r4 : ∀ w ∈ wsX7_readWhole_r4, w ∈ wsX7_readWhole := fun _ h => List.mem_cons_of_mem _ (List.mem_append_left _ (List.mem_append_left _ (List.mem_append_right _ (List.mem_append_right _ (List.mem_append_right _ (h))))))
theorem pw_X7_readWhole_X7 : ∀ w ∈ wsX70, w ∈ wsX7_readWhole := fun _ h => List.mem_cons_of_mem _ (List.mem_append_left _ (List.mem_append_right _ h))
theorem pw_X7_readWhole_X3 : ∀ w ∈ wsX30, w ∈ wsX7_readWhole := fun _ h => List.mem_cons_of_mem _ (List.mem_append_right _ h)
set_option maxRecDepth 20000 in
theorem pq_X7_readWhole_X7_isWord_r1 : ∀ w ∈ wsX7_isWord_r1, w ∈ wsX7_readWhole := List.forall_mem_cons.mpr ⟨pm_X7_readWhole_r1 _ (List.mem_of_getElem? (i := 8) rfl), List.forall_mem_cons.mpr ⟨pm_X7_readWhole_r1 _ (List.mem_of_getElem? (i := 9) rfl), List.forall_mem_cons.mpr ⟨pm_X7_readWhole_r1 _ (List.mem_of_getElem? (i := 10) rfl), List.forall_mem_cons.mpr ⟨pm_X7_readWhole_r1 _ (List.mem_of_getElem? (i := 11) rfl), List.forall_mem_cons.mpr ⟨pm_X7_readWhole_r1 _ (List.mem_of_getElem? (i := 12) rfl), List.forall_mem_cons.mpr ⟨pm_X7_readWhole_r1 _ (List.mem_of_getElem? (i := 13) rfl), List.forall_mem_cons.mpr ⟨pm_X7_readWhole_r1 _ (List.mem_of_getElem? (i := 14) rfl), List.forall_mem_cons.mpr ⟨pm_X7_readWhole_r1 _ (List.mem_of_getElem? (i := 15) rfl), List.forall_mem_cons.mpr ⟨pm_X7_readWhole_r1 _ (List.mem_of_getElem? (i := 16) rfl), List.forall_mem_cons.mpr ⟨pm_X7_readWhole_r1 _ (List.mem_of_getElem? (i := 17) rfl), List.forall_mem_cons.mpr ⟨pm_X7_readWhole_r1 _ (List.mem_of_getElem? (i := 18) rfl), List.forall_mem_cons.mpr ⟨pm_X7_readWhole_r1 _ (List.mem_of_getElem? (i := 19) rfl), List.forall_mem_cons.mpr ⟨pm_X7_readWhole_r1 _ (List.mem_of_getElem? (i := 20) rfl), List.forall_mem_cons.mpr ⟨pm_X7_readWhole_r1 _ (List.mem_of_getElem? (i := 21) rfl), List.forall_mem_cons.mpr ⟨pm_X7_readWhole_r1 _ (List.mem_of_getElem? (i := 22) rfl), List.forall_mem_cons.mpr ⟨pm_X7_readWhole_r1 _ (List.mem_of_getElem? (i := 23) rfl), List.forall_mem_cons.mpr ⟨pm_X7_readWhole_r2 _ (List.mem_of_getElem? (i := 0) rfl), List.forall_mem_cons.mpr ⟨pm_X7_readWhole_r2 _ (List.mem_of_getElem? (i := 1) rfl), List.forall_mem_cons.mpr ⟨pm_X7_readWhole_r2 _ (List.mem_of_getElem? (i := 2) rfl), List.forall_mem_cons.mpr ⟨pm_X7_readWhole_r2 _ (List.mem_of_getElem? (i := 3) rfl), List.forall_mem_cons.mpr ⟨pm_X7_readWhole_r2 _ (List.mem_of_getElem? (i := 4) rfl), List.forall_mem_cons.mpr ⟨pm_X7_readWhole_r2 _ (List.mem_of_getElem? (i := 5) rfl), List.forall_mem_cons.mpr ⟨pm_X7_readWhole_r2 _ (List.mem_of_getElem? (i := 6) rfl), List.forall_mem_cons.mpr ⟨pm_X7_readWhole_r2 _ (List.mem_of_getElem? (i := 7) rfl), fun _ h => absurd h List.not_mem_nil⟩⟩⟩⟩⟩⟩⟩⟩⟩⟩⟩⟩⟩⟩⟩⟩⟩⟩⟩⟩⟩⟩⟩⟩
set_option maxRecDepth 20000 in
theorem pq_X7_readWhole_X7_isWord_r2 : ∀ w ∈ wsX7_isWord_r2, w ∈ wsX7_readWhole := List.forall_mem_cons.mpr ⟨pm_X7_readWhole_r2 _ (List.mem_of_getElem? (i := 8) rfl), List.forall_mem_cons.mpr ⟨pm_X7_readWhole_r2 _ (List.mem_of_getElem? (i := 9) rfl), List.forall_mem_cons.mpr ⟨pm_X7_readWhole_r2 _ (List.mem_of_getElem? (i := 10) rfl), List.forall_mem_cons.mpr ⟨pm_X7_readWhole_r2 _ (List.mem_of_getElem? (i := 11) rfl), List.forall_mem_cons.mpr ⟨pm_X7_readWhole_r2 _ (List.mem_of_getElem? (i := 12) rfl), List.forall_mem_cons.mpr ⟨pm_X7_readWhole_r2 _ (List.mem_of_getElem? (i := 13) rfl), List.forall_mem_cons.mpr ⟨pm_X7_readWhole_r2 _ (List.mem_of_getElem? (i := 14) rfl), List.forall_mem_cons.mpr ⟨pm_X7_readWhole_r2 _ (List.mem_of_getElem? (i := 15) rfl), List.forall_mem_cons.mpr ⟨pm_X7_readWhole_r2 _ (List.mem_of_getElem? (i := 16) rfl), List.forall_mem_cons.mpr ⟨pm_X7_readWhole_r2 _ (List.mem_of_getElem? (i := 17) rfl), List.forall_mem_cons.mpr ⟨pm_X7_readWhole_r2 _ (List.mem_of_getElem? (i := 18) rfl), List.forall_mem_cons.mpr ⟨pm_X7_readWhole_r2 _ (List.mem_of_getElem? (i := 19) rfl), List.forall_mem_cons.mpr ⟨pm_X7_readWhole_r2 _ (List.mem_of_getElem? (i := 20) rfl), List.forall_mem_cons.mpr ⟨pm_X7_readWhole_r2 _ (List.mem_of_getElem? (i := 21) rfl), List.forall_mem_cons.mpr ⟨pm_X7_readWhole_r2 _ (List.mem_of_getElem? (i := 22) rfl), List.forall_mem_cons.mpr ⟨pm_X7_readWhole_r2 _ (List.mem_of_getElem? (i := 23) rfl), List.forall_mem_cons.mpr ⟨pm_X7_readWhole_r3 _ (List.mem_of_getElem? (i := 0) rfl), List.forall_mem_cons.mpr ⟨pm_X7_readWhole_r3 _ (List.mem_of_getElem? (i := 1) rfl), List.forall_mem_cons.mpr ⟨pm_X7_readWhole_r3 _ (List.mem_of_getElem? (i := 2) rfl), List.forall_mem_cons.mpr ⟨pm_X7_readWhole_r3 _ (List.mem_of_getElem? (i := 3) rfl), List.forall_mem_cons.mpr ⟨pm_X7_readWhole_r3 _ (List.mem_of_getElem? (i := 4) rfl), List.forall_mem_cons.mpr ⟨pm_X7_readWhole_r3 _ (List.mem_of_getElem? (i := 5) rfl), List.forall_mem_cons.mpr ⟨pm_X7_readWhole_r3 _ (List.mem_of_getElem? (i := 6) rfl), List.forall_mem_cons.mpr ⟨pm_X7_readWhole_r3 _ (List.mem_of_getElem? (i := 7) rfl), fun _ h => absurd h List.not_mem_nil⟩⟩⟩⟩⟩⟩⟩⟩⟩⟩⟩⟩⟩⟩⟩⟩⟩⟩⟩⟩⟩⟩⟩⟩
set_option maxRecDepth 20000 in
theorem pq_X7_readWhole_X7_isWord_r3 : ∀ w ∈ wsX7_isWord_r3, w ∈ wsX7_readWhole := List.forall_mem_cons.mpr ⟨pm_X7_readWhole_r3 _ (List.mem_of_getElem? (i := 8) rfl), List.forall_mem_cons.mpr ⟨pm_X7_readWhole_r3 _ (List.mem_of_getElem? (i := 9) rfl), List.forall_mem_cons.mpr ⟨pm_X7_readWhole_r3 _ (List.mem_of_getElem? (i := 10) rfl), List.forall_mem_cons.mpr ⟨pm_X7_readWhole_r3 _ (List.mem_of_getElem? (i := 11) rfl), List.forall_mem_cons.mpr ⟨pm_X7_readWhole_r3 _ (List.mem_of_getElem? (i := 12) rfl), fun _ h => absurd h List.not_mem_nil⟩⟩⟩⟩⟩
set_option maxRecDepth 20000 in
theorem ggX7_readWhole_X7_isWord : GoodIn wsX7_readWhole wsX7_isWord := goodIn_sub (List.forall_mem_cons.mpr ⟨pm_X7_readWhole_r1 _ (List.mem_of_getElem? (i := 7) rfl), List.forall_mem_append.mpr ⟨List.forall_mem_append.mpr ⟨pq_X7_readWhole_X7_isWord_r1, List.forall_mem_append.mpr ⟨pq_X7_readWhole_X7_isWord_r2, pq_X7_readWhole_X7_isWord_r3⟩⟩, pw_X7_readWhole_X7⟩⟩) (by decide +kernel)
set_option maxRecDepth 20000 in
theorem gX7_readWhole_X7_isWord : GoodIn wsX7_readWhole (wsV RX7 82 RX7 yX7_isWord wsX7_isWord) := goodIn_app (goodIn_of _ (by decide +kernel)) ggX7_readWhole_X7_isWord
set_option maxRecDepth 20000 in
theorem ggX7_readWhole_X7_advance : GoodIn wsX7_readWhole wsX7_advance := goodIn_sub (List.forall_mem_cons.mpr ⟨pm_X7_readWhole_r3 _ (List.mem_of_getElem? (i := 16) rfl), List.forall_mem_append.mpr ⟨List.forall_mem_cons.mpr ⟨pm_X7_readWhole_r1 _ (List.mem_of_getElem? (i := 9) rfl), List.forall_mem_cons.mpr ⟨pm_X7_readWhole_r3 _ (List.mem_of_getElem? (i := 17) rfl), List.forall_mem_cons.mpr ⟨pm_X7_readWhole_r1 _ (List.mem_of_getElem? (i := 11) rfl), List.forall_mem_cons.mpr ⟨pm_X7_readWhole_r1 _ (List.mem_of_getElem? (i := 10) rfl), List.forall_mem_cons.mpr ⟨pm_X7_readWhole_r1 _ (List.mem_of_getElem? (i := 8) rfl), List.forall_mem_cons.mpr ⟨pm_X7_readWhole_r3 _ (List.mem_of_getElem? (i := 18) rfl), List.forall_mem_cons.mpr ⟨pm_X7_readWhole_r3 _ (List.mem_of_getElem? (i := 19) rfl), List.forall_mem_cons.mpr ⟨pm_X7_readWhole_r1 _ (List.mem_of_getElem? (i := 6) rfl), List.forall_mem_cons.mpr ⟨pm_X7_readWhole_r3 _ (List.mem_of_getElem? (i := 20) rfl), List.forall_mem_cons.mpr ⟨pm_X7_readWhole_r3 _ (List.mem_of_getElem? (i := 21) rfl), List.forall_mem_cons.mpr ⟨pm_X7_readWhole_r3 _ (List.mem_of_getElem? (i := 22) rfl), List.forall_mem_cons.mpr ⟨pm_X7_readWhole_r3 _ (List.mem_of_getElem? (i := 23) rfl), List.forall_mem_cons.mpr ⟨pm_X7_readWhole_r4 _ (List.mem_of_getElem? (i := 0) rfl), fun _ h => absurd h List.not_mem_nil⟩⟩⟩⟩⟩⟩⟩⟩⟩⟩⟩⟩⟩, pw_X7_readWhole_X7⟩⟩) (by decide +kernel)
set_option maxRecDepth 20000 in
theorem gX7_readWhole_X7_advance : GoodIn wsX7_readWhole (wsV RX7 64 RX7 yX7_advance wsX7_advance) := goodIn_app (goodIn_of _ (by decide +kernel)) ggX7_readWhole_X7_advance
set_option maxRecDepth 20000 in
theorem ggX7_readWhole_X7_isNumber : GoodIn wsX7_readWhole wsX7_isNumber := goodIn_sub (List.forall_mem_cons.mpr ⟨pm_X7_readWhole_r4 _ (List.mem_of_getElem? (i := 4) rfl), List.forall_mem_append.mpr ⟨List.forall_mem_cons.mpr ⟨pm_X7_readWhole_r1 _ (List.mem_of_getElem? (i := 8) rfl), List.forall_mem_cons.mpr ⟨pm_X7_readWhole_r1 _ (List.mem_of_getElem? (i := 1) rfl), List.forall_mem_cons.mpr ⟨pm_X7_readWhole_r1 _ (List.mem_of_getElem? (i := 10) rfl), List.forall_mem_cons.mpr ⟨pm_X7_readWhole_r1 _ (List.mem_of_getElem? (i := 9) rfl), List.forall_mem_cons.mpr ⟨pm_X7_readWhole_r1 _ (List.mem_of_getElem? (i := 11) rfl), List.forall_mem_cons.mpr ⟨pm_X7_readWhole_r4 _ (List.mem_of_getElem? (i := 5) rfl), List.forall_mem_cons.mpr ⟨pm_X7_readWhole_r4 _ (List.mem_of_getElem? (i := 6) rfl), List.forall_mem_cons.mpr ⟨pm_X7_readWhole_r4 _ (List.mem_of_getElem? (i := 7) rfl), List.forall_mem_cons.mpr ⟨pm_X7_readWhole_r1 _ (List.mem_of_getElem? (i := 6) rfl), List.forall_mem_cons.mpr ⟨pm_X7_readWhole_r4 _ (List.mem_of_getElem? (i := 8) rfl), List.forall_mem_cons.mpr ⟨pm_X7_readWhole_r4 _ (List.mem_of_getElem? (i := 9) rfl), List.forall_mem_cons.mpr ⟨pm_X7_readWhole_r4 _ (List.mem_of_getElem? (i := 10) rfl), fun _ h => absurd h List.not_mem_nil⟩⟩⟩⟩⟩⟩⟩⟩⟩⟩⟩⟩, pw_X7_readWhole_X7⟩⟩) (by decide +kernel)
set_option maxRecDepth 20000 in
theorem gX7_readWhole_X7_isNumber : GoodIn wsX7_readWhole (wsV RX7 86 RX7 yX7_isNumber wsX7_isNumber) := goodIn_app (goodIn_of _ (by decide +kernel)) ggX7_readWhole_X7_isNumber
set_option maxRecDepth 20000 in
theorem ggX7_readWhole_X7_passSemicolon : GoodIn wsX7_readWhole wsX7_passSemicolon := goodIn_sub (List.forall_mem_cons.mpr ⟨pm_X7_readWhole_r4 _ (List.mem_of_getElem? (i := 14) rfl), List.forall_mem_append.mpr ⟨List.forall_mem_cons.mpr ⟨pm_X7_readWhole_r1 _ (List.mem_of_getElem? (i := 8) rfl), List.forall_mem_cons.mpr ⟨pm_X7_readWhole_r4 _ (List.mem_of_getElem? (i := 5) rfl), List.forall_mem_cons.mpr ⟨pm_X7_readWhole_r4 _ (List.mem_of_getElem? (i := 6) rfl), List.forall_mem_cons.mpr ⟨pm_X7_readWhole_r4 _ (List.mem_of_getElem? (i := 7) rfl), List.forall_mem_cons.mpr ⟨pm_X7_readWhole_r1 _ (List.mem_of_getElem? (i := 6) rfl), List.forall_mem_cons.mpr ⟨pm_X7_readWhole_r4 _ (List.mem_of_getElem? (i := 8) rfl), List.forall_mem_cons.mpr ⟨pm_X7_readWhole_r4 _ (List.mem_of_getElem? (i := 9) rfl), List.forall_mem_cons.mpr ⟨pm_X7_readWhole_r1 _ (List.mem_of_getElem? (i := 10) rfl), List.forall_mem_cons.mpr ⟨pm_X7_readWhole_r4 _ (List.mem_of_getElem? (i := 10) rfl), List.forall_mem_cons.mpr ⟨pm_X7_readWhole_r3 _ (List.mem_of_getElem? (i := 13) rfl), List.forall_mem_cons.mpr ⟨pm_X7_readWhole_r3 _ (List.mem_of_getElem? (i := 14) rfl), List.forall_mem_cons.mpr ⟨pm_X7_readWhole_r3 _ (List.mem_of_getElem? (i := 15) rfl), List.forall_mem_cons.mpr ⟨pm_X7_readWhole_r3 _ (List.mem_of_getElem? (i := 16) rfl), List.forall_mem_cons.mpr ⟨pm_X7_readWhole_r1 _ (List.mem_of_getElem? (i := 9) rfl), List.forall_mem_cons.mpr ⟨pm_X7_readWhole_r3 _ (List.mem_of_getElem? (i := 17) rfl), List.forall_mem_cons.mpr ⟨pm_X7_readWhole_r1 _ (List.mem_of_getElem? (i := 11) rfl), List.forall_mem_cons.mpr ⟨pm_X7_readWhole_r3 _ (List.mem_of_getElem? (i := 18) rfl), List.forall_mem_cons.mpr ⟨pm_X7_readWhole_r3 _ (List.mem_of_getElem? (i := 19) rfl), List.forall_mem_cons.mpr ⟨pm_X7_readWhole_r3 _ (List.mem_of_getElem? (i := 20) rfl), List.forall_mem_cons.mpr ⟨pm_X7_readWhole_r3 _ (List.mem_of_getElem? (i := 21) rfl), List.forall_mem_cons.mpr ⟨pm_X7_readWhole_r3 _ (List.mem_of_getElem? (i := 22) rfl), List.forall_mem_cons.mpr ⟨pm_X7_readWhole_r3 _ (List.mem_of_getElem? (i := 23) rfl), List.forall_mem_cons.mpr ⟨pm_X7_readWhole_r4 _ (List.mem_of_getElem? (i := 0) rfl), fun _ h => absurd h List.not_mem_nil⟩⟩⟩⟩⟩⟩⟩⟩⟩⟩⟩⟩⟩⟩⟩⟩⟩⟩⟩⟩⟩⟩⟩, pw_X7_readWhole_X7⟩⟩) (by decide +kernel)
set_option maxRecDepth 20000 in
theorem gX7_readWhole_X7_passSemicolon : GoodIn wsX7_readWhole (wsV RX7 92 RX7 yX7_passSemicolon wsX7_passSemicolon) := goodIn_app (goodIn_of _ (by decide +kernel)) ggX7_readWhole_X7_passSemicolon
theorem dX7_readWhole_0 : decode cX7_readWhole 0 = .ok (.aload_n 0, 1) := by decide +kernel
theorem dX7_readWhole_1 : decode cX7_readWhole 1 = .ok (.ldc 80, 2) := by decide +kernel
theorem dX7_readWhole_3 : decode cX7_readWhole 3 = .ok (.invokevirtual 82, 3) := by decide +kernel
theorem dX7_readWhole_6 : decode cX7_readWhole 6 = .ok (.ifCond .ne 5, 3) := by decide +kernel
theorem dX7_readWhole_9 : decode cX7_readWhole 9 = .ok (.iconst 1, 1) := by decide +kernel
theorem dX7_readWhole_10 : decode cX7_readWhole 10 = .ok (.ireturn, 1) := by decide +kernel
theorem dX7_readWhole_11 : decode cX7_readWhole 11 = .ok (.aload_n 0, 1) := by decide +kernel
theorem dX7_readWhole_12 : decode cX7_readWhole 12 = .ok (.invokevirtual 64, 3) := by decide +kernel
theorem dX7_readWhole_15 : decode cX7_readWhole 15 = .ok (.aload_n 0, 1) := by decide +kernel
theorem dX7_readWhole_16 : decode cX7_readWhole 16 = .ok (.iconst 2, 1) := by decide +kernel
theorem dX7_readWhole_17 : decode cX7_readWhole 17 = .ok (.bipush 10, 2) := by decide +kernel
theorem dX7_readWhole_19 : decode cX7_readWhole 19 = .ok (.invokevirtual 86, 3) := by decide +kernel
theorem dX7_readWhole_22 : decode cX7_readWhole 22 = .ok (.ifCond .ne 5, 3) := by decide +kernel
theorem dX7_readWhole_25 : decode cX7_readWhole 25 = .ok (.iconst 0, 1) := by decide +kernel
theorem dX7_readWhole_26 : decode cX7_readWhole 26 = .ok (.ireturn, 1) := by decide +kernel
theorem dX7_readWhole_27 : decode cX7_readWhole 27 = .ok (.aload_n 0, 1) := by decide +kernel
theorem dX7_readWhole_28 : decode cX7_readWhole 28 = .ok (.getfield 24, 3) := by decide +kernel
theorem dX7_readWhole_31 : decode cX7_readWhole 31 = .ok (.aload_n 0, 1) := by decide +kernel
theorem dX7_readWhole_32 : decode cX7_readWhole 32 = .ok (.getfield 41, 3) := by decide +kernel
theorem dX7_readWhole_35 : decode cX7_readWhole 35 = .ok (.putfield 90, 3) := by decide +kernel
theorem dX7_readWhole_38 : decode cX7_readWhole 38 = .ok (.aload_n 0, 1) := by decide +kernel
theorem dX7_readWhole_39 : decode cX7_readWhole 39 = .ok (.invokevirtual 64, 3) := by decide +kernel
theorem dX7_readWhole_42 : decode cX7_readWhole 42 = .ok (.aload_n 0, 1) := by decide +kernel
theorem dX7_readWhole_43 : decode cX7_readWhole 43 = .ok (.invokevirtual 92, 3) := by decide +kernel
theorem dX7_readWhole_46 : decode cX7_readWhole 46 = .ok (.ireturn, 1) := by decide +kernel
set_option maxRecDepth 20000 in
theorem ggX7_isNumber_X7_fail : GoodIn wsX7_isNumber wsX7_fail := goodIn_r _ [10, 11, 3, 12, 13, 14, 15, 16, 17, 18, 19, 20, 21, 22, 23, 24, 25, 26] (by decide +kernel) (by decide +kernel)
set_option maxRecDepth 20000 in
theorem gX7_isNumber_X7_fail : GoodIn wsX7_isNumber (wsV RX7 100 RX7 yX7_fail wsX7_fail) := goodIn_app (goodIn_of _ (by decide +kernel)) ggX7_isNumber_X7_fail
theorem dX7_isNumber_0 : decode cX7_isNumber 0 = .ok (.aload_n 0, 1) := by decide +kernel
theorem dX7_isNumber_1 : decode cX7_isNumber 1 = .ok (.getfield 35, 3) := by decide +kernel
theorem dX7_isNumber_4 : decode cX7_isNumber 4 = .ok (.iconst 2, 1) := by decide +kernel
theorem dX7_isNumber_5 : decode cX7_isNumber 5 = .ok (.if_icmp .eq 9, 3) := by decide +kernel
theorem dX7_isNumber_8 : decode cX7_isNumber 8 = .ok (.aload_n 0, 1) := by decide +kernel
theorem dX7_isNumber_9 : decode cX7_isNumber 9 = .ok (.iconst 1, 1) := by decide +kernel
theorem dX7_isNumber_10 : decode cX7_isNumber 10 = .ok (.invokevirtual 100, 3) := by decide +kernel
theorem dX7_isNumber_13 : decode cX7_isNumber 13 = .ok (.ireturn, 1) := by decide +kernel
theorem dX7_isNumber_14 : decode cX7_isNumber 14 = .ok (.aload_n 0, 1) := by decide +kernel
theorem dX7_isNumber_15 : decode cX7_isNumber 15 = .ok (.iconst 0, 1) := by decide +kernel
theorem dX7_isNumber_16 : decode cX7_isNumber 16 = .ok (.putfield 41, 3) := by decide +kernel
theorem dX7_isNumber_19 : decode cX7_isNumber 19 = .ok (.aload_n 0, 1) := by decide +kernel
theorem dX7_isNumber_20 : decode cX7_isNumber 20 = .ok (.getfield 38, 3) := by decide +kernel
theorem dX7_isNumber_23 : decode cX7_isNumber 23 = .ok (.istore_n 3, 1) := by decide +kernel
theorem dX7_isNumber_24 : decode cX7_isNumber 24 = .ok (.iload_n 3, 1) := by decide +kernel
theorem dX7_isNumber_25 : decode cX7_isNumber 25 = .ok (.aload_n 0, 1) := by decide +kernel
theorem dX7_isNumber_26 : decode cX7_isNumber 26 = .ok (.getfield 32, 3) := by decide +kernel
theorem dX7_isNumber_29 : decode cX7_isNumber 29 = .ok (.if_icmp .ge 30, 3) := by decide +kernel
theorem dX7_isNumber_32 : decode cX7_isNumber 32 = .ok (.aload_n 0, 1) := by decide +kernel
theorem dX7_isNumber_33 : decode cX7_isNumber 33 = .ok (.aload_n 0, 1) := by decide +kernel
theorem dX7_isNumber_34 : decode cX7_isNumber 34 = .ok (.getfield 41, 3) := by decide +kernel
theorem dX7_isNumber_37 : decode cX7_isNumber 37 = .ok (.bipush 10, 2) := by decide +kernel
theorem dX7_isNumber_39 : decode cX7_isNumber 39 = .ok (.imul, 1) := by decide +kernel
theorem dX7_isNumber_40 : decode cX7_isNumber 40 = .ok (.aload_n 0, 1) := by decide +kernel
theorem dX7_isNumber_41 : decode cX7_isNumber 41 = .ok (.getfield 28, 3) := by decide +kernel
theorem dX7_isNumber_44 : decode cX7_isNumber 44 = .ok (.iload_n 3, 1) := by decide +kernel
theorem dX7_isNumber_45 : decode cX7_isNumber 45 = .ok (.baload, 1) := by decide +kernel
theorem dX7_isNumber_46 : decode cX7_isNumber 46 = .ok (.iadd, 1) := by decide +kernel
theorem dX7_isNumber_47 : decode cX7_isNumber 47 = .ok (.bipush 48, 2) := by decide +kernel
theorem dX7_isNumber_49 : decode cX7_isNumber 49 = .ok (.isub, 1) := by decide +kernel
theorem dX7_isNumber_50 : decode cX7_isNumber 50 = .ok (.putfield 41, 3) := by decide +kernel
theorem dX7_isNumber_53 : decode cX7_isNumber 53 = .ok (.iinc 3 1, 3) := by decide +kernel
theorem dX7_isNumber_56 : decode cX7_isNumber 56 = .ok (.goto (-32), 3) := by decide +kernel
theorem dX7_isNumber_59 : decode cX7_isNumber 59 = .ok (.aload_n 0, 1) := by decide +kernel
theorem dX7_isNumber_60 : decode cX7_isNumber 60 = .ok (.getfield 41, 3) := by decide +kernel
theorem dX7_isNumber_63 : decode cX7_isNumber 63 = .ok (.iload_n 1, 1) := by decide +kernel
theorem dX7_isNumber_64 : decode cX7_isNumber 64 = .ok (.if_icmp .lt 11, 3) := by decide +kernel
theorem dX7_isNumber_67 : decode cX7_isNumber 67 = .ok (.aload_n 0, 1) := by decide +kernel
theorem dX7_isNumber_68 : decode cX7_isNumber 68 = .ok (.getfield 41, 3) := by decide +kernel
theorem dX7_isNumber_71 : decode cX7_isNumber 71 = .ok (.iload_n 2, 1) := by decide +kernel
theorem dX7_isNumber_72 : decode cX7_isNumber 72 = .ok (.if_icmp .le 11, 3) := by decide +kernel
theorem dX7_isNumber_75 : decode cX7_isNumber 75 = .ok (.aload_n 0, 1) := by decide +kernel
theorem dX7_isNumber_76 : decode cX7_isNumber 76 = .ok (.iconst 2, 1) := by decide +kernel
theorem dX7_isNumber_77 : decode cX7_isNumber 77 = .ok (.invokevirtual 100, 3) := by decide +kernel
theorem dX7_isNumber_80 : decode cX7_isNumber 80 = .ok (.ifCond .eq 7, 3) := by decide +kernel
theorem dX7_isNumber_83 : decode cX7_isNumber 83 = .ok (.iconst 1, 1) := by decide +kernel
theorem dX7_isNumber_84 : decode cX7_isNumber 84 = .ok (.goto 4, 3) := by decide +kernel
theorem dX7_isNumber_87 : decode cX7_isNumber 87 = .ok (.iconst 0, 1) := by decide +kernel
theorem dX7_isNumber_88 : decode cX7_isNumber 88 = .ok (.ireturn, 1) := by decide +kernel
set_option maxRecDepth 20000 in
theorem ggX7_passSemicolon_X7_fail : GoodIn wsX7_passSemicolon wsX7_fail := goodIn_r _ [6, 7, 8, 9, 24, 25, 26, 27, 28, 29, 30, 31, 32, 33, 34, 35, 36, 37] (by decide +kernel) (by decide +kernel)
set_option maxRecDepth 20000 in
theorem gX7_passSemicolon_X7_fail : GoodIn wsX7_passSemicolon (wsV RX7 100 RX7 yX7_fail wsX7_fail) := goodIn_app (goodIn_of _ (by decide +kernel)) ggX7_passSemicolon_X7_fail
set_option maxRecDepth 20000 in
theorem ggX7_passSemicolon_X7_advance : GoodIn wsX7_passSemicolon wsX7_advance := goodIn_r _ [13, 14, 15, 16, 8, 1, 17, 18, 5, 19, 20, 21, 22, 23, 24, 25, 26, 27, 28, 29, 30, 31, 32, 33, 34, 35, 36, 37] (by decide +kernel) (by decide +kernel)
set_option maxRecDepth 20000 in
theorem gX7_passSemicolon_X7_advance : GoodIn wsX7_passSemicolon (wsV RX7 64 RX7 yX7_advance wsX7_advance) := goodIn_app (goodIn_of _ (by decide +kernel)) ggX7_passSemicolon_X7_advance
theorem dX7_passSemicolon_0 : decode cX7_passSemicolon 0 = .ok (.aload_n 0, 1) := by decide +kernel
theorem dX7_passSemicolon_1 : decode cX7_passSemicolon 1 = .ok (.getfield 35, 3) := by decide +kernel
theorem dX7_passSemicolon_4 : decode cX7_passSemicolon 4 = .ok (.iconst 3, 1) := by decide +kernel
theorem dX7_passSemicolon_5 : decode cX7_passSemicolon 5 = .ok (.if_icmp .eq 9, 3) := by decide +kernel
theorem dX7_passSemicolon_8 : decode cX7_passSemicolon 8 = .ok (.aload_n 0, 1) := by decide +kernel
theorem dX7_passSemicolon_9 : decode cX7_passSemicolon 9 = .ok (.iconst 1, 1) := by decide +kernel
theorem dX7_passSemicolon_10 : decode cX7_passSemicolon 10 = .ok (.invokevirtual 100, 3) := by decide +kernel
theorem dX7_passSemicolon_13 : decode cX7_passSemicolon 13 = .ok (.ireturn, 1) := by decide +kernel
theorem dX7_passSemicolon_14 : decode cX7_passSemicolon 14 = .ok (.aload_n 0, 1) := by decide +kernel
theorem dX7_passSemicolon_15 : decode cX7_passSemicolon 15 = .ok (.invokevirtual 64, 3) := by decide +kernel
theorem dX7_passSemicolon_18 : decode cX7_passSemicolon 18 = .ok (.iconst 1, 1) := by decide +kernel
theorem dX7_passSemicolon_19 : decode cX7_passSemicolon 19 = .ok (.ireturn, 1) := by decide +kernel
theorem dX7_isSameRun_0 : decode cX7_isSameRun 0 = .ok (.iload_n 2, 1) := by decide +kernel
theorem dX7_isSameRun_1 : decode cX7_isSameRun 1 = .ok (.iload_n 1, 1) := by decide +kernel
theorem dX7_isSameRun_2 : decode cX7_isSameRun 2 = .ok (.isub, 1) := by decide +kernel
theorem dX7_isSameRun_3 : decode cX7_isSameRun 3 = .ok (.aload_n 0, 1) := by decide +kernel
theorem dX7_isSameRun_4 : decode cX7_isSameRun 4 = .ok (.getfield 32, 3) := by decide +kernel
theorem dX7_isSameRun_7 : decode cX7_isSameRun 7 = .ok (.aload_n 0, 1) := by decide +kernel
theorem dX7_isSameRun_8 : decode cX7_isSameRun 8 = .ok (.getfield 38, 3) := by decide +kernel
theorem dX7_isSameRun_11 : decode cX7_isSameRun 11 = .ok (.isub, 1) := by decide +kernel
theorem dX7_isSameRun_12 : decode cX7_isSameRun 12 = .ok (.if_icmp .eq 5, 3) := by decide +kernel
theorem dX7_isSameRun_15 : decode cX7_isSameRun 15 = .ok (.iconst 0, 1) := by decide +kernel
theorem dX7_isSameRun_16 : decode cX7_isSameRun 16 = .ok (.ireturn, 1) := by decide +kernel
theorem dX7_isSameRun_17 : decode cX7_isSameRun 17 = .ok (.iconst 0, 1) := by decide +kernel
theorem dX7_isSameRun_18 : decode cX7_isSameRun 18 = .ok (.istore_n 3, 1) := by decide +kernel
theorem dX7_isSameRun_19 : decode cX7_isSameRun 19 = .ok (.iload_n 3, 1) := by decide +kernel
theorem dX7_isSameRun_20 : decode cX7_isSameRun 20 = .ok (.iload_n 2, 1) := by decide +kernel
theorem dX7_isSameRun_21 : decode cX7_isSameRun 21 = .ok (.iload_n 1, 1) := by decide +kernel
theorem dX7_isSameRun_22 : decode cX7_isSameRun 22 = .ok (.isub, 1) := by decide +kernel
theorem dX7_isSameRun_23 : decode cX7_isSameRun 23 = .ok (.if_icmp .ge 33, 3) := by decide +kernel
theorem dX7_isSameRun_26 : decode cX7_isSameRun 26 = .ok (.aload_n 0, 1) := by decide +kernel
theorem dX7_isSameRun_27 : decode cX7_isSameRun 27 = .ok (.getfield 28, 3) := by decide +kernel
theorem dX7_isSameRun_30 : decode cX7_isSameRun 30 = .ok (.iload_n 1, 1) := by decide +kernel
theorem dX7_isSameRun_31 : decode cX7_isSameRun 31 = .ok (.iload_n 3, 1) := by decide +kernel
theorem dX7_isSameRun_32 : decode cX7_isSameRun 32 = .ok (.iadd, 1) := by decide +kernel
theorem dX7_isSameRun_33 : decode cX7_isSameRun 33 = .ok (.baload, 1) := by decide +kernel
theorem dX7_isSameRun_34 : decode cX7_isSameRun 34 = .ok (.aload_n 0, 1) := by decide +kernel
theorem dX7_isSameRun_35 : decode cX7_isSameRun 35 = .ok (.getfield 28, 3) := by decide +kernel
theorem dX7_isSameRun_38 : decode cX7_isSameRun 38 = .ok (.aload_n 0, 1) := by decide +kernel
theorem dX7_isSameRun_39 : decode cX7_isSameRun 39 = .ok (.getfield 38, 3) := by decide +kernel
theorem dX7_isSameRun_42 : decode cX7_isSameRun 42 = .ok (.iload_n 3, 1) := by decide +kernel
theorem dX7_isSameRun_43 : decode cX7_isSameRun 43 = .ok (.iadd, 1) := by decide +kernel
theorem dX7_isSameRun_44 : decode cX7_isSameRun 44 = .ok (.baload, 1) := by decide +kernel
theorem dX7_isSameRun_45 : decode cX7_isSameRun 45 = .ok (.if_icmp .eq 5, 3) := by decide +kernel
theorem dX7_isSameRun_48 : decode cX7_isSameRun 48 = .ok (.iconst 0, 1) := by decide +kernel
theorem dX7_isSameRun_49 : decode cX7_isSameRun 49 = .ok (.ireturn, 1) := by decide +kernel
theorem dX7_isSameRun_50 : decode cX7_isSameRun 50 = .ok (.iinc 3 1, 3) := by decide +kernel
theorem dX7_isSameRun_53 : decode cX7_isSameRun 53 = .ok (.goto (-34), 3) := by decide +kernel
theorem dX7_isSameRun_56 : decode cX7_isSameRun 56 = .ok (.iconst 1, 1) := by decide +kernel
theorem dX7_isSameRun_57 : decode cX7_isSameRun 57 = .ok (.ireturn, 1) := by decide +kernel
theorem kk_X7_isNumber_0 : Cond.fieldLink RX7 35 "PaidBySigns$Reader" "token" "I" ∈ wsX7_isNumber := by decide +kernel
theorem kk_X7_isNumber_1 : Cond.fieldLink RX7 41 "PaidBySigns$Reader" "value" "I" ∈ wsX7_isNumber := by decide +kernel
theorem kk_X7_isNumber_2 : Cond.fieldLink RX7 38 "PaidBySigns$Reader" "start" "I" ∈ wsX7_isNumber := by decide +kernel
theorem kk_X7_isNumber_3 : Cond.fieldLink RX7 32 "PaidBySigns$Reader" "next" "I" ∈ wsX7_isNumber := by decide +kernel
theorem kk_X7_fail_0 : Cond.fieldLink RX7 15 "PaidBySigns$Reader" "faultKind" "I" ∈ wsX7_fail := by decide +kernel
theorem kk_X7_fail_1 : Cond.fieldLink RX7 38 "PaidBySigns$Reader" "start" "I" ∈ wsX7_fail := by decide +kernel
theorem kk_X7_fail_2 : Cond.fieldLink RX7 18 "PaidBySigns$Reader" "faultPlace" "I" ∈ wsX7_fail := by decide +kernel
theorem kk_X7_isNumber_4 : Cond.fieldLink RX7 28 "PaidBySigns$Reader" "text" "[B" ∈ wsX7_isNumber := by decide +kernel
theorem kk_X7_readWhole_0 : Cond.fieldLink RX7 24 "PaidBySigns$Reader" "into" "LPaidBySigns$Hire;" ∈ wsX7_readWhole := pm_X7_readWhole_r1 _ (List.mem_of_getElem? (i := 0) rfl)
theorem kk_X7_readWhole_1 : Cond.fieldLink RX7 41 "PaidBySigns$Reader" "value" "I" ∈ wsX7_readWhole := pm_X7_readWhole_r1 _ (List.mem_of_getElem? (i := 1) rfl)
theorem kk_X7_readWhole_2 : Cond.fieldLink RX7 90 "PaidBySigns$Hire" "whole" "I" ∈ wsX7_readWhole := pm_X7_readWhole_r1 _ (List.mem_of_getElem? (i := 2) rfl)
theorem kk_X7_passSemicolon_0 : Cond.fieldLink RX7 35 "PaidBySigns$Reader" "token" "I" ∈ wsX7_passSemicolon := by decide +kernel
theorem kk_X7_isSameRun_0 : Cond.fieldLink RX7 32 "PaidBySigns$Reader" "next" "I" ∈ wsX7_isSameRun := by decide +kernel
theorem kk_X7_isSameRun_1 : Cond.fieldLink RX7 38 "PaidBySigns$Reader" "start" "I" ∈ wsX7_isSameRun := by decide +kernel
theorem kk_X7_isSameRun_2 : Cond.fieldLink RX7 28 "PaidBySigns$Reader" "text" "[B" ∈ wsX7_isSameRun := by decide +kernel
theorem iw_X7_isNumber_X7 : ∀ w ∈ wsX70, w ∈ wsX7_isNumber := by decide +kernel
theorem iw_X7_fail_X7 : ∀ w ∈ wsX70, w ∈ wsX7_fail := by decide +kernel
theorem iw_X7_readWhole_X7 : ∀ w ∈ wsX70, w ∈ wsX7_readWhole := pw_X7_readWhole_X7
theorem iw_X7_readWhole_X3 : ∀ w ∈ wsX30, w ∈ wsX7_readWhole := pw_X7_readWhole_X3
theorem iw_X7_passSemicolon_X7 : ∀ w ∈ wsX70, w ∈ wsX7_passSemicolon := by decide +kernel
theorem iw_X7_isSameRun_X7 : ∀ w ∈ wsX70, w ∈ wsX7_isSameRun := by decide +kernel
