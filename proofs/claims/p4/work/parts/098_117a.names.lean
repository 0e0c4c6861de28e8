abbrev cX6_changeElse : ByteArray := prog_8_method_4_code
def yX6_changeElse : MethodName := ⟨RX6, "changeElse", "(I)I"⟩
abbrev cX6_changeMix : ByteArray := prog_8_method_5_code
def yX6_changeMix : MethodName := ⟨RX6, "changeMix", "(II)I"⟩
abbrev cX6_boundInto : ByteArray := prog_8_method_6_code
def yX6_boundInto : MethodName := ⟨RX6, "boundInto", "(LPaidBySigns$Fraction;LPaidBySigns$Hire;I)Z"⟩
abbrev cX6_pressedAt : ByteArray := prog_8_method_7_code
def yX6_pressedAt : MethodName := ⟨RX6, "pressedAt", "(LPaidBySigns$Hire;II)J"⟩
abbrev cX6_leastOf : ByteArray := prog_8_method_8_code
def yX6_leastOf : MethodName := ⟨RX6, "leastOf", "(LPaidBySigns$Hire;JJ)J"⟩
def wsX6_changeElse : List Cond := .code yX6_changeElse cX6_changeElse 3 (some .int) :: ([.fieldLink RX6 19 "PaidBySigns$Proofs" "pressOfElse" "I"] ++ wsX60)
def wsX6_changeMix : List Cond := .code yX6_changeMix cX6_changeMix 4 (some .int) :: ([.fieldLink RX6 22 "PaidBySigns$Proofs" "mixed" "[I"] ++ wsX60)
def wsX6_pressedAt : List Cond := .code yX6_pressedAt cX6_pressedAt 7 (some .long) :: ([.fieldLink RX6 19 "PaidBySigns$Proofs" "pressOfElse" "I", .fieldLink RX6 48 "PaidBySigns$Hire" "chances" "[[I", .fieldLink RX6 39 "PaidBySigns$Hire" "works" "I", .fieldLink RX6 15 "PaidBySigns$Proofs" "press" "[I"] ++ wsX60 ++ wsX30)
def wsX6_leastOf : List Cond := .code yX6_leastOf cX6_leastOf 9 (some .long) :: ([.fieldLink RX6 72 "PaidBySigns$Hire" "least" "I", .fieldLink RX6 59 "PaidBySigns$Hire" "rates" "I", .fieldLink RX6 79 "PaidBySigns$Hire" "mark" "[I", .methodLink RX6 82 Lib.MathLoose.min_long.x, .static Lib.MathLoose.min_long.x, .initialized "java/lang/Math", .code Lib.MathLoose.min_long.x Lib.MathLoose.min_long.code 4 (some .long), .methodLink RX6 75 yX3_feltOf, .instanceMethod yX3_feltOf, .selects RX3 yX3_feltOf yX3_feltOf, .initialized RX3, .code yX3_feltOf cX3_feltOf 6 (some .int), .fieldLink RX3 48 "PaidBySigns$Hire" "rates" "I", .fieldLink RX3 26 "PaidBySigns$Hire" "mark" "[I", .methodLink RX3 51 Lib.Math.min.name, .static Lib.Math.min.name, .code Lib.Math.min.name Lib.Math.min.code 2 (some .int), .fieldLink RX3 23 "PaidBySigns$Hire" "rate" "[I"] ++ wsX30)
def wsX6_boundInto_r1 : List Cond := [Cond.fieldLink RX6 19 "PaidBySigns$Proofs" "pressOfElse" "I", Cond.fieldLink RX6 31 "PaidBySigns$Hire" "costs" "[I", Cond.fieldLink RX6 36 "PaidBySigns$Hire" "otherwise" "I", Cond.fieldLink RX6 39 "PaidBySigns$Hire" "works" "I", Cond.fieldLink RX6 15 "PaidBySigns$Proofs" "press" "[I", Cond.fieldLink RX6 42 "PaidBySigns$Hire" "whole" "I", Cond.fieldLink RX6 45 "PaidBySigns$Hire" "signs" "I", Cond.fieldLink RX6 48 "PaidBySigns$Hire" "chances" "[[I", Cond.fieldLink RX6 9 "PaidBySigns$Proofs" "lowerNumber" "I", Cond.fieldLink RX6 56 "PaidBySigns$Hire" "rate" "[I", Cond.fieldLink RX6 59 "PaidBySigns$Hire" "rates" "I", Cond.methodLink RX6 52 yX6_pressedAt, Cond.instanceMethod yX6_pressedAt, Cond.selects RX6 yX6_pressedAt yX6_pressedAt, Cond.initialized RX6, Cond.code yX6_pressedAt cX6_pressedAt 7 (some .long), Cond.methodLink RX6 62 yX6_leastOf, Cond.static yX6_leastOf, Cond.code yX6_leastOf cX6_leastOf 9 (some .long), Cond.fieldLink RX6 72 "PaidBySigns$Hire" "least" "I", Cond.fieldLink RX6 79 "PaidBySigns$Hire" "mark" "[I", Cond.methodLink RX6 82 Lib.MathLoose.min_long.x, Cond.static Lib.MathLoose.min_long.x, Cond.initialized "java/lang/Math"]
def wsX6_boundInto_r2 : List Cond := [Cond.code Lib.MathLoose.min_long.x Lib.MathLoose.min_long.code 4 (some .long), Cond.methodLink RX6 75 yX3_feltOf, Cond.instanceMethod yX3_feltOf, Cond.selects RX3 yX3_feltOf yX3_feltOf, Cond.initialized RX3, Cond.code yX3_feltOf cX3_feltOf 6 (some .int), Cond.fieldLink RX3 48 "PaidBySigns$Hire" "rates" "I", Cond.fieldLink RX3 26 "PaidBySigns$Hire" "mark" "[I", Cond.methodLink RX3 51 Lib.Math.min.name, Cond.static Lib.Math.min.name, Cond.code Lib.Math.min.name Lib.Math.min.code 2 (some .int), Cond.fieldLink RX3 23 "PaidBySigns$Hire" "rate" "[I", Cond.methodLink RX6 66 yX2_become, Cond.instanceMethod yX2_become, Cond.selects RX2 yX2_become yX2_become, Cond.initialized RX2, Cond.code yX2_become cX2_become 7 none, Cond.methodLink RX2 20 Lib.MathLoose.abs_long.x, Cond.static Lib.MathLoose.abs_long.x, Cond.code Lib.MathLoose.abs_long.x Lib.MathLoose.abs_long.code 2 (some .long), Cond.fieldLink RX2 11 "PaidBySigns$Fraction" "upper" "J", Cond.fieldLink RX2 17 "PaidBySigns$Fraction" "lower" "J", Cond.methodLink RX2 26 yX2_commonPart, Cond.static yX2_commonPart]
def wsX6_boundInto_r3 : List Cond := [Cond.code yX2_commonPart cX2_commonPart 11 (some .long), Cond.methodLink RX2 30 yX2_forget, Cond.instanceMethod yX2_forget, Cond.selects RX2 yX2_forget yX2_forget, Cond.code yX2_forget cX2_forget 1 none, Cond.constantLong RX2 9 (-2000000000)]
def wsX6_boundInto : List Cond := .code yX6_boundInto cX6_boundInto 11 (some .boolean) :: ((wsX6_boundInto_r1 ++ (wsX6_boundInto_r2 ++ wsX6_boundInto_r3)) ++ wsX60 ++ wsX30 ++ wsX20)
theorem dX6_changeElse_0 : decode cX6_changeElse 0 = .ok (.aload_n 0, 1) := by decide +kernel
theorem dX6_changeElse_1 : decode cX6_changeElse 1 = .ok (.getfield 19, 3) := by decide +kernel
theorem dX6_changeElse_4 : decode cX6_changeElse 4 = .ok (.istore_n 2, 1) := by decide +kernel
theorem dX6_changeElse_5 : decode cX6_changeElse 5 = .ok (.aload_n 0, 1) := by decide +kernel
theorem dX6_changeElse_6 : decode cX6_changeElse 6 = .ok (.iload_n 1, 1) := by decide +kernel
theorem dX6_changeElse_7 : decode cX6_changeElse 7 = .ok (.putfield 19, 3) := by decide +kernel
theorem dX6_changeElse_10 : decode cX6_changeElse 10 = .ok (.iload_n 2, 1) := by decide +kernel
theorem dX6_changeElse_11 : decode cX6_changeElse 11 = .ok (.ireturn, 1) := by decide +kernel
theorem dX6_changeMix_0 : decode cX6_changeMix 0 = .ok (.aload_n 0, 1) := by decide +kernel
theorem dX6_changeMix_1 : decode cX6_changeMix 1 = .ok (.getfield 22, 3) := by decide +kernel
theorem dX6_changeMix_4 : decode cX6_changeMix 4 = .ok (.iload_n 1, 1) := by decide +kernel
theorem dX6_changeMix_5 : decode cX6_changeMix 5 = .ok (.iaload, 1) := by decide +kernel
theorem dX6_changeMix_6 : decode cX6_changeMix 6 = .ok (.istore_n 3, 1) := by decide +kernel
theorem dX6_changeMix_7 : decode cX6_changeMix 7 = .ok (.aload_n 0, 1) := by decide +kernel
theorem dX6_changeMix_8 : decode cX6_changeMix 8 = .ok (.getfield 22, 3) := by decide +kernel
theorem dX6_changeMix_11 : decode cX6_changeMix 11 = .ok (.iload_n 1, 1) := by decide +kernel
theorem dX6_changeMix_12 : decode cX6_changeMix 12 = .ok (.iload_n 2, 1) := by decide +kernel
theorem dX6_changeMix_13 : decode cX6_changeMix 13 = .ok (.iastore, 1) := by decide +kernel
theorem dX6_changeMix_14 : decode cX6_changeMix 14 = .ok (.iload_n 3, 1) := by decide +kernel
theorem dX6_changeMix_15 : decode cX6_changeMix 15 = .ok (.ireturn, 1) := by decide +kernel
theorem pm_X6_boundInto_r1 : ∀ w ∈ wsX6_boundInto_r1, w ∈ wsX6_boundInto := fun _ h => List.mem_cons_of_mem _ (List.mem_append_left _ (List.mem_append_left _ (List.mem_append_left _ (List.mem_append_left _ h))))
theorem pm_X6_boundInto_r2 : ∀ w ∈ wsX6_boundInto_r2, w ∈ wsX6_boundInto := fun _ h => List.mem_cons_of_mem _ (List.mem_append_left _ (List.mem_append_left _ (List.mem_append_left _ (List.mem_append_right _ (List.mem_append_left _ h)))))
theorem pm_X6_boundInto_r3 : ∀ w ∈ wsX6_boundInto_r3, w ∈ wsX6_boundInto := fun _ h => List.mem_cons_of_mem _ (List.mem_append_left _ (List.mem_append_left _ (List.mem_append_left _ (List.mem_append_right _ (List.mem_append_right _ (h))))))
theorem pw_X6_boundInto_X6 : ∀ w ∈ wsX60, w ∈ wsX6_boundInto := fun _ h => List.mem_cons_of_mem _ (List.mem_append_left _ (List.mem_append_left _ (List.mem_append_right _ h)))
theorem pw_X6_boundInto_X3 : ∀ w ∈ wsX30, w ∈ wsX6_boundInto := fun _ h => List.mem_cons_of_mem _ (List.mem_append_left _ (List.mem_append_right _ h))
theorem pw_X6_boundInto_X2 : ∀ w ∈ wsX20, w ∈ wsX6_boundInto := fun _ h => List.mem_cons_of_mem _ (List.mem_append_right _ h)
set_option maxRecDepth 20000 in
theorem ggX6_boundInto_X6_pressedAt : GoodIn wsX6_boundInto wsX6_pressedAt := goodIn_sub (List.forall_mem_cons.mpr ⟨pm_X6_boundInto_r1 _ (List.mem_of_getElem? (i := 15) rfl), List.forall_mem_append.mpr ⟨List.forall_mem_append.mpr ⟨List.forall_mem_cons.mpr ⟨pm_X6_boundInto_r1 _ (List.mem_of_getElem? (i := 0) rfl), List.forall_mem_cons.mpr ⟨pm_X6_boundInto_r1 _ (List.mem_of_getElem? (i := 7) rfl), List.forall_mem_cons.mpr ⟨pm_X6_boundInto_r1 _ (List.mem_of_getElem? (i := 3) rfl), List.forall_mem_cons.mpr ⟨pm_X6_boundInto_r1 _ (List.mem_of_getElem? (i := 4) rfl), fun _ h => absurd h List.not_mem_nil⟩⟩⟩⟩, pw_X6_boundInto_X6⟩, pw_X6_boundInto_X3⟩⟩) (by decide +kernel)
set_option maxRecDepth 20000 in
theorem gX6_boundInto_X6_pressedAt : GoodIn wsX6_boundInto (wsV RX6 52 RX6 yX6_pressedAt wsX6_pressedAt) := goodIn_app (goodIn_of _ (by decide +kernel)) ggX6_boundInto_X6_pressedAt
set_option maxRecDepth 20000 in
theorem ggX6_boundInto_X6_leastOf : GoodIn wsX6_boundInto wsX6_leastOf := goodIn_sub (List.forall_mem_cons.mpr ⟨pm_X6_boundInto_r1 _ (List.mem_of_getElem? (i := 18) rfl), List.forall_mem_append.mpr ⟨List.forall_mem_cons.mpr ⟨pm_X6_boundInto_r1 _ (List.mem_of_getElem? (i := 19) rfl), List.forall_mem_cons.mpr ⟨pm_X6_boundInto_r1 _ (List.mem_of_getElem? (i := 10) rfl), List.forall_mem_cons.mpr ⟨pm_X6_boundInto_r1 _ (List.mem_of_getElem? (i := 20) rfl), List.forall_mem_cons.mpr ⟨pm_X6_boundInto_r1 _ (List.mem_of_getElem? (i := 21) rfl), List.forall_mem_cons.mpr ⟨pm_X6_boundInto_r1 _ (List.mem_of_getElem? (i := 22) rfl), List.forall_mem_cons.mpr ⟨pm_X6_boundInto_r1 _ (List.mem_of_getElem? (i := 23) rfl), List.forall_mem_cons.mpr ⟨pm_X6_boundInto_r2 _ (List.mem_of_getElem? (i := 0) rfl), List.forall_mem_cons.mpr ⟨pm_X6_boundInto_r2 _ (List.mem_of_getElem? (i := 1) rfl), List.forall_mem_cons.mpr ⟨pm_X6_boundInto_r2 _ (List.mem_of_getElem? (i := 2) rfl), List.forall_mem_cons.mpr ⟨pm_X6_boundInto_r2 _ (List.mem_of_getElem? (i := 3) rfl), List.forall_mem_cons.mpr ⟨pm_X6_boundInto_r2 _ (List.mem_of_getElem? (i := 4) rfl), List.forall_mem_cons.mpr ⟨pm_X6_boundInto_r2 _ (List.mem_of_getElem? (i := 5) rfl), List.forall_mem_cons.mpr ⟨pm_X6_boundInto_r2 _ (List.mem_of_getElem? (i := 6) rfl), List.forall_mem_cons.mpr ⟨pm_X6_boundInto_r2 _ (List.mem_of_getElem? (i := 7) rfl), List.forall_mem_cons.mpr ⟨pm_X6_boundInto_r2 _ (List.mem_of_getElem? (i := 8) rfl), List.forall_mem_cons.mpr ⟨pm_X6_boundInto_r2 _ (List.mem_of_getElem? (i := 9) rfl), List.forall_mem_cons.mpr ⟨pm_X6_boundInto_r2 _ (List.mem_of_getElem? (i := 10) rfl), List.forall_mem_cons.mpr ⟨pm_X6_boundInto_r2 _ (List.mem_of_getElem? (i := 11) rfl), fun _ h => absurd h List.not_mem_nil⟩⟩⟩⟩⟩⟩⟩⟩⟩⟩⟩⟩⟩⟩⟩⟩⟩⟩, pw_X6_boundInto_X3⟩⟩) (by decide +kernel)
set_option maxRecDepth 20000 in
theorem gX6_boundInto_X6_leastOf : GoodIn wsX6_boundInto (va_wsS RX6 62 yX6_leastOf wsX6_leastOf) := goodIn_app (goodIn_of _ (by decide +kernel)) ggX6_boundInto_X6_leastOf
set_option maxRecDepth 20000 in
theorem ggX6_boundInto_X2_become : GoodIn wsX6_boundInto wsX2_become := goodIn_sub (List.forall_mem_cons.mpr ⟨pm_X6_boundInto_r2 _ (List.mem_of_getElem? (i := 16) rfl), List.forall_mem_append.mpr ⟨List.forall_mem_cons.mpr ⟨pm_X6_boundInto_r2 _ (List.mem_of_getElem? (i := 17) rfl), List.forall_mem_cons.mpr ⟨pm_X6_boundInto_r2 _ (List.mem_of_getElem? (i := 18) rfl), List.forall_mem_cons.mpr ⟨pm_X6_boundInto_r1 _ (List.mem_of_getElem? (i := 23) rfl), List.forall_mem_cons.mpr ⟨pm_X6_boundInto_r2 _ (List.mem_of_getElem? (i := 19) rfl), List.forall_mem_cons.mpr ⟨pm_X6_boundInto_r2 _ (List.mem_of_getElem? (i := 20) rfl), List.forall_mem_cons.mpr ⟨pm_X6_boundInto_r2 _ (List.mem_of_getElem? (i := 21) rfl), List.forall_mem_cons.mpr ⟨pm_X6_boundInto_r2 _ (List.mem_of_getElem? (i := 22) rfl), List.forall_mem_cons.mpr ⟨pm_X6_boundInto_r2 _ (List.mem_of_getElem? (i := 23) rfl), List.forall_mem_cons.mpr ⟨pm_X6_boundInto_r2 _ (List.mem_of_getElem? (i := 15) rfl), List.forall_mem_cons.mpr ⟨pm_X6_boundInto_r3 _ (List.mem_of_getElem? (i := 0) rfl), List.forall_mem_cons.mpr ⟨pm_X6_boundInto_r3 _ (List.mem_of_getElem? (i := 1) rfl), List.forall_mem_cons.mpr ⟨pm_X6_boundInto_r3 _ (List.mem_of_getElem? (i := 2) rfl), List.forall_mem_cons.mpr ⟨pm_X6_boundInto_r3 _ (List.mem_of_getElem? (i := 3) rfl), List.forall_mem_cons.mpr ⟨pm_X6_boundInto_r3 _ (List.mem_of_getElem? (i := 4) rfl), List.forall_mem_cons.mpr ⟨pm_X6_boundInto_r3 _ (List.mem_of_getElem? (i := 5) rfl), fun _ h => absurd h List.not_mem_nil⟩⟩⟩⟩⟩⟩⟩⟩⟩⟩⟩⟩⟩⟩⟩, pw_X6_boundInto_X2⟩⟩) (by decide +kernel)
set_option maxRecDepth 20000 in
theorem gX6_boundInto_X2_become : GoodIn wsX6_boundInto (wsV RX6 66 RX2 yX2_become wsX2_become) := goodIn_app (goodIn_of _ (by decide +kernel)) ggX6_boundInto_X2_become
theorem dX6_boundInto_0 : decode cX6_boundInto 0 = .ok (.aload_n 0, 1) := by decide +kernel
theorem dX6_boundInto_1 : decode cX6_boundInto 1 = .ok (.getfield 19, 3) := by decide +kernel
theorem dX6_boundInto_4 : decode cX6_boundInto 4 = .ok (.i2l, 1) := by decide +kernel
theorem dX6_boundInto_5 : decode cX6_boundInto 5 = .ok (.aload_n 2, 1) := by decide +kernel
theorem dX6_boundInto_6 : decode cX6_boundInto 6 = .ok (.getfield 31, 3) := by decide +kernel
theorem dX6_boundInto_9 : decode cX6_boundInto 9 = .ok (.iload_n 3, 1) := by decide +kernel
theorem dX6_boundInto_10 : decode cX6_boundInto 10 = .ok (.iaload, 1) := by decide +kernel
theorem dX6_boundInto_11 : decode cX6_boundInto 11 = .ok (.aload_n 2, 1) := by decide +kernel
theorem dX6_boundInto_12 : decode cX6_boundInto 12 = .ok (.getfield 36, 3) := by decide +kernel
theorem dX6_boundInto_15 : decode cX6_boundInto 15 = .ok (.iadd, 1) := by decide +kernel
theorem dX6_boundInto_16 : decode cX6_boundInto 16 = .ok (.i2l, 1) := by decide +kernel
theorem dX6_boundInto_17 : decode cX6_boundInto 17 = .ok (.lmul, 1) := by decide +kernel
theorem dX6_boundInto_18 : decode cX6_boundInto 18 = .ok (.lstore 4, 2) := by decide +kernel
theorem dX6_boundInto_20 : decode cX6_boundInto 20 = .ok (.iconst 0, 1) := by decide +kernel
theorem dX6_boundInto_21 : decode cX6_boundInto 21 = .ok (.istore 6, 2) := by decide +kernel
theorem dX6_boundInto_23 : decode cX6_boundInto 23 = .ok (.iload 6, 2) := by decide +kernel
theorem dX6_boundInto_25 : decode cX6_boundInto 25 = .ok (.aload_n 2, 1) := by decide +kernel
theorem dX6_boundInto_26 : decode cX6_boundInto 26 = .ok (.getfield 39, 3) := by decide +kernel
theorem dX6_boundInto_29 : decode cX6_boundInto 29 = .ok (.if_icmp .ge 38, 3) := by decide +kernel
theorem dX6_boundInto_32 : decode cX6_boundInto 32 = .ok (.lload 4, 2) := by decide +kernel
theorem dX6_boundInto_34 : decode cX6_boundInto 34 = .ok (.aload_n 0, 1) := by decide +kernel
theorem dX6_boundInto_35 : decode cX6_boundInto 35 = .ok (.getfield 15, 3) := by decide +kernel
theorem dX6_boundInto_38 : decode cX6_boundInto 38 = .ok (.iload 6, 2) := by decide +kernel
theorem dX6_boundInto_40 : decode cX6_boundInto 40 = .ok (.iaload, 1) := by decide +kernel
theorem dX6_boundInto_41 : decode cX6_boundInto 41 = .ok (.i2l, 1) := by decide +kernel
theorem dX6_boundInto_42 : decode cX6_boundInto 42 = .ok (.aload_n 2, 1) := by decide +kernel
theorem dX6_boundInto_43 : decode cX6_boundInto 43 = .ok (.getfield 31, 3) := by decide +kernel
theorem dX6_boundInto_46 : decode cX6_boundInto 46 = .ok (.iload_n 3, 1) := by decide +kernel
theorem dX6_boundInto_47 : decode cX6_boundInto 47 = .ok (.iaload, 1) := by decide +kernel
theorem dX6_boundInto_48 : decode cX6_boundInto 48 = .ok (.aload_n 2, 1) := by decide +kernel
theorem dX6_boundInto_49 : decode cX6_boundInto 49 = .ok (.getfield 31, 3) := by decide +kernel
theorem dX6_boundInto_52 : decode cX6_boundInto 52 = .ok (.iload 6, 2) := by decide +kernel
theorem dX6_boundInto_54 : decode cX6_boundInto 54 = .ok (.iaload, 1) := by decide +kernel
theorem dX6_boundInto_55 : decode cX6_boundInto 55 = .ok (.isub, 1) := by decide +kernel
theorem dX6_boundInto_56 : decode cX6_boundInto 56 = .ok (.i2l, 1) := by decide +kernel
theorem dX6_boundInto_57 : decode cX6_boundInto 57 = .ok (.lmul, 1) := by decide +kernel
theorem dX6_boundInto_58 : decode cX6_boundInto 58 = .ok (.ladd, 1) := by decide +kernel
theorem dX6_boundInto_59 : decode cX6_boundInto 59 = .ok (.lstore 4, 2) := by decide +kernel
theorem dX6_boundInto_61 : decode cX6_boundInto 61 = .ok (.iinc 6 1, 3) := by decide +kernel
theorem dX6_boundInto_64 : decode cX6_boundInto 64 = .ok (.goto (-41), 3) := by decide +kernel
theorem dX6_boundInto_67 : decode cX6_boundInto 67 = .ok (.lload 4, 2) := by decide +kernel
theorem dX6_boundInto_69 : decode cX6_boundInto 69 = .ok (.aload_n 2, 1) := by decide +kernel
theorem dX6_boundInto_70 : decode cX6_boundInto 70 = .ok (.getfield 42, 3) := by decide +kernel
theorem dX6_boundInto_73 : decode cX6_boundInto 73 = .ok (.i2l, 1) := by decide +kernel
theorem dX6_boundInto_74 : decode cX6_boundInto 74 = .ok (.lmul, 1) := by decide +kernel
theorem dX6_boundInto_75 : decode cX6_boundInto 75 = .ok (.lstore 4, 2) := by decide +kernel
theorem dX6_boundInto_77 : decode cX6_boundInto 77 = .ok (.iconst 0, 1) := by decide +kernel
theorem dX6_boundInto_78 : decode cX6_boundInto 78 = .ok (.istore 6, 2) := by decide +kernel
theorem dX6_boundInto_80 : decode cX6_boundInto 80 = .ok (.iload 6, 2) := by decide +kernel
theorem dX6_boundInto_82 : decode cX6_boundInto 82 = .ok (.aload_n 2, 1) := by decide +kernel
theorem dX6_boundInto_83 : decode cX6_boundInto 83 = .ok (.getfield 45, 3) := by decide +kernel
theorem dX6_boundInto_86 : decode cX6_boundInto 86 = .ok (.if_icmp .ge 73, 3) := by decide +kernel
theorem dX6_boundInto_89 : decode cX6_boundInto 89 = .ok (.aload_n 2, 1) := by decide +kernel
theorem dX6_boundInto_90 : decode cX6_boundInto 90 = .ok (.getfield 48, 3) := by decide +kernel
theorem dX6_boundInto_93 : decode cX6_boundInto 93 = .ok (.iload_n 3, 1) := by decide +kernel
theorem dX6_boundInto_94 : decode cX6_boundInto 94 = .ok (.aaload, 1) := by decide +kernel
theorem dX6_boundInto_95 : decode cX6_boundInto 95 = .ok (.iload 6, 2) := by decide +kernel
theorem dX6_boundInto_97 : decode cX6_boundInto 97 = .ok (.iaload, 1) := by decide +kernel
theorem dX6_boundInto_98 : decode cX6_boundInto 98 = .ok (.i2l, 1) := by decide +kernel
theorem dX6_boundInto_99 : decode cX6_boundInto 99 = .ok (.aload_n 0, 1) := by decide +kernel
theorem dX6_boundInto_100 : decode cX6_boundInto 100 = .ok (.getfield 9, 3) := by decide +kernel
theorem dX6_boundInto_103 : decode cX6_boundInto 103 = .ok (.i2l, 1) := by decide +kernel
theorem dX6_boundInto_104 : decode cX6_boundInto 104 = .ok (.lmul, 1) := by decide +kernel
theorem dX6_boundInto_105 : decode cX6_boundInto 105 = .ok (.lstore 7, 2) := by decide +kernel
theorem dX6_boundInto_107 : decode cX6_boundInto 107 = .ok (.aload_n 0, 1) := by decide +kernel
theorem dX6_boundInto_108 : decode cX6_boundInto 108 = .ok (.aload_n 2, 1) := by decide +kernel
theorem dX6_boundInto_109 : decode cX6_boundInto 109 = .ok (.iload_n 3, 1) := by decide +kernel
theorem dX6_boundInto_110 : decode cX6_boundInto 110 = .ok (.iload 6, 2) := by decide +kernel
theorem dX6_boundInto_112 : decode cX6_boundInto 112 = .ok (.invokevirtual 52, 3) := by decide +kernel
theorem dX6_boundInto_115 : decode cX6_boundInto 115 = .ok (.lstore 9, 2) := by decide +kernel
theorem dX6_boundInto_117 : decode cX6_boundInto 117 = .ok (.lload 7, 2) := by decide +kernel
theorem dX6_boundInto_119 : decode cX6_boundInto 119 = .ok (.aload_n 2, 1) := by decide +kernel
theorem dX6_boundInto_120 : decode cX6_boundInto 120 = .ok (.getfield 56, 3) := by decide +kernel
theorem dX6_boundInto_123 : decode cX6_boundInto 123 = .ok (.aload_n 2, 1) := by decide +kernel
theorem dX6_boundInto_124 : decode cX6_boundInto 124 = .ok (.getfield 59, 3) := by decide +kernel
theorem dX6_boundInto_127 : decode cX6_boundInto 127 = .ok (.iconst 1, 1) := by decide +kernel
theorem dX6_boundInto_128 : decode cX6_boundInto 128 = .ok (.isub, 1) := by decide +kernel
theorem dX6_boundInto_129 : decode cX6_boundInto 129 = .ok (.iaload, 1) := by decide +kernel
theorem dX6_boundInto_130 : decode cX6_boundInto 130 = .ok (.i2l, 1) := by decide +kernel
theorem dX6_boundInto_131 : decode cX6_boundInto 131 = .ok (.lload 9, 2) := by decide +kernel
theorem dX6_boundInto_133 : decode cX6_boundInto 133 = .ok (.lmul, 1) := by decide +kernel
theorem dX6_boundInto_134 : decode cX6_boundInto 134 = .ok (.lcmp, 1) := by decide +kernel
theorem dX6_boundInto_135 : decode cX6_boundInto 135 = .ok (.ifCond .ge 5, 3) := by decide +kernel
theorem dX6_boundInto_138 : decode cX6_boundInto 138 = .ok (.iconst 0, 1) := by decide +kernel
theorem dX6_boundInto_139 : decode cX6_boundInto 139 = .ok (.ireturn, 1) := by decide +kernel
theorem dX6_boundInto_140 : decode cX6_boundInto 140 = .ok (.lload 4, 2) := by decide +kernel
theorem dX6_boundInto_142 : decode cX6_boundInto 142 = .ok (.aload_n 2, 1) := by decide +kernel
theorem dX6_boundInto_143 : decode cX6_boundInto 143 = .ok (.lload 7, 2) := by decide +kernel
theorem dX6_boundInto_145 : decode cX6_boundInto 145 = .ok (.lload 9, 2) := by decide +kernel
theorem dX6_boundInto_147 : decode cX6_boundInto 147 = .ok (.invokestatic 62, 3) := by decide +kernel
theorem dX6_boundInto_150 : decode cX6_boundInto 150 = .ok (.ladd, 1) := by decide +kernel
theorem dX6_boundInto_151 : decode cX6_boundInto 151 = .ok (.lstore 4, 2) := by decide +kernel
theorem dX6_boundInto_153 : decode cX6_boundInto 153 = .ok (.iinc 6 1, 3) := by decide +kernel
theorem dX6_boundInto_156 : decode cX6_boundInto 156 = .ok (.goto (-76), 3) := by decide +kernel
theorem dX6_boundInto_159 : decode cX6_boundInto 159 = .ok (.aload_n 1, 1) := by decide +kernel
theorem dX6_boundInto_160 : decode cX6_boundInto 160 = .ok (.lload 4, 2) := by decide +kernel
theorem dX6_boundInto_162 : decode cX6_boundInto 162 = .ok (.aload_n 0, 1) := by decide +kernel
theorem dX6_boundInto_163 : decode cX6_boundInto 163 = .ok (.getfield 9, 3) := by decide +kernel
theorem dX6_boundInto_166 : decode cX6_boundInto 166 = .ok (.i2l, 1) := by decide +kernel
theorem dX6_boundInto_167 : decode cX6_boundInto 167 = .ok (.aload_n 2, 1) := by decide +kernel
theorem dX6_boundInto_168 : decode cX6_boundInto 168 = .ok (.getfield 42, 3) := by decide +kernel
theorem dX6_boundInto_171 : decode cX6_boundInto 171 = .ok (.i2l, 1) := by decide +kernel
theorem dX6_boundInto_172 : decode cX6_boundInto 172 = .ok (.lmul, 1) := by decide +kernel
theorem dX6_boundInto_173 : decode cX6_boundInto 173 = .ok (.invokevirtual 66, 3) := by decide +kernel
theorem dX6_boundInto_176 : decode cX6_boundInto 176 = .ok (.iconst 1, 1) := by decide +kernel
theorem dX6_boundInto_177 : decode cX6_boundInto 177 = .ok (.ireturn, 1) := by decide +kernel
theorem dX6_pressedAt_0 : decode cX6_pressedAt 0 = .ok (.aload_n 0, 1) := by decide +kernel
theorem dX6_pressedAt_1 : decode cX6_pressedAt 1 = .ok (.getfield 19, 3) := by decide +kernel
theorem dX6_pressedAt_4 : decode cX6_pressedAt 4 = .ok (.i2l, 1) := by decide +kernel
theorem dX6_pressedAt_5 : decode cX6_pressedAt 5 = .ok (.aload_n 1, 1) := by decide +kernel
theorem dX6_pressedAt_6 : decode cX6_pressedAt 6 = .ok (.getfield 48, 3) := by decide +kernel
theorem dX6_pressedAt_9 : decode cX6_pressedAt 9 = .ok (.iload_n 2, 1) := by decide +kernel
theorem dX6_pressedAt_10 : decode cX6_pressedAt 10 = .ok (.aaload, 1) := by decide +kernel
theorem dX6_pressedAt_11 : decode cX6_pressedAt 11 = .ok (.iload_n 3, 1) := by decide +kernel
theorem dX6_pressedAt_12 : decode cX6_pressedAt 12 = .ok (.iaload, 1) := by decide +kernel
theorem dX6_pressedAt_13 : decode cX6_pressedAt 13 = .ok (.i2l, 1) := by decide +kernel
theorem dX6_pressedAt_14 : decode cX6_pressedAt 14 = .ok (.lmul, 1) := by decide +kernel
theorem dX6_pressedAt_15 : decode cX6_pressedAt 15 = .ok (.lstore 4, 2) := by decide +kernel
theorem dX6_pressedAt_17 : decode cX6_pressedAt 17 = .ok (.iconst 0, 1) := by decide +kernel
theorem dX6_pressedAt_18 : decode cX6_pressedAt 18 = .ok (.istore 6, 2) := by decide +kernel
theorem dX6_pressedAt_20 : decode cX6_pressedAt 20 = .ok (.iload 6, 2) := by decide +kernel
theorem dX6_pressedAt_22 : decode cX6_pressedAt 22 = .ok (.aload_n 1, 1) := by decide +kernel
theorem dX6_pressedAt_23 : decode cX6_pressedAt 23 = .ok (.getfield 39, 3) := by decide +kernel
theorem dX6_pressedAt_26 : decode cX6_pressedAt 26 = .ok (.if_icmp .ge 42, 3) := by decide +kernel
theorem dX6_pressedAt_29 : decode cX6_pressedAt 29 = .ok (.lload 4, 2) := by decide +kernel
theorem dX6_pressedAt_31 : decode cX6_pressedAt 31 = .ok (.aload_n 0, 1) := by decide +kernel
theorem dX6_pressedAt_32 : decode cX6_pressedAt 32 = .ok (.getfield 15, 3) := by decide +kernel
theorem dX6_pressedAt_35 : decode cX6_pressedAt 35 = .ok (.iload 6, 2) := by decide +kernel
theorem dX6_pressedAt_37 : decode cX6_pressedAt 37 = .ok (.iaload, 1) := by decide +kernel
theorem dX6_pressedAt_38 : decode cX6_pressedAt 38 = .ok (.i2l, 1) := by decide +kernel
theorem dX6_pressedAt_39 : decode cX6_pressedAt 39 = .ok (.aload_n 1, 1) := by decide +kernel
theorem dX6_pressedAt_40 : decode cX6_pressedAt 40 = .ok (.getfield 48, 3) := by decide +kernel
theorem dX6_pressedAt_43 : decode cX6_pressedAt 43 = .ok (.iload_n 2, 1) := by decide +kernel
theorem dX6_pressedAt_44 : decode cX6_pressedAt 44 = .ok (.aaload, 1) := by decide +kernel
theorem dX6_pressedAt_45 : decode cX6_pressedAt 45 = .ok (.iload_n 3, 1) := by decide +kernel
theorem dX6_pressedAt_46 : decode cX6_pressedAt 46 = .ok (.iaload, 1) := by decide +kernel
theorem dX6_pressedAt_47 : decode cX6_pressedAt 47 = .ok (.aload_n 1, 1) := by decide +kernel
theorem dX6_pressedAt_48 : decode cX6_pressedAt 48 = .ok (.getfield 48, 3) := by decide +kernel
theorem dX6_pressedAt_51 : decode cX6_pressedAt 51 = .ok (.iload 6, 2) := by decide +kernel
theorem dX6_pressedAt_53 : decode cX6_pressedAt 53 = .ok (.aaload, 1) := by decide +kernel
theorem dX6_pressedAt_54 : decode cX6_pressedAt 54 = .ok (.iload_n 3, 1) := by decide +kernel
theorem dX6_pressedAt_55 : decode cX6_pressedAt 55 = .ok (.iaload, 1) := by decide +kernel
theorem dX6_pressedAt_56 : decode cX6_pressedAt 56 = .ok (.isub, 1) := by decide +kernel
theorem dX6_pressedAt_57 : decode cX6_pressedAt 57 = .ok (.i2l, 1) := by decide +kernel
theorem dX6_pressedAt_58 : decode cX6_pressedAt 58 = .ok (.lmul, 1) := by decide +kernel
theorem dX6_pressedAt_59 : decode cX6_pressedAt 59 = .ok (.ladd, 1) := by decide +kernel
theorem dX6_pressedAt_60 : decode cX6_pressedAt 60 = .ok (.lstore 4, 2) := by decide +kernel
theorem dX6_pressedAt_62 : decode cX6_pressedAt 62 = .ok (.iinc 6 1, 3) := by decide +kernel
theorem dX6_pressedAt_65 : decode cX6_pressedAt 65 = .ok (.goto (-45), 3) := by decide +kernel
theorem dX6_pressedAt_68 : decode cX6_pressedAt 68 = .ok (.lload 4, 2) := by decide +kernel
theorem dX6_pressedAt_70 : decode cX6_pressedAt 70 = .ok (.lreturn, 1) := by decide +kernel
set_option maxRecDepth 20000 in
theorem ggX6_leastOf_X3_feltOf : GoodIn wsX6_leastOf wsX3_feltOf := goodIn_r _ [12, 13, 14, 15, 16, 6, 17, 18, 19, 20, 21, 22, 23, 24, 25, 26, 27, 28, 29] (by decide +kernel) (by decide +kernel)
set_option maxRecDepth 20000 in
theorem gX6_leastOf_X3_feltOf : GoodIn wsX6_leastOf (wsV RX6 75 RX3 yX3_feltOf wsX3_feltOf) := goodIn_app (goodIn_of _ (by decide +kernel)) ggX6_leastOf_X3_feltOf
theorem dX6_leastOf_0 : decode cX6_leastOf 0 = .ok (.lload_n 1, 1) := by decide +kernel
theorem dX6_leastOf_1 : decode cX6_leastOf 1 = .ok (.aload_n 0, 1) := by decide +kernel
theorem dX6_leastOf_2 : decode cX6_leastOf 2 = .ok (.getfield 72, 3) := by decide +kernel
theorem dX6_leastOf_5 : decode cX6_leastOf 5 = .ok (.i2l, 1) := by decide +kernel
theorem dX6_leastOf_6 : decode cX6_leastOf 6 = .ok (.lmul, 1) := by decide +kernel
theorem dX6_leastOf_7 : decode cX6_leastOf 7 = .ok (.lload_n 3, 1) := by decide +kernel
theorem dX6_leastOf_8 : decode cX6_leastOf 8 = .ok (.aload_n 0, 1) := by decide +kernel
theorem dX6_leastOf_9 : decode cX6_leastOf 9 = .ok (.aload_n 0, 1) := by decide +kernel
theorem dX6_leastOf_10 : decode cX6_leastOf 10 = .ok (.getfield 72, 3) := by decide +kernel
theorem dX6_leastOf_13 : decode cX6_leastOf 13 = .ok (.invokevirtual 75, 3) := by decide +kernel
theorem dX6_leastOf_16 : decode cX6_leastOf 16 = .ok (.i2l, 1) := by decide +kernel
theorem dX6_leastOf_17 : decode cX6_leastOf 17 = .ok (.lmul, 1) := by decide +kernel
theorem dX6_leastOf_18 : decode cX6_leastOf 18 = .ok (.lsub, 1) := by decide +kernel
theorem dX6_leastOf_19 : decode cX6_leastOf 19 = .ok (.lstore 5, 2) := by decide +kernel
theorem dX6_leastOf_21 : decode cX6_leastOf 21 = .ok (.iconst 0, 1) := by decide +kernel
theorem dX6_leastOf_22 : decode cX6_leastOf 22 = .ok (.istore 7, 2) := by decide +kernel
theorem dX6_leastOf_24 : decode cX6_leastOf 24 = .ok (.iload 7, 2) := by decide +kernel
theorem dX6_leastOf_26 : decode cX6_leastOf 26 = .ok (.aload_n 0, 1) := by decide +kernel
theorem dX6_leastOf_27 : decode cX6_leastOf 27 = .ok (.getfield 59, 3) := by decide +kernel
theorem dX6_leastOf_30 : decode cX6_leastOf 30 = .ok (.iconst 1, 1) := by decide +kernel
theorem dX6_leastOf_31 : decode cX6_leastOf 31 = .ok (.isub, 1) := by decide +kernel
theorem dX6_leastOf_32 : decode cX6_leastOf 32 = .ok (.if_icmp .ge 49, 3) := by decide +kernel
theorem dX6_leastOf_35 : decode cX6_leastOf 35 = .ok (.aload_n 0, 1) := by decide +kernel
theorem dX6_leastOf_36 : decode cX6_leastOf 36 = .ok (.getfield 79, 3) := by decide +kernel
theorem dX6_leastOf_39 : decode cX6_leastOf 39 = .ok (.iload 7, 2) := by decide +kernel
theorem dX6_leastOf_41 : decode cX6_leastOf 41 = .ok (.iaload, 1) := by decide +kernel
theorem dX6_leastOf_42 : decode cX6_leastOf 42 = .ok (.istore 8, 2) := by decide +kernel
theorem dX6_leastOf_44 : decode cX6_leastOf 44 = .ok (.iload 8, 2) := by decide +kernel
theorem dX6_leastOf_46 : decode cX6_leastOf 46 = .ok (.aload_n 0, 1) := by decide +kernel
theorem dX6_leastOf_47 : decode cX6_leastOf 47 = .ok (.getfield 72, 3) := by decide +kernel
theorem dX6_leastOf_50 : decode cX6_leastOf 50 = .ok (.if_icmp .le 25, 3) := by decide +kernel
theorem dX6_leastOf_53 : decode cX6_leastOf 53 = .ok (.lload 5, 2) := by decide +kernel
theorem dX6_leastOf_55 : decode cX6_leastOf 55 = .ok (.lload_n 1, 1) := by decide +kernel
theorem dX6_leastOf_56 : decode cX6_leastOf 56 = .ok (.iload 8, 2) := by decide +kernel
theorem dX6_leastOf_58 : decode cX6_leastOf 58 = .ok (.i2l, 1) := by decide +kernel
theorem dX6_leastOf_59 : decode cX6_leastOf 59 = .ok (.lmul, 1) := by decide +kernel
theorem dX6_leastOf_60 : decode cX6_leastOf 60 = .ok (.lload_n 3, 1) := by decide +kernel
theorem dX6_leastOf_61 : decode cX6_leastOf 61 = .ok (.aload_n 0, 1) := by decide +kernel
theorem dX6_leastOf_62 : decode cX6_leastOf 62 = .ok (.iload 8, 2) := by decide +kernel
theorem dX6_leastOf_64 : decode cX6_leastOf 64 = .ok (.invokevirtual 75, 3) := by decide +kernel
theorem dX6_leastOf_67 : decode cX6_leastOf 67 = .ok (.i2l, 1) := by decide +kernel
theorem dX6_leastOf_68 : decode cX6_leastOf 68 = .ok (.lmul, 1) := by decide +kernel
theorem dX6_leastOf_69 : decode cX6_leastOf 69 = .ok (.lsub, 1) := by decide +kernel
theorem dX6_leastOf_70 : decode cX6_leastOf 70 = .ok (.invokestatic 82, 3) := by decide +kernel
theorem dX6_leastOf_73 : decode cX6_leastOf 73 = .ok (.lstore 5, 2) := by decide +kernel
theorem dX6_leastOf_75 : decode cX6_leastOf 75 = .ok (.iinc 7 1, 3) := by decide +kernel
theorem dX6_leastOf_78 : decode cX6_leastOf 78 = .ok (.goto (-54), 3) := by decide +kernel
theorem dX6_leastOf_81 : decode cX6_leastOf 81 = .ok (.lload 5, 2) := by decide +kernel
theorem dX6_leastOf_83 : decode cX6_leastOf 83 = .ok (.lreturn, 1) := by decide +kernel
theorem kk_X6_changeElse_0 : Cond.fieldLink RX6 19 "PaidBySigns$Proofs" "pressOfElse" "I" ∈ wsX6_changeElse := by decide +kernel
theorem kk_X6_changeMix_0 : Cond.fieldLink RX6 22 "PaidBySigns$Proofs" "mixed" "[I" ∈ wsX6_changeMix := by decide +kernel
theorem kk_X6_boundInto_0 : Cond.fieldLink RX6 19 "PaidBySigns$Proofs" "pressOfElse" "I" ∈ wsX6_boundInto := pm_X6_boundInto_r1 _ (List.mem_of_getElem? (i := 0) rfl)
theorem kk_X6_boundInto_1 : Cond.fieldLink RX6 31 "PaidBySigns$Hire" "costs" "[I" ∈ wsX6_boundInto := pm_X6_boundInto_r1 _ (List.mem_of_getElem? (i := 1) rfl)
theorem kk_X6_boundInto_2 : Cond.fieldLink RX6 36 "PaidBySigns$Hire" "otherwise" "I" ∈ wsX6_boundInto := pm_X6_boundInto_r1 _ (List.mem_of_getElem? (i := 2) rfl)
theorem kk_X6_boundInto_3 : Cond.fieldLink RX6 39 "PaidBySigns$Hire" "works" "I" ∈ wsX6_boundInto := pm_X6_boundInto_r1 _ (List.mem_of_getElem? (i := 3) rfl)
theorem kk_X6_boundInto_4 : Cond.fieldLink RX6 42 "PaidBySigns$Hire" "whole" "I" ∈ wsX6_boundInto := pm_X6_boundInto_r1 _ (List.mem_of_getElem? (i := 5) rfl)
theorem kk_X6_boundInto_5 : Cond.fieldLink RX6 45 "PaidBySigns$Hire" "signs" "I" ∈ wsX6_boundInto := pm_X6_boundInto_r1 _ (List.mem_of_getElem? (i := 6) rfl)
theorem kk_X6_boundInto_6 : Cond.fieldLink RX6 9 "PaidBySigns$Proofs" "lowerNumber" "I" ∈ wsX6_boundInto := pm_X6_boundInto_r1 _ (List.mem_of_getElem? (i := 8) rfl)
theorem kk_X6_boundInto_7 : Cond.fieldLink RX6 48 "PaidBySigns$Hire" "chances" "[[I" ∈ wsX6_boundInto := pm_X6_boundInto_r1 _ (List.mem_of_getElem? (i := 7) rfl)
theorem kk_X6_pressedAt_0 : Cond.fieldLink RX6 19 "PaidBySigns$Proofs" "pressOfElse" "I" ∈ wsX6_pressedAt := by decide +kernel
theorem kk_X6_pressedAt_1 : Cond.fieldLink RX6 48 "PaidBySigns$Hire" "chances" "[[I" ∈ wsX6_pressedAt := by decide +kernel
theorem kk_X6_pressedAt_2 : Cond.fieldLink RX6 39 "PaidBySigns$Hire" "works" "I" ∈ wsX6_pressedAt := by decide +kernel
theorem kk_X6_pressedAt_3 : Cond.fieldLink RX6 15 "PaidBySigns$Proofs" "press" "[I" ∈ wsX6_pressedAt := by decide +kernel
theorem kk_X6_boundInto_8 : Cond.fieldLink RX6 56 "PaidBySigns$Hire" "rate" "[I" ∈ wsX6_boundInto := pm_X6_boundInto_r1 _ (List.mem_of_getElem? (i := 9) rfl)
theorem kk_X6_boundInto_9 : Cond.fieldLink RX6 59 "PaidBySigns$Hire" "rates" "I" ∈ wsX6_boundInto := pm_X6_boundInto_r1 _ (List.mem_of_getElem? (i := 10) rfl)
theorem kk_X6_leastOf_0 : Cond.fieldLink RX6 72 "PaidBySigns$Hire" "least" "I" ∈ wsX6_leastOf := by decide +kernel
theorem kk_X6_leastOf_1 : Cond.fieldLink RX6 59 "PaidBySigns$Hire" "rates" "I" ∈ wsX6_leastOf := by decide +kernel
theorem kk_X6_leastOf_2 : Cond.fieldLink RX6 79 "PaidBySigns$Hire" "mark" "[I" ∈ wsX6_leastOf := by decide +kernel
theorem kk_X6_leastOf_3 : Cond.methodLink RX6 82 Lib.MathLoose.min_long.x ∈ wsX6_leastOf := by decide +kernel
theorem kk_X6_leastOf_4 : Cond.static Lib.MathLoose.min_long.x ∈ wsX6_leastOf := by decide +kernel
theorem kk_X6_leastOf_5 : Cond.initialized "java/lang/Math" ∈ wsX6_leastOf := by decide +kernel
theorem kk_X6_leastOf_6 : Cond.code Lib.MathLoose.min_long.x Lib.MathLoose.min_long.code 4 (some .long) ∈ wsX6_leastOf := by decide +kernel
theorem kk_X6_boundInto_10 : Cond.fieldLink RX6 15 "PaidBySigns$Proofs" "press" "[I" ∈ wsX6_boundInto := pm_X6_boundInto_r1 _ (List.mem_of_getElem? (i := 4) rfl)
theorem iw_X6_changeElse_X6 : ∀ w ∈ wsX60, w ∈ wsX6_changeElse := by decide +kernel
theorem iw_X6_changeMix_X6 : ∀ w ∈ wsX60, w ∈ wsX6_changeMix := by decide +kernel
theorem iw_X6_boundInto_X6 : ∀ w ∈ wsX60, w ∈ wsX6_boundInto := pw_X6_boundInto_X6
theorem iw_X6_boundInto_X3 : ∀ w ∈ wsX30, w ∈ wsX6_boundInto := pw_X6_boundInto_X3
theorem iw_X6_pressedAt_X6 : ∀ w ∈ wsX60, w ∈ wsX6_pressedAt := by decide +kernel
theorem iw_X6_pressedAt_X3 : ∀ w ∈ wsX30, w ∈ wsX6_pressedAt := by decide +kernel
theorem iw_X6_leastOf_X3 : ∀ w ∈ wsX30, w ∈ wsX6_leastOf := by decide +kernel
