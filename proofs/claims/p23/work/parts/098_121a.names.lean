abbrev cX3_leftAt : ByteArray := prog_5_method_6_code
def yX3_leftAt : MethodName := ⟨RX3, "leftAt", "(I[I)I"⟩
abbrev cX3_doneAt : ByteArray := prog_5_method_7_code
def yX3_doneAt : MethodName := ⟨RX3, "doneAt", "([I)I"⟩
abbrev cX9_worth : ByteArray := prog_1_method_10_code
def yX9_worth : MethodName := ⟨RX9, "worth", "(I)I"⟩
abbrev cX9_leaves : ByteArray := prog_1_method_11_code
def yX9_leaves : MethodName := ⟨RX9, "leaves", "(I)I"⟩
abbrev cJ6_compare_7cf53 : ByteArray := prog_13_method_40_code
def yJ6_compare_7cf53 : MethodName := ⟨RJ6, "compare", "(II)I"⟩
def wsX3_leftAt : List Cond := .code yX3_leftAt cX3_leftAt 5 (some .int) :: ([.fieldLink RX3 32 "PaidBySigns$Hire" "signs" "I", .fieldLink RX3 20 "PaidBySigns$Hire" "chances" "[[I", .fieldLink RX3 9 "PaidBySigns$Hire" "brings" "[I"] ++ wsX30)
def wsJ6_compare_7cf53 : List Cond := .code yJ6_compare_7cf53 cJ6_compare_7cf53 2 (some .int) :: ([])
def wsX3_doneAt_r1 : List Cond := [Cond.fieldLink RX3 36 "PaidBySigns$Hire" "works" "I", Cond.methodLink RX3 67 yX3_worthAt, Cond.instanceMethod yX3_worthAt, Cond.selects RX3 yX3_worthAt yX3_worthAt, Cond.initialized RX3, Cond.code yX3_worthAt cX3_worthAt 5 (some .int), Cond.fieldLink RX3 39 "PaidBySigns$Hire" "whole" "I", Cond.fieldLink RX3 15 "PaidBySigns$Hire" "costs" "[I", Cond.fieldLink RX3 32 "PaidBySigns$Hire" "signs" "I", Cond.fieldLink RX3 20 "PaidBySigns$Hire" "chances" "[[I", Cond.methodLink RX3 63 yX3_feltOf, Cond.instanceMethod yX3_feltOf, Cond.selects RX3 yX3_feltOf yX3_feltOf, Cond.code yX3_feltOf cX3_feltOf 6 (some .int), Cond.fieldLink RX3 48 "PaidBySigns$Hire" "rates" "I", Cond.fieldLink RX3 26 "PaidBySigns$Hire" "mark" "[I", Cond.methodLink RX3 51 Lib.Math.min.name, Cond.static Lib.Math.min.name, Cond.initialized "java/lang/Math", Cond.code Lib.Math.min.name Lib.Math.min.code 2 (some .int), Cond.fieldLink RX3 23 "PaidBySigns$Hire" "rate" "[I", Cond.methodLink RX3 71 yJ6_compare_7cf53, Cond.static yJ6_compare_7cf53, Cond.initialized RJ6]
def wsX3_doneAt_r2 : List Cond := [Cond.code yJ6_compare_7cf53 cJ6_compare_7cf53 2 (some .int), Cond.methodLink RX3 76 yX3_leftAt, Cond.instanceMethod yX3_leftAt, Cond.selects RX3 yX3_leftAt yX3_leftAt, Cond.code yX3_leftAt cX3_leftAt 5 (some .int), Cond.fieldLink RX3 9 "PaidBySigns$Hire" "brings" "[I"]
def wsX3_doneAt : List Cond := .code yX3_doneAt cX3_doneAt 5 (some .int) :: ((wsX3_doneAt_r1 ++ wsX3_doneAt_r2) ++ wsX30)
def wsX9_worth_r1 : List Cond := [Cond.fieldLink RX9 19 "PaidBySigns" "hire" "LPaidBySigns$Hire;", Cond.fieldLink RX9 23 "PaidBySigns" "hand" "[I", Cond.constant RX9 158 (-2000000000), Cond.methodLink RX9 140 yX9_isWork, Cond.instanceMethod yX9_isWork, Cond.selects RX9 yX9_isWork yX9_isWork, Cond.initialized RX9, Cond.code yX9_isWork cX9_isWork 2 (some .boolean), Cond.fieldLink RX9 115 "PaidBySigns$Hire" "works" "I", Cond.methodLink RX9 154 yX3_worthAt, Cond.instanceMethod yX3_worthAt, Cond.selects RX3 yX3_worthAt yX3_worthAt, Cond.initialized RX3, Cond.code yX3_worthAt cX3_worthAt 5 (some .int), Cond.fieldLink RX3 39 "PaidBySigns$Hire" "whole" "I", Cond.fieldLink RX3 15 "PaidBySigns$Hire" "costs" "[I", Cond.fieldLink RX3 32 "PaidBySigns$Hire" "signs" "I", Cond.fieldLink RX3 20 "PaidBySigns$Hire" "chances" "[[I", Cond.methodLink RX3 63 yX3_feltOf, Cond.instanceMethod yX3_feltOf, Cond.selects RX3 yX3_feltOf yX3_feltOf, Cond.code yX3_feltOf cX3_feltOf 6 (some .int), Cond.fieldLink RX3 48 "PaidBySigns$Hire" "rates" "I", Cond.fieldLink RX3 26 "PaidBySigns$Hire" "mark" "[I"]
def wsX9_worth_r2 : List Cond := [Cond.methodLink RX3 51 Lib.Math.min.name, Cond.static Lib.Math.min.name, Cond.initialized "java/lang/Math", Cond.code Lib.Math.min.name Lib.Math.min.code 2 (some .int), Cond.fieldLink RX3 23 "PaidBySigns$Hire" "rate" "[I"]
def wsX9_worth : List Cond := .code yX9_worth cX9_worth 2 (some .int) :: ((wsX9_worth_r1 ++ wsX9_worth_r2) ++ wsX90 ++ wsX30)
def wsX9_leaves : List Cond := .code yX9_leaves cX9_leaves 2 (some .int) :: ([.fieldLink RX9 19 "PaidBySigns" "hire" "LPaidBySigns$Hire;", .fieldLink RX9 23 "PaidBySigns" "hand" "[I", .constant RX9 158 (-2000000000), .methodLink RX9 140 yX9_isWork, .instanceMethod yX9_isWork, .selects RX9 yX9_isWork yX9_isWork, .initialized RX9, .code yX9_isWork cX9_isWork 2 (some .boolean), .fieldLink RX9 115 "PaidBySigns$Hire" "works" "I", .methodLink RX9 159 yX3_leftAt, .instanceMethod yX3_leftAt, .selects RX3 yX3_leftAt yX3_leftAt, .initialized RX3, .code yX3_leftAt cX3_leftAt 5 (some .int), .fieldLink RX3 32 "PaidBySigns$Hire" "signs" "I", .fieldLink RX3 20 "PaidBySigns$Hire" "chances" "[[I", .fieldLink RX3 9 "PaidBySigns$Hire" "brings" "[I"] ++ wsX90 ++ wsX30)
theorem bX3_leftAt_0 : ((bys cX3_leftAt).drop 0).take 16 = [3, 62, 3, 54, 4, 21, 4, 42, 180, 0, 32, 162, 0, 34, 29, 42] := by decide +kernel
theorem dX3_leftAt_0 : decode cX3_leftAt 0 = .ok (.iconst 0, 1) := do_3 (byt_at bX3_leftAt_0 (j := 0) rfl)
theorem dX3_leftAt_1 : decode cX3_leftAt 1 = .ok (.istore_n 3, 1) := do_62 (byt_at bX3_leftAt_0 (j := 1) rfl)
theorem dX3_leftAt_2 : decode cX3_leftAt 2 = .ok (.iconst 0, 1) := do_3 (byt_at bX3_leftAt_0 (j := 2) rfl)
theorem dX3_leftAt_3 : decode cX3_leftAt 3 = .ok (.istore 4, 2) := do_54 4 (byt_at bX3_leftAt_0 (j := 3) rfl) (byt_at bX3_leftAt_0 (j := 4) rfl)
theorem dX3_leftAt_5 : decode cX3_leftAt 5 = .ok (.iload 4, 2) := do_21 4 (byt_at bX3_leftAt_0 (j := 5) rfl) (byt_at bX3_leftAt_0 (j := 6) rfl)
theorem dX3_leftAt_7 : decode cX3_leftAt 7 = .ok (.aload_n 0, 1) := do_42 (byt_at bX3_leftAt_0 (j := 7) rfl)
theorem dX3_leftAt_8 : decode cX3_leftAt 8 = .ok (.getfield 32, 3) := do_180 0 32 (byt_at bX3_leftAt_0 (j := 8) rfl) (byt_at bX3_leftAt_0 (j := 9) rfl) (byt_at bX3_leftAt_0 (j := 10) rfl)
theorem dX3_leftAt_11 : decode cX3_leftAt 11 = .ok (.if_icmp .ge 34, 3) := do_162 0 34 (byt_at bX3_leftAt_0 (j := 11) rfl) (byt_at bX3_leftAt_0 (j := 12) rfl) (byt_at bX3_leftAt_0 (j := 13) rfl) (by decide)
theorem dX3_leftAt_14 : decode cX3_leftAt 14 = .ok (.iload_n 3, 1) := do_29 (byt_at bX3_leftAt_0 (j := 14) rfl)
theorem dX3_leftAt_15 : decode cX3_leftAt 15 = .ok (.aload_n 0, 1) := do_42 (byt_at bX3_leftAt_0 (j := 15) rfl)
theorem bX3_leftAt_1 : ((bys cX3_leftAt).drop 16).take 16 = [180, 0, 20, 27, 50, 21, 4, 46, 42, 180, 0, 9, 21, 4, 46, 44] := by decide +kernel
theorem dX3_leftAt_16 : decode cX3_leftAt 16 = .ok (.getfield 20, 3) := do_180 0 20 (byt_at bX3_leftAt_1 (j := 0) rfl) (byt_at bX3_leftAt_1 (j := 1) rfl) (byt_at bX3_leftAt_1 (j := 2) rfl)
theorem dX3_leftAt_19 : decode cX3_leftAt 19 = .ok (.iload_n 1, 1) := do_27 (byt_at bX3_leftAt_1 (j := 3) rfl)
theorem dX3_leftAt_20 : decode cX3_leftAt 20 = .ok (.aaload, 1) := do_50 (byt_at bX3_leftAt_1 (j := 4) rfl)
theorem dX3_leftAt_21 : decode cX3_leftAt 21 = .ok (.iload 4, 2) := do_21 4 (byt_at bX3_leftAt_1 (j := 5) rfl) (byt_at bX3_leftAt_1 (j := 6) rfl)
theorem dX3_leftAt_23 : decode cX3_leftAt 23 = .ok (.iaload, 1) := do_46 (byt_at bX3_leftAt_1 (j := 7) rfl)
theorem dX3_leftAt_24 : decode cX3_leftAt 24 = .ok (.aload_n 0, 1) := do_42 (byt_at bX3_leftAt_1 (j := 8) rfl)
theorem dX3_leftAt_25 : decode cX3_leftAt 25 = .ok (.getfield 9, 3) := do_180 0 9 (byt_at bX3_leftAt_1 (j := 9) rfl) (byt_at bX3_leftAt_1 (j := 10) rfl) (byt_at bX3_leftAt_1 (j := 11) rfl)
theorem dX3_leftAt_28 : decode cX3_leftAt 28 = .ok (.iload 4, 2) := do_21 4 (byt_at bX3_leftAt_1 (j := 12) rfl) (byt_at bX3_leftAt_1 (j := 13) rfl)
theorem dX3_leftAt_30 : decode cX3_leftAt 30 = .ok (.iaload, 1) := do_46 (byt_at bX3_leftAt_1 (j := 14) rfl)
theorem dX3_leftAt_31 : decode cX3_leftAt 31 = .ok (.aload_n 2, 1) := do_44 (byt_at bX3_leftAt_1 (j := 15) rfl)
theorem bX3_leftAt_2 : ((bys cX3_leftAt).drop 32).take 16 = [21, 4, 46, 100, 104, 96, 62, 132, 4, 1, 167, 255, 219, 29, 172] := by decide +kernel
theorem dX3_leftAt_32 : decode cX3_leftAt 32 = .ok (.iload 4, 2) := do_21 4 (byt_at bX3_leftAt_2 (j := 0) rfl) (byt_at bX3_leftAt_2 (j := 1) rfl)
theorem dX3_leftAt_34 : decode cX3_leftAt 34 = .ok (.iaload, 1) := do_46 (byt_at bX3_leftAt_2 (j := 2) rfl)
theorem dX3_leftAt_35 : decode cX3_leftAt 35 = .ok (.isub, 1) := do_100 (byt_at bX3_leftAt_2 (j := 3) rfl)
theorem dX3_leftAt_36 : decode cX3_leftAt 36 = .ok (.imul, 1) := do_104 (byt_at bX3_leftAt_2 (j := 4) rfl)
theorem dX3_leftAt_37 : decode cX3_leftAt 37 = .ok (.iadd, 1) := do_96 (byt_at bX3_leftAt_2 (j := 5) rfl)
theorem dX3_leftAt_38 : decode cX3_leftAt 38 = .ok (.istore_n 3, 1) := do_62 (byt_at bX3_leftAt_2 (j := 6) rfl)
theorem dX3_leftAt_39 : decode cX3_leftAt 39 = .ok (.iinc 4 1, 3) := do_132 4 1 (byt_at bX3_leftAt_2 (j := 7) rfl) (byt_at bX3_leftAt_2 (j := 8) rfl) (byt_at bX3_leftAt_2 (j := 9) rfl) (by decide)
theorem dX3_leftAt_42 : decode cX3_leftAt 42 = .ok (.goto (-37), 3) := do_167 255 219 (byt_at bX3_leftAt_2 (j := 10) rfl) (byt_at bX3_leftAt_2 (j := 11) rfl) (byt_at bX3_leftAt_2 (j := 12) rfl) (by decide)
theorem dX3_leftAt_45 : decode cX3_leftAt 45 = .ok (.iload_n 3, 1) := do_29 (byt_at bX3_leftAt_2 (j := 13) rfl)
theorem dX3_leftAt_46 : decode cX3_leftAt 46 = .ok (.ireturn, 1) := do_172 (byt_at bX3_leftAt_2 (j := 14) rfl)
theorem pm_X3_doneAt_r1 : ∀ w ∈ wsX3_doneAt_r1, w ∈ wsX3_doneAt := fun _ h => List.mem_cons_of_mem _ (List.mem_append_left _ (List.mem_append_left _ h))
theorem pm_X3_doneAt_r2 : ∀ w ∈ wsX3_doneAt_r2, w ∈ wsX3_doneAt := fun _ h => List.mem_cons_of_mem _ (List.mem_append_left _ (List.mem_append_right _ (h)))
theorem pw_X3_doneAt_X3 : ∀ w ∈ wsX30, w ∈ wsX3_doneAt := fun _ h => List.mem_cons_of_mem _ (List.mem_append_right _ h)
set_option maxRecDepth 20000 in
theorem ggX3_doneAt_X3_worthAt : GoodIn wsX3_doneAt wsX3_worthAt := goodIn_sub (List.forall_mem_cons.mpr ⟨pm_X3_doneAt_r1 _ (List.mem_of_getElem? (i := 5) rfl), List.forall_mem_append.mpr ⟨List.forall_mem_cons.mpr ⟨pm_X3_doneAt_r1 _ (List.mem_of_getElem? (i := 6) rfl), List.forall_mem_cons.mpr ⟨pm_X3_doneAt_r1 _ (List.mem_of_getElem? (i := 7) rfl), List.forall_mem_cons.mpr ⟨pm_X3_doneAt_r1 _ (List.mem_of_getElem? (i := 8) rfl), List.forall_mem_cons.mpr ⟨pm_X3_doneAt_r1 _ (List.mem_of_getElem? (i := 9) rfl), List.forall_mem_cons.mpr ⟨pm_X3_doneAt_r1 _ (List.mem_of_getElem? (i := 10) rfl), List.forall_mem_cons.mpr ⟨pm_X3_doneAt_r1 _ (List.mem_of_getElem? (i := 11) rfl), List.forall_mem_cons.mpr ⟨pm_X3_doneAt_r1 _ (List.mem_of_getElem? (i := 12) rfl), List.forall_mem_cons.mpr ⟨pm_X3_doneAt_r1 _ (List.mem_of_getElem? (i := 4) rfl), List.forall_mem_cons.mpr ⟨pm_X3_doneAt_r1 _ (List.mem_of_getElem? (i := 13) rfl), List.forall_mem_cons.mpr ⟨pm_X3_doneAt_r1 _ (List.mem_of_getElem? (i := 14) rfl), List.forall_mem_cons.mpr ⟨pm_X3_doneAt_r1 _ (List.mem_of_getElem? (i := 15) rfl), List.forall_mem_cons.mpr ⟨pm_X3_doneAt_r1 _ (List.mem_of_getElem? (i := 16) rfl), List.forall_mem_cons.mpr ⟨pm_X3_doneAt_r1 _ (List.mem_of_getElem? (i := 17) rfl), List.forall_mem_cons.mpr ⟨pm_X3_doneAt_r1 _ (List.mem_of_getElem? (i := 18) rfl), List.forall_mem_cons.mpr ⟨pm_X3_doneAt_r1 _ (List.mem_of_getElem? (i := 19) rfl), List.forall_mem_cons.mpr ⟨pm_X3_doneAt_r1 _ (List.mem_of_getElem? (i := 20) rfl), fun _ h => absurd h List.not_mem_nil⟩⟩⟩⟩⟩⟩⟩⟩⟩⟩⟩⟩⟩⟩⟩⟩, pw_X3_doneAt_X3⟩⟩) (by decide +kernel)
set_option maxRecDepth 20000 in
theorem gX3_doneAt_X3_worthAt : GoodIn wsX3_doneAt (wsV RX3 67 RX3 yX3_worthAt wsX3_worthAt) := goodIn_app (goodIn_sub (List.forall_mem_cons.mpr ⟨pm_X3_doneAt_r1 _ (List.mem_of_getElem? (i := 1) rfl), List.forall_mem_cons.mpr ⟨pm_X3_doneAt_r1 _ (List.mem_of_getElem? (i := 2) rfl), List.forall_mem_cons.mpr ⟨pm_X3_doneAt_r1 _ (List.mem_of_getElem? (i := 3) rfl), List.forall_mem_cons.mpr ⟨pm_X3_doneAt_r1 _ (List.mem_of_getElem? (i := 4) rfl), fun _ h => absurd h List.not_mem_nil⟩⟩⟩⟩) (by decide +kernel)) ggX3_doneAt_X3_worthAt
set_option maxRecDepth 20000 in
theorem ggX3_doneAt_J6_compare_7cf53 : GoodIn wsX3_doneAt wsJ6_compare_7cf53 := goodIn_sub (List.forall_mem_cons.mpr ⟨pm_X3_doneAt_r2 _ (List.mem_of_getElem? (i := 0) rfl), fun _ h => absurd h List.not_mem_nil⟩) (by decide +kernel)
set_option maxRecDepth 20000 in
theorem gX3_doneAt_J6_compare_7cf53 : GoodIn wsX3_doneAt (va_wsS RX3 71 yJ6_compare_7cf53 wsJ6_compare_7cf53) := goodIn_app (goodIn_sub (List.forall_mem_cons.mpr ⟨pm_X3_doneAt_r1 _ (List.mem_of_getElem? (i := 21) rfl), List.forall_mem_cons.mpr ⟨pm_X3_doneAt_r1 _ (List.mem_of_getElem? (i := 22) rfl), List.forall_mem_cons.mpr ⟨pm_X3_doneAt_r1 _ (List.mem_of_getElem? (i := 23) rfl), fun _ h => absurd h List.not_mem_nil⟩⟩⟩) (by decide +kernel)) ggX3_doneAt_J6_compare_7cf53
set_option maxRecDepth 20000 in
theorem ggX3_doneAt_X3_leftAt : GoodIn wsX3_doneAt wsX3_leftAt := goodIn_sub (List.forall_mem_cons.mpr ⟨pm_X3_doneAt_r2 _ (List.mem_of_getElem? (i := 4) rfl), List.forall_mem_append.mpr ⟨List.forall_mem_cons.mpr ⟨pm_X3_doneAt_r1 _ (List.mem_of_getElem? (i := 8) rfl), List.forall_mem_cons.mpr ⟨pm_X3_doneAt_r1 _ (List.mem_of_getElem? (i := 9) rfl), List.forall_mem_cons.mpr ⟨pm_X3_doneAt_r2 _ (List.mem_of_getElem? (i := 5) rfl), fun _ h => absurd h List.not_mem_nil⟩⟩⟩, pw_X3_doneAt_X3⟩⟩) (by decide +kernel)
set_option maxRecDepth 20000 in
theorem gX3_doneAt_X3_leftAt : GoodIn wsX3_doneAt (wsV RX3 76 RX3 yX3_leftAt wsX3_leftAt) := goodIn_app (goodIn_sub (List.forall_mem_cons.mpr ⟨pm_X3_doneAt_r2 _ (List.mem_of_getElem? (i := 1) rfl), List.forall_mem_cons.mpr ⟨pm_X3_doneAt_r2 _ (List.mem_of_getElem? (i := 2) rfl), List.forall_mem_cons.mpr ⟨pm_X3_doneAt_r2 _ (List.mem_of_getElem? (i := 3) rfl), List.forall_mem_cons.mpr ⟨pm_X3_doneAt_r1 _ (List.mem_of_getElem? (i := 4) rfl), fun _ h => absurd h List.not_mem_nil⟩⟩⟩⟩) (by decide +kernel)) ggX3_doneAt_X3_leftAt
theorem bX3_doneAt_0 : ((bys cX3_doneAt).drop 0).take 16 = [3, 61, 4, 62, 29, 42, 180, 0, 36, 162, 0, 53, 42, 29, 43, 182] := by decide +kernel
theorem dX3_doneAt_0 : decode cX3_doneAt 0 = .ok (.iconst 0, 1) := do_3 (byt_at bX3_doneAt_0 (j := 0) rfl)
theorem dX3_doneAt_1 : decode cX3_doneAt 1 = .ok (.istore_n 2, 1) := do_61 (byt_at bX3_doneAt_0 (j := 1) rfl)
theorem dX3_doneAt_2 : decode cX3_doneAt 2 = .ok (.iconst 1, 1) := do_4 (byt_at bX3_doneAt_0 (j := 2) rfl)
theorem dX3_doneAt_3 : decode cX3_doneAt 3 = .ok (.istore_n 3, 1) := do_62 (byt_at bX3_doneAt_0 (j := 3) rfl)
theorem dX3_doneAt_4 : decode cX3_doneAt 4 = .ok (.iload_n 3, 1) := do_29 (byt_at bX3_doneAt_0 (j := 4) rfl)
theorem dX3_doneAt_5 : decode cX3_doneAt 5 = .ok (.aload_n 0, 1) := do_42 (byt_at bX3_doneAt_0 (j := 5) rfl)
theorem dX3_doneAt_6 : decode cX3_doneAt 6 = .ok (.getfield 36, 3) := do_180 0 36 (byt_at bX3_doneAt_0 (j := 6) rfl) (byt_at bX3_doneAt_0 (j := 7) rfl) (byt_at bX3_doneAt_0 (j := 8) rfl)
theorem dX3_doneAt_9 : decode cX3_doneAt 9 = .ok (.if_icmp .ge 53, 3) := do_162 0 53 (byt_at bX3_doneAt_0 (j := 9) rfl) (byt_at bX3_doneAt_0 (j := 10) rfl) (byt_at bX3_doneAt_0 (j := 11) rfl) (by decide)
theorem dX3_doneAt_12 : decode cX3_doneAt 12 = .ok (.aload_n 0, 1) := do_42 (byt_at bX3_doneAt_0 (j := 12) rfl)
theorem dX3_doneAt_13 : decode cX3_doneAt 13 = .ok (.iload_n 3, 1) := do_29 (byt_at bX3_doneAt_0 (j := 13) rfl)
theorem dX3_doneAt_14 : decode cX3_doneAt 14 = .ok (.aload_n 1, 1) := do_43 (byt_at bX3_doneAt_0 (j := 14) rfl)
theorem bX3_doneAt_1 : ((bys cX3_doneAt).drop 16).take 16 = [0, 67, 42, 28, 43, 182, 0, 67, 184, 0, 71, 54, 4, 21, 4, 157] := by decide +kernel
theorem dX3_doneAt_15 : decode cX3_doneAt 15 = .ok (.invokevirtual 67, 3) := do_182 0 67 (byt_at bX3_doneAt_0 (j := 15) rfl) (byt_at bX3_doneAt_1 (j := 0) rfl) (byt_at bX3_doneAt_1 (j := 1) rfl)
theorem dX3_doneAt_18 : decode cX3_doneAt 18 = .ok (.aload_n 0, 1) := do_42 (byt_at bX3_doneAt_1 (j := 2) rfl)
theorem dX3_doneAt_19 : decode cX3_doneAt 19 = .ok (.iload_n 2, 1) := do_28 (byt_at bX3_doneAt_1 (j := 3) rfl)
theorem dX3_doneAt_20 : decode cX3_doneAt 20 = .ok (.aload_n 1, 1) := do_43 (byt_at bX3_doneAt_1 (j := 4) rfl)
theorem dX3_doneAt_21 : decode cX3_doneAt 21 = .ok (.invokevirtual 67, 3) := do_182 0 67 (byt_at bX3_doneAt_1 (j := 5) rfl) (byt_at bX3_doneAt_1 (j := 6) rfl) (byt_at bX3_doneAt_1 (j := 7) rfl)
theorem dX3_doneAt_24 : decode cX3_doneAt 24 = .ok (.invokestatic 71, 3) := do_184 0 71 (byt_at bX3_doneAt_1 (j := 8) rfl) (byt_at bX3_doneAt_1 (j := 9) rfl) (byt_at bX3_doneAt_1 (j := 10) rfl)
theorem dX3_doneAt_27 : decode cX3_doneAt 27 = .ok (.istore 4, 2) := do_54 4 (byt_at bX3_doneAt_1 (j := 11) rfl) (byt_at bX3_doneAt_1 (j := 12) rfl)
theorem dX3_doneAt_29 : decode cX3_doneAt 29 = .ok (.iload 4, 2) := do_21 4 (byt_at bX3_doneAt_1 (j := 13) rfl) (byt_at bX3_doneAt_1 (j := 14) rfl)
theorem bX3_doneAt_2 : ((bys cX3_doneAt).drop 32).take 16 = [0, 23, 21, 4, 154, 0, 20, 42, 29, 43, 182, 0, 76, 42, 28, 43] := by decide +kernel
theorem dX3_doneAt_31 : decode cX3_doneAt 31 = .ok (.ifCond .gt 23, 3) := do_157 0 23 (byt_at bX3_doneAt_1 (j := 15) rfl) (byt_at bX3_doneAt_2 (j := 0) rfl) (byt_at bX3_doneAt_2 (j := 1) rfl) (by decide)
theorem dX3_doneAt_34 : decode cX3_doneAt 34 = .ok (.iload 4, 2) := do_21 4 (byt_at bX3_doneAt_2 (j := 2) rfl) (byt_at bX3_doneAt_2 (j := 3) rfl)
theorem dX3_doneAt_36 : decode cX3_doneAt 36 = .ok (.ifCond .ne 20, 3) := do_154 0 20 (byt_at bX3_doneAt_2 (j := 4) rfl) (byt_at bX3_doneAt_2 (j := 5) rfl) (byt_at bX3_doneAt_2 (j := 6) rfl) (by decide)
theorem dX3_doneAt_39 : decode cX3_doneAt 39 = .ok (.aload_n 0, 1) := do_42 (byt_at bX3_doneAt_2 (j := 7) rfl)
theorem dX3_doneAt_40 : decode cX3_doneAt 40 = .ok (.iload_n 3, 1) := do_29 (byt_at bX3_doneAt_2 (j := 8) rfl)
theorem dX3_doneAt_41 : decode cX3_doneAt 41 = .ok (.aload_n 1, 1) := do_43 (byt_at bX3_doneAt_2 (j := 9) rfl)
theorem dX3_doneAt_42 : decode cX3_doneAt 42 = .ok (.invokevirtual 76, 3) := do_182 0 76 (byt_at bX3_doneAt_2 (j := 10) rfl) (byt_at bX3_doneAt_2 (j := 11) rfl) (byt_at bX3_doneAt_2 (j := 12) rfl)
theorem dX3_doneAt_45 : decode cX3_doneAt 45 = .ok (.aload_n 0, 1) := do_42 (byt_at bX3_doneAt_2 (j := 13) rfl)
theorem dX3_doneAt_46 : decode cX3_doneAt 46 = .ok (.iload_n 2, 1) := do_28 (byt_at bX3_doneAt_2 (j := 14) rfl)
theorem dX3_doneAt_47 : decode cX3_doneAt 47 = .ok (.aload_n 1, 1) := do_43 (byt_at bX3_doneAt_2 (j := 15) rfl)
theorem bX3_doneAt_3 : ((bys cX3_doneAt).drop 48).take 16 = [182, 0, 76, 164, 0, 5, 29, 61, 132, 3, 1, 167, 255, 201, 28, 172] := by decide +kernel
theorem dX3_doneAt_48 : decode cX3_doneAt 48 = .ok (.invokevirtual 76, 3) := do_182 0 76 (byt_at bX3_doneAt_3 (j := 0) rfl) (byt_at bX3_doneAt_3 (j := 1) rfl) (byt_at bX3_doneAt_3 (j := 2) rfl)
theorem dX3_doneAt_51 : decode cX3_doneAt 51 = .ok (.if_icmp .le 5, 3) := do_164 0 5 (byt_at bX3_doneAt_3 (j := 3) rfl) (byt_at bX3_doneAt_3 (j := 4) rfl) (byt_at bX3_doneAt_3 (j := 5) rfl) (by decide)
theorem dX3_doneAt_54 : decode cX3_doneAt 54 = .ok (.iload_n 3, 1) := do_29 (byt_at bX3_doneAt_3 (j := 6) rfl)
theorem dX3_doneAt_55 : decode cX3_doneAt 55 = .ok (.istore_n 2, 1) := do_61 (byt_at bX3_doneAt_3 (j := 7) rfl)
theorem dX3_doneAt_56 : decode cX3_doneAt 56 = .ok (.iinc 3 1, 3) := do_132 3 1 (byt_at bX3_doneAt_3 (j := 8) rfl) (byt_at bX3_doneAt_3 (j := 9) rfl) (byt_at bX3_doneAt_3 (j := 10) rfl) (by decide)
theorem dX3_doneAt_59 : decode cX3_doneAt 59 = .ok (.goto (-55), 3) := do_167 255 201 (byt_at bX3_doneAt_3 (j := 11) rfl) (byt_at bX3_doneAt_3 (j := 12) rfl) (byt_at bX3_doneAt_3 (j := 13) rfl) (by decide)
theorem dX3_doneAt_62 : decode cX3_doneAt 62 = .ok (.iload_n 2, 1) := do_28 (byt_at bX3_doneAt_3 (j := 14) rfl)
theorem dX3_doneAt_63 : decode cX3_doneAt 63 = .ok (.ireturn, 1) := do_172 (byt_at bX3_doneAt_3 (j := 15) rfl)
theorem pm_X9_worth_r1 : ∀ w ∈ wsX9_worth_r1, w ∈ wsX9_worth := fun _ h => List.mem_cons_of_mem _ (List.mem_append_left _ (List.mem_append_left _ (List.mem_append_left _ h)))
theorem pm_X9_worth_r2 : ∀ w ∈ wsX9_worth_r2, w ∈ wsX9_worth := fun _ h => List.mem_cons_of_mem _ (List.mem_append_left _ (List.mem_append_left _ (List.mem_append_right _ (h))))
theorem pw_X9_worth_X9 : ∀ w ∈ wsX90, w ∈ wsX9_worth := fun _ h => List.mem_cons_of_mem _ (List.mem_append_left _ (List.mem_append_right _ h))
theorem pw_X9_worth_X3 : ∀ w ∈ wsX30, w ∈ wsX9_worth := fun _ h => List.mem_cons_of_mem _ (List.mem_append_right _ h)
set_option maxRecDepth 20000 in
theorem ggX9_worth_X9_isWork : GoodIn wsX9_worth wsX9_isWork := goodIn_sub (List.forall_mem_cons.mpr ⟨pm_X9_worth_r1 _ (List.mem_of_getElem? (i := 7) rfl), List.forall_mem_append.mpr ⟨List.forall_mem_append.mpr ⟨List.forall_mem_cons.mpr ⟨pm_X9_worth_r1 _ (List.mem_of_getElem? (i := 0) rfl), List.forall_mem_cons.mpr ⟨pm_X9_worth_r1 _ (List.mem_of_getElem? (i := 8) rfl), fun _ h => absurd h List.not_mem_nil⟩⟩, pw_X9_worth_X9⟩, pw_X9_worth_X3⟩⟩) (by decide +kernel)
set_option maxRecDepth 20000 in
theorem gX9_worth_X9_isWork : GoodIn wsX9_worth (wsV RX9 140 RX9 yX9_isWork wsX9_isWork) := goodIn_app (goodIn_sub (List.forall_mem_cons.mpr ⟨pm_X9_worth_r1 _ (List.mem_of_getElem? (i := 3) rfl), List.forall_mem_cons.mpr ⟨pm_X9_worth_r1 _ (List.mem_of_getElem? (i := 4) rfl), List.forall_mem_cons.mpr ⟨pm_X9_worth_r1 _ (List.mem_of_getElem? (i := 5) rfl), List.forall_mem_cons.mpr ⟨pm_X9_worth_r1 _ (List.mem_of_getElem? (i := 6) rfl), fun _ h => absurd h List.not_mem_nil⟩⟩⟩⟩) (by decide +kernel)) ggX9_worth_X9_isWork
set_option maxRecDepth 20000 in
theorem ggX9_worth_X3_worthAt : GoodIn wsX9_worth wsX3_worthAt := goodIn_sub (List.forall_mem_cons.mpr ⟨pm_X9_worth_r1 _ (List.mem_of_getElem? (i := 13) rfl), List.forall_mem_append.mpr ⟨List.forall_mem_cons.mpr ⟨pm_X9_worth_r1 _ (List.mem_of_getElem? (i := 14) rfl), List.forall_mem_cons.mpr ⟨pm_X9_worth_r1 _ (List.mem_of_getElem? (i := 15) rfl), List.forall_mem_cons.mpr ⟨pm_X9_worth_r1 _ (List.mem_of_getElem? (i := 16) rfl), List.forall_mem_cons.mpr ⟨pm_X9_worth_r1 _ (List.mem_of_getElem? (i := 17) rfl), List.forall_mem_cons.mpr ⟨pm_X9_worth_r1 _ (List.mem_of_getElem? (i := 18) rfl), List.forall_mem_cons.mpr ⟨pm_X9_worth_r1 _ (List.mem_of_getElem? (i := 19) rfl), List.forall_mem_cons.mpr ⟨pm_X9_worth_r1 _ (List.mem_of_getElem? (i := 20) rfl), List.forall_mem_cons.mpr ⟨pm_X9_worth_r1 _ (List.mem_of_getElem? (i := 12) rfl), List.forall_mem_cons.mpr ⟨pm_X9_worth_r1 _ (List.mem_of_getElem? (i := 21) rfl), List.forall_mem_cons.mpr ⟨pm_X9_worth_r1 _ (List.mem_of_getElem? (i := 22) rfl), List.forall_mem_cons.mpr ⟨pm_X9_worth_r1 _ (List.mem_of_getElem? (i := 23) rfl), List.forall_mem_cons.mpr ⟨pm_X9_worth_r2 _ (List.mem_of_getElem? (i := 0) rfl), List.forall_mem_cons.mpr ⟨pm_X9_worth_r2 _ (List.mem_of_getElem? (i := 1) rfl), List.forall_mem_cons.mpr ⟨pm_X9_worth_r2 _ (List.mem_of_getElem? (i := 2) rfl), List.forall_mem_cons.mpr ⟨pm_X9_worth_r2 _ (List.mem_of_getElem? (i := 3) rfl), List.forall_mem_cons.mpr ⟨pm_X9_worth_r2 _ (List.mem_of_getElem? (i := 4) rfl), fun _ h => absurd h List.not_mem_nil⟩⟩⟩⟩⟩⟩⟩⟩⟩⟩⟩⟩⟩⟩⟩⟩, pw_X9_worth_X3⟩⟩) (by decide +kernel)
set_option maxRecDepth 20000 in
theorem gX9_worth_X3_worthAt : GoodIn wsX9_worth (wsV RX9 154 RX3 yX3_worthAt wsX3_worthAt) := goodIn_app (goodIn_sub (List.forall_mem_cons.mpr ⟨pm_X9_worth_r1 _ (List.mem_of_getElem? (i := 9) rfl), List.forall_mem_cons.mpr ⟨pm_X9_worth_r1 _ (List.mem_of_getElem? (i := 10) rfl), List.forall_mem_cons.mpr ⟨pm_X9_worth_r1 _ (List.mem_of_getElem? (i := 11) rfl), List.forall_mem_cons.mpr ⟨pm_X9_worth_r1 _ (List.mem_of_getElem? (i := 12) rfl), fun _ h => absurd h List.not_mem_nil⟩⟩⟩⟩) (by decide +kernel)) ggX9_worth_X3_worthAt
theorem bX9_worth_0 : ((bys cX9_worth).drop 0).take 16 = [42, 27, 182, 0, 140, 153, 0, 18, 42, 180, 0, 19, 27, 42, 180, 0] := by decide +kernel
theorem dX9_worth_0 : decode cX9_worth 0 = .ok (.aload_n 0, 1) := do_42 (byt_at bX9_worth_0 (j := 0) rfl)
theorem dX9_worth_1 : decode cX9_worth 1 = .ok (.iload_n 1, 1) := do_27 (byt_at bX9_worth_0 (j := 1) rfl)
theorem dX9_worth_2 : decode cX9_worth 2 = .ok (.invokevirtual 140, 3) := do_182 0 140 (byt_at bX9_worth_0 (j := 2) rfl) (byt_at bX9_worth_0 (j := 3) rfl) (byt_at bX9_worth_0 (j := 4) rfl)
theorem dX9_worth_5 : decode cX9_worth 5 = .ok (.ifCond .eq 18, 3) := do_153 0 18 (byt_at bX9_worth_0 (j := 5) rfl) (byt_at bX9_worth_0 (j := 6) rfl) (byt_at bX9_worth_0 (j := 7) rfl) (by decide)
theorem dX9_worth_8 : decode cX9_worth 8 = .ok (.aload_n 0, 1) := do_42 (byt_at bX9_worth_0 (j := 8) rfl)
theorem dX9_worth_9 : decode cX9_worth 9 = .ok (.getfield 19, 3) := do_180 0 19 (byt_at bX9_worth_0 (j := 9) rfl) (byt_at bX9_worth_0 (j := 10) rfl) (byt_at bX9_worth_0 (j := 11) rfl)
theorem dX9_worth_12 : decode cX9_worth 12 = .ok (.iload_n 1, 1) := do_27 (byt_at bX9_worth_0 (j := 12) rfl)
theorem dX9_worth_13 : decode cX9_worth 13 = .ok (.aload_n 0, 1) := do_42 (byt_at bX9_worth_0 (j := 13) rfl)
theorem bX9_worth_1 : ((bys cX9_worth).drop 16).take 16 = [23, 182, 0, 154, 167, 0, 5, 18, 158, 172] := by decide +kernel
theorem dX9_worth_14 : decode cX9_worth 14 = .ok (.getfield 23, 3) := do_180 0 23 (byt_at bX9_worth_0 (j := 14) rfl) (byt_at bX9_worth_0 (j := 15) rfl) (byt_at bX9_worth_1 (j := 0) rfl)
theorem dX9_worth_17 : decode cX9_worth 17 = .ok (.invokevirtual 154, 3) := do_182 0 154 (byt_at bX9_worth_1 (j := 1) rfl) (byt_at bX9_worth_1 (j := 2) rfl) (byt_at bX9_worth_1 (j := 3) rfl)
theorem dX9_worth_20 : decode cX9_worth 20 = .ok (.goto 5, 3) := do_167 0 5 (byt_at bX9_worth_1 (j := 4) rfl) (byt_at bX9_worth_1 (j := 5) rfl) (byt_at bX9_worth_1 (j := 6) rfl) (by decide)
theorem dX9_worth_23 : decode cX9_worth 23 = .ok (.ldc 158, 2) := do_18 158 (byt_at bX9_worth_1 (j := 7) rfl) (byt_at bX9_worth_1 (j := 8) rfl)
theorem dX9_worth_25 : decode cX9_worth 25 = .ok (.ireturn, 1) := do_172 (byt_at bX9_worth_1 (j := 9) rfl)
set_option maxRecDepth 20000 in
theorem ggX9_leaves_X9_isWork : GoodIn wsX9_leaves wsX9_isWork := goodIn_sub (List.forall_mem_cons.mpr ⟨List.mem_cons_of_mem _ (List.mem_append_left _ (List.mem_append_left _ (List.mem_of_getElem? (i := 7) rfl))), List.forall_mem_append.mpr ⟨List.forall_mem_append.mpr ⟨List.forall_mem_cons.mpr ⟨List.mem_cons_of_mem _ (List.mem_append_left _ (List.mem_append_left _ (List.mem_of_getElem? (i := 0) rfl))), List.forall_mem_cons.mpr ⟨List.mem_cons_of_mem _ (List.mem_append_left _ (List.mem_append_left _ (List.mem_of_getElem? (i := 8) rfl))), fun _ h => absurd h List.not_mem_nil⟩⟩, fun _ h => List.mem_cons_of_mem _ (List.mem_append_left _ (List.mem_append_right _ h))⟩, fun _ h => List.mem_cons_of_mem _ (List.mem_append_right _ h)⟩⟩) (by decide +kernel)
set_option maxRecDepth 20000 in
theorem gX9_leaves_X9_isWork : GoodIn wsX9_leaves (wsV RX9 140 RX9 yX9_isWork wsX9_isWork) := goodIn_app (goodIn_sub (List.forall_mem_cons.mpr ⟨List.mem_cons_of_mem _ (List.mem_append_left _ (List.mem_append_left _ (List.mem_of_getElem? (i := 3) rfl))), List.forall_mem_cons.mpr ⟨List.mem_cons_of_mem _ (List.mem_append_left _ (List.mem_append_left _ (List.mem_of_getElem? (i := 4) rfl))), List.forall_mem_cons.mpr ⟨List.mem_cons_of_mem _ (List.mem_append_left _ (List.mem_append_left _ (List.mem_of_getElem? (i := 5) rfl))), List.forall_mem_cons.mpr ⟨List.mem_cons_of_mem _ (List.mem_append_left _ (List.mem_append_left _ (List.mem_of_getElem? (i := 6) rfl))), fun _ h => absurd h List.not_mem_nil⟩⟩⟩⟩) (by decide +kernel)) ggX9_leaves_X9_isWork
set_option maxRecDepth 20000 in
theorem ggX9_leaves_X3_leftAt : GoodIn wsX9_leaves wsX3_leftAt := goodIn_sub (List.forall_mem_cons.mpr ⟨List.mem_cons_of_mem _ (List.mem_append_left _ (List.mem_append_left _ (List.mem_of_getElem? (i := 13) rfl))), List.forall_mem_append.mpr ⟨List.forall_mem_cons.mpr ⟨List.mem_cons_of_mem _ (List.mem_append_left _ (List.mem_append_left _ (List.mem_of_getElem? (i := 14) rfl))), List.forall_mem_cons.mpr ⟨List.mem_cons_of_mem _ (List.mem_append_left _ (List.mem_append_left _ (List.mem_of_getElem? (i := 15) rfl))), List.forall_mem_cons.mpr ⟨List.mem_cons_of_mem _ (List.mem_append_left _ (List.mem_append_left _ (List.mem_of_getElem? (i := 16) rfl))), fun _ h => absurd h List.not_mem_nil⟩⟩⟩, fun _ h => List.mem_cons_of_mem _ (List.mem_append_right _ h)⟩⟩) (by decide +kernel)
set_option maxRecDepth 20000 in
theorem gX9_leaves_X3_leftAt : GoodIn wsX9_leaves (wsV RX9 159 RX3 yX3_leftAt wsX3_leftAt) := goodIn_app (goodIn_sub (List.forall_mem_cons.mpr ⟨List.mem_cons_of_mem _ (List.mem_append_left _ (List.mem_append_left _ (List.mem_of_getElem? (i := 9) rfl))), List.forall_mem_cons.mpr ⟨List.mem_cons_of_mem _ (List.mem_append_left _ (List.mem_append_left _ (List.mem_of_getElem? (i := 10) rfl))), List.forall_mem_cons.mpr ⟨List.mem_cons_of_mem _ (List.mem_append_left _ (List.mem_append_left _ (List.mem_of_getElem? (i := 11) rfl))), List.forall_mem_cons.mpr ⟨List.mem_cons_of_mem _ (List.mem_append_left _ (List.mem_append_left _ (List.mem_of_getElem? (i := 12) rfl))), fun _ h => absurd h List.not_mem_nil⟩⟩⟩⟩) (by decide +kernel)) ggX9_leaves_X3_leftAt
theorem bX9_leaves_0 : ((bys cX9_leaves).drop 0).take 16 = [42, 27, 182, 0, 140, 153, 0, 18, 42, 180, 0, 19, 27, 42, 180, 0] := by decide +kernel
theorem dX9_leaves_0 : decode cX9_leaves 0 = .ok (.aload_n 0, 1) := do_42 (byt_at bX9_leaves_0 (j := 0) rfl)
theorem dX9_leaves_1 : decode cX9_leaves 1 = .ok (.iload_n 1, 1) := do_27 (byt_at bX9_leaves_0 (j := 1) rfl)
theorem dX9_leaves_2 : decode cX9_leaves 2 = .ok (.invokevirtual 140, 3) := do_182 0 140 (byt_at bX9_leaves_0 (j := 2) rfl) (byt_at bX9_leaves_0 (j := 3) rfl) (byt_at bX9_leaves_0 (j := 4) rfl)
theorem dX9_leaves_5 : decode cX9_leaves 5 = .ok (.ifCond .eq 18, 3) := do_153 0 18 (byt_at bX9_leaves_0 (j := 5) rfl) (byt_at bX9_leaves_0 (j := 6) rfl) (byt_at bX9_leaves_0 (j := 7) rfl) (by decide)
theorem dX9_leaves_8 : decode cX9_leaves 8 = .ok (.aload_n 0, 1) := do_42 (byt_at bX9_leaves_0 (j := 8) rfl)
theorem dX9_leaves_9 : decode cX9_leaves 9 = .ok (.getfield 19, 3) := do_180 0 19 (byt_at bX9_leaves_0 (j := 9) rfl) (byt_at bX9_leaves_0 (j := 10) rfl) (byt_at bX9_leaves_0 (j := 11) rfl)
theorem dX9_leaves_12 : decode cX9_leaves 12 = .ok (.iload_n 1, 1) := do_27 (byt_at bX9_leaves_0 (j := 12) rfl)
theorem dX9_leaves_13 : decode cX9_leaves 13 = .ok (.aload_n 0, 1) := do_42 (byt_at bX9_leaves_0 (j := 13) rfl)
theorem bX9_leaves_1 : ((bys cX9_leaves).drop 16).take 16 = [23, 182, 0, 159, 167, 0, 5, 18, 158, 172] := by decide +kernel
theorem dX9_leaves_14 : decode cX9_leaves 14 = .ok (.getfield 23, 3) := do_180 0 23 (byt_at bX9_leaves_0 (j := 14) rfl) (byt_at bX9_leaves_0 (j := 15) rfl) (byt_at bX9_leaves_1 (j := 0) rfl)
theorem dX9_leaves_17 : decode cX9_leaves 17 = .ok (.invokevirtual 159, 3) := do_182 0 159 (byt_at bX9_leaves_1 (j := 1) rfl) (byt_at bX9_leaves_1 (j := 2) rfl) (byt_at bX9_leaves_1 (j := 3) rfl)
theorem dX9_leaves_20 : decode cX9_leaves 20 = .ok (.goto 5, 3) := do_167 0 5 (byt_at bX9_leaves_1 (j := 4) rfl) (byt_at bX9_leaves_1 (j := 5) rfl) (byt_at bX9_leaves_1 (j := 6) rfl) (by decide)
theorem dX9_leaves_23 : decode cX9_leaves 23 = .ok (.ldc 158, 2) := do_18 158 (byt_at bX9_leaves_1 (j := 7) rfl) (byt_at bX9_leaves_1 (j := 8) rfl)
theorem dX9_leaves_25 : decode cX9_leaves 25 = .ok (.ireturn, 1) := do_172 (byt_at bX9_leaves_1 (j := 9) rfl)
theorem bJ6_compare_7cf53_0 : ((bys cJ6_compare_7cf53).drop 0).take 16 = [26, 27, 162, 0, 7, 2, 167, 0, 13, 26, 27, 160, 0, 7, 3, 167] := by decide +kernel
theorem dJ6_compare_7cf53_0 : decode cJ6_compare_7cf53 0 = .ok (.iload_n 0, 1) := do_26 (byt_at bJ6_compare_7cf53_0 (j := 0) rfl)
theorem dJ6_compare_7cf53_1 : decode cJ6_compare_7cf53 1 = .ok (.iload_n 1, 1) := do_27 (byt_at bJ6_compare_7cf53_0 (j := 1) rfl)
theorem dJ6_compare_7cf53_2 : decode cJ6_compare_7cf53 2 = .ok (.if_icmp .ge 7, 3) := do_162 0 7 (byt_at bJ6_compare_7cf53_0 (j := 2) rfl) (byt_at bJ6_compare_7cf53_0 (j := 3) rfl) (byt_at bJ6_compare_7cf53_0 (j := 4) rfl) (by decide)
theorem dJ6_compare_7cf53_5 : decode cJ6_compare_7cf53 5 = .ok (.iconst (-1), 1) := do_2 (byt_at bJ6_compare_7cf53_0 (j := 5) rfl)
theorem dJ6_compare_7cf53_6 : decode cJ6_compare_7cf53 6 = .ok (.goto 13, 3) := do_167 0 13 (byt_at bJ6_compare_7cf53_0 (j := 6) rfl) (byt_at bJ6_compare_7cf53_0 (j := 7) rfl) (byt_at bJ6_compare_7cf53_0 (j := 8) rfl) (by decide)
theorem dJ6_compare_7cf53_9 : decode cJ6_compare_7cf53 9 = .ok (.iload_n 0, 1) := do_26 (byt_at bJ6_compare_7cf53_0 (j := 9) rfl)
theorem dJ6_compare_7cf53_10 : decode cJ6_compare_7cf53 10 = .ok (.iload_n 1, 1) := do_27 (byt_at bJ6_compare_7cf53_0 (j := 10) rfl)
theorem dJ6_compare_7cf53_11 : decode cJ6_compare_7cf53 11 = .ok (.if_icmp .ne 7, 3) := do_160 0 7 (byt_at bJ6_compare_7cf53_0 (j := 11) rfl) (byt_at bJ6_compare_7cf53_0 (j := 12) rfl) (byt_at bJ6_compare_7cf53_0 (j := 13) rfl) (by decide)
theorem dJ6_compare_7cf53_14 : decode cJ6_compare_7cf53 14 = .ok (.iconst 0, 1) := do_3 (byt_at bJ6_compare_7cf53_0 (j := 14) rfl)
theorem bJ6_compare_7cf53_1 : ((bys cJ6_compare_7cf53).drop 16).take 16 = [0, 4, 4, 172] := by decide +kernel
theorem dJ6_compare_7cf53_15 : decode cJ6_compare_7cf53 15 = .ok (.goto 4, 3) := do_167 0 4 (byt_at bJ6_compare_7cf53_0 (j := 15) rfl) (byt_at bJ6_compare_7cf53_1 (j := 0) rfl) (byt_at bJ6_compare_7cf53_1 (j := 1) rfl) (by decide)
theorem dJ6_compare_7cf53_18 : decode cJ6_compare_7cf53 18 = .ok (.iconst 1, 1) := do_4 (byt_at bJ6_compare_7cf53_1 (j := 2) rfl)
theorem dJ6_compare_7cf53_19 : decode cJ6_compare_7cf53 19 = .ok (.ireturn, 1) := do_172 (byt_at bJ6_compare_7cf53_1 (j := 3) rfl)
theorem kk_X3_leftAt_0 : Cond.fieldLink RX3 32 "PaidBySigns$Hire" "signs" "I" ∈ wsX3_leftAt := List.mem_cons_of_mem _ (List.mem_append_left _ (List.mem_of_getElem? (i := 0) rfl))
theorem kk_X3_leftAt_1 : Cond.fieldLink RX3 20 "PaidBySigns$Hire" "chances" "[[I" ∈ wsX3_leftAt := List.mem_cons_of_mem _ (List.mem_append_left _ (List.mem_of_getElem? (i := 1) rfl))
theorem kk_X3_leftAt_2 : Cond.fieldLink RX3 9 "PaidBySigns$Hire" "brings" "[I" ∈ wsX3_leftAt := List.mem_cons_of_mem _ (List.mem_append_left _ (List.mem_of_getElem? (i := 2) rfl))
theorem kk_X3_doneAt_0 : Cond.fieldLink RX3 36 "PaidBySigns$Hire" "works" "I" ∈ wsX3_doneAt := pm_X3_doneAt_r1 _ (List.mem_of_getElem? (i := 0) rfl)
theorem kk_X9_worth_0 : Cond.constant RX9 158 (-2000000000) ∈ wsX9_worth := pm_X9_worth_r1 _ (List.mem_of_getElem? (i := 2) rfl)
theorem kk_X9_worth_1 : Cond.fieldLink RX9 19 "PaidBySigns" "hire" "LPaidBySigns$Hire;" ∈ wsX9_worth := pm_X9_worth_r1 _ (List.mem_of_getElem? (i := 0) rfl)
theorem kk_X9_worth_2 : Cond.fieldLink RX9 23 "PaidBySigns" "hand" "[I" ∈ wsX9_worth := pm_X9_worth_r1 _ (List.mem_of_getElem? (i := 1) rfl)
theorem kk_X9_leaves_0 : Cond.constant RX9 158 (-2000000000) ∈ wsX9_leaves := List.mem_cons_of_mem _ (List.mem_append_left _ (List.mem_append_left _ (List.mem_of_getElem? (i := 2) rfl)))
theorem kk_X9_leaves_1 : Cond.fieldLink RX9 19 "PaidBySigns" "hire" "LPaidBySigns$Hire;" ∈ wsX9_leaves := List.mem_cons_of_mem _ (List.mem_append_left _ (List.mem_append_left _ (List.mem_of_getElem? (i := 0) rfl)))
theorem kk_X9_leaves_2 : Cond.fieldLink RX9 23 "PaidBySigns" "hand" "[I" ∈ wsX9_leaves := List.mem_cons_of_mem _ (List.mem_append_left _ (List.mem_append_left _ (List.mem_of_getElem? (i := 1) rfl)))
theorem iw_X3_leftAt_X3 : ∀ w ∈ wsX30, w ∈ wsX3_leftAt := fun _ h => List.mem_cons_of_mem _ (List.mem_append_right _ h)
theorem iw_X3_doneAt_X3 : ∀ w ∈ wsX30, w ∈ wsX3_doneAt := pw_X3_doneAt_X3
theorem iw_X9_worth_X9 : ∀ w ∈ wsX90, w ∈ wsX9_worth := pw_X9_worth_X9
theorem iw_X9_leaves_X9 : ∀ w ∈ wsX90, w ∈ wsX9_leaves := fun _ h => List.mem_cons_of_mem _ (List.mem_append_left _ (List.mem_append_right _ h))
