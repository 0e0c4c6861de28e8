abbrev cX4_listColumns : ByteArray := prog_6_method_9_code
def yX4_listColumns : MethodName := ⟨RX4, "listColumns", "()V"⟩
abbrev cX4_fillGoals : ByteArray := prog_6_method_11_code
def yX4_fillGoals : MethodName := ⟨RX4, "fillGoals", "(I)V"⟩
abbrev cX4_partsOf : ByteArray := prog_6_method_12_code
def yX4_partsOf : MethodName := ⟨RX4, "partsOf", "(I)I"⟩
def tyX8 : Nat → FieldType := fun k => match k with
  | 0 => .array (.array .long)
  | 1 => .array .int
  | 2 => .array .int
  | 3 => .int
  | 4 => .int
  | 5 => .int
  | _ => .long
abbrev wsX80 : List Cond := u_ws RX8 TX8 7
theorem nmX8 : ∀ a, a < 7 → ∀ b, b < 7 → a ≠ b → (TX8 a).2.1 ≠ (TX8 b).2.1 := by decide +kernel
theorem tyX8_ok : ∀ k, k < 7 → parseFieldDescriptor (TX8 k).2.2.1 = some (tyX8 k) := by decide +kernel
abbrev cX8_start : ByteArray := prog_10_method_2_code
def yX8_start : MethodName := ⟨RX8, "start", "(III)V"⟩
abbrev cJ7_fill_d0a16 : ByteArray := prog_19_method_101_code
def yJ7_fill_d0a16 : MethodName := ⟨RJ7, "fill", "([JJ)V"⟩
def wsX4_listColumns : List Cond := .code yX4_listColumns cX4_listColumns 2 none :: ([.fieldLink RX4 36 "PaidBySigns$LeastCost" "columns" "I", .fieldLink RX4 40 "PaidBySigns$LeastCost" "rooms" "I", .fieldLink RX4 46 "PaidBySigns$LeastCost" "hire" "LPaidBySigns$Hire;", .fieldLink RX4 63 "PaidBySigns$Hire" "signs" "I", .fieldLink RX4 50 "PaidBySigns$LeastCost" "work" "I", .methodLink RX4 66 yX4_chanceOf, .instanceMethod yX4_chanceOf, .selects RX4 yX4_chanceOf yX4_chanceOf, .initialized RX4, .code yX4_chanceOf cX4_chanceOf 3 (some .int), .fieldLink RX4 56 "PaidBySigns$LeastCost" "joinedSign" "I", .fieldLink RX4 53 "PaidBySigns$LeastCost" "keptSign" "I", .fieldLink RX4 112 "PaidBySigns$Hire" "chances" "[[I", .methodLink RX4 116 yX4_listSteps, .instanceMethod yX4_listSteps, .selects RX4 yX4_listSteps yX4_listSteps, .code yX4_listSteps cX4_listSteps 5 none, .fieldLink RX4 79 "PaidBySigns$Hire" "least" "I", .fieldLink RX4 119 "PaidBySigns$Hire" "rates" "I", .fieldLink RX4 122 "PaidBySigns$Hire" "mark" "[I", .fieldLink RX4 26 "PaidBySigns$LeastCost" "columnSign" "[I", .fieldLink RX4 30 "PaidBySigns$LeastCost" "columnRate" "[I", .fieldLink RX4 125 "PaidBySigns$Hire" "rate" "[I", .fieldLink RX4 33 "PaidBySigns$LeastCost" "columnRoom" "[I"] ++ wsX40 ++ wsX30)
def wsJ7_fill_d0a16 : List Cond := .code yJ7_fill_d0a16 cJ7_fill_d0a16 5 none :: ([])
def wsX8_start : List Cond := .code yX8_start cX8_start 5 none :: ([.methodLink RX8 23 Lib.Math.min.name, .static Lib.Math.min.name, .initialized "java/lang/Math", .code Lib.Math.min.name Lib.Math.min.code 2 (some .int), .fieldLink RX8 29 "PaidBySigns$Table" "goals" "I", .fieldLink RX8 33 "PaidBySigns$Table" "lines" "I", .fieldLink RX8 36 "PaidBySigns$Table" "columns" "I", .fieldLink RX8 39 "PaidBySigns$Table" "base" "J", .fieldLink RX8 13 "PaidBySigns$Table" "entry" "[[J", .fieldLink RX8 16 "PaidBySigns$Table" "lineName" "[I", .fieldLink RX8 20 "PaidBySigns$Table" "columnName" "[I", .methodLink RX8 43 yJ7_fill_d0a16, .static yJ7_fill_d0a16, .initialized RJ7, .code yJ7_fill_d0a16 cJ7_fill_d0a16 5 none] ++ wsX80)
def wsX4_partsOf : List Cond := .code yX4_partsOf cX4_partsOf 2 (some .int) :: ([.fieldLink RX4 30 "PaidBySigns$LeastCost" "columnRate" "[I"] ++ wsX40)
def wsX4_fillGoals : List Cond := .code yX4_fillGoals cX4_fillGoals 5 none :: ([.fieldLink RX4 36 "PaidBySigns$LeastCost" "columns" "I", .fieldLink RX4 26 "PaidBySigns$LeastCost" "columnSign" "[I", .fieldLink RX4 22 "PaidBySigns$LeastCost" "table" "LPaidBySigns$Table;", .fieldLink RX4 132 "PaidBySigns$Table" "entry" "[[J", .fieldLink RX4 50 "PaidBySigns$LeastCost" "work" "I", .methodLink RX4 128 yX4_partsOf, .instanceMethod yX4_partsOf, .selects RX4 yX4_partsOf yX4_partsOf, .initialized RX4, .code yX4_partsOf cX4_partsOf 2 (some .int), .fieldLink RX4 30 "PaidBySigns$LeastCost" "columnRate" "[I", .methodLink RX4 66 yX4_chanceOf, .instanceMethod yX4_chanceOf, .selects RX4 yX4_chanceOf yX4_chanceOf, .code yX4_chanceOf cX4_chanceOf 3 (some .int), .fieldLink RX4 56 "PaidBySigns$LeastCost" "joinedSign" "I", .fieldLink RX4 53 "PaidBySigns$LeastCost" "keptSign" "I", .fieldLink RX4 46 "PaidBySigns$LeastCost" "hire" "LPaidBySigns$Hire;", .fieldLink RX4 112 "PaidBySigns$Hire" "chances" "[[I"] ++ wsX40 ++ wsX80 ++ wsX30)
set_option maxRecDepth 20000 in
theorem ggX4_listColumns_X4_chanceOf : GoodIn wsX4_listColumns wsX4_chanceOf := goodIn_sub (List.forall_mem_cons.mpr ⟨List.mem_cons_of_mem _ (List.mem_append_left _ (List.mem_append_left _ (List.mem_of_getElem? (i := 9) rfl))), List.forall_mem_append.mpr ⟨List.forall_mem_append.mpr ⟨List.forall_mem_cons.mpr ⟨List.mem_cons_of_mem _ (List.mem_append_left _ (List.mem_append_left _ (List.mem_of_getElem? (i := 10) rfl))), List.forall_mem_cons.mpr ⟨List.mem_cons_of_mem _ (List.mem_append_left _ (List.mem_append_left _ (List.mem_of_getElem? (i := 11) rfl))), List.forall_mem_cons.mpr ⟨List.mem_cons_of_mem _ (List.mem_append_left _ (List.mem_append_left _ (List.mem_of_getElem? (i := 2) rfl))), List.forall_mem_cons.mpr ⟨List.mem_cons_of_mem _ (List.mem_append_left _ (List.mem_append_left _ (List.mem_of_getElem? (i := 12) rfl))), fun _ h => absurd h List.not_mem_nil⟩⟩⟩⟩, fun _ h => List.mem_cons_of_mem _ (List.mem_append_left _ (List.mem_append_right _ h))⟩, fun _ h => List.mem_cons_of_mem _ (List.mem_append_right _ h)⟩⟩) (by decide +kernel)
set_option maxRecDepth 20000 in
theorem gX4_listColumns_X4_chanceOf : GoodIn wsX4_listColumns (wsV RX4 66 RX4 yX4_chanceOf wsX4_chanceOf) := goodIn_app (goodIn_sub (List.forall_mem_cons.mpr ⟨List.mem_cons_of_mem _ (List.mem_append_left _ (List.mem_append_left _ (List.mem_of_getElem? (i := 5) rfl))), List.forall_mem_cons.mpr ⟨List.mem_cons_of_mem _ (List.mem_append_left _ (List.mem_append_left _ (List.mem_of_getElem? (i := 6) rfl))), List.forall_mem_cons.mpr ⟨List.mem_cons_of_mem _ (List.mem_append_left _ (List.mem_append_left _ (List.mem_of_getElem? (i := 7) rfl))), List.forall_mem_cons.mpr ⟨List.mem_cons_of_mem _ (List.mem_append_left _ (List.mem_append_left _ (List.mem_of_getElem? (i := 8) rfl))), fun _ h => absurd h List.not_mem_nil⟩⟩⟩⟩) (by decide +kernel)) ggX4_listColumns_X4_chanceOf
set_option maxRecDepth 20000 in
theorem ggX4_listColumns_X4_listSteps : GoodIn wsX4_listColumns wsX4_listSteps := goodIn_sub (List.forall_mem_cons.mpr ⟨List.mem_cons_of_mem _ (List.mem_append_left _ (List.mem_append_left _ (List.mem_of_getElem? (i := 16) rfl))), List.forall_mem_append.mpr ⟨List.forall_mem_append.mpr ⟨List.forall_mem_cons.mpr ⟨List.mem_cons_of_mem _ (List.mem_append_left _ (List.mem_append_left _ (List.mem_of_getElem? (i := 2) rfl))), List.forall_mem_cons.mpr ⟨List.mem_cons_of_mem _ (List.mem_append_left _ (List.mem_append_left _ (List.mem_of_getElem? (i := 17) rfl))), List.forall_mem_cons.mpr ⟨List.mem_cons_of_mem _ (List.mem_append_left _ (List.mem_append_left _ (List.mem_of_getElem? (i := 18) rfl))), List.forall_mem_cons.mpr ⟨List.mem_cons_of_mem _ (List.mem_append_left _ (List.mem_append_left _ (List.mem_of_getElem? (i := 0) rfl))), List.forall_mem_cons.mpr ⟨List.mem_cons_of_mem _ (List.mem_append_left _ (List.mem_append_left _ (List.mem_of_getElem? (i := 19) rfl))), List.forall_mem_cons.mpr ⟨List.mem_cons_of_mem _ (List.mem_append_left _ (List.mem_append_left _ (List.mem_of_getElem? (i := 20) rfl))), List.forall_mem_cons.mpr ⟨List.mem_cons_of_mem _ (List.mem_append_left _ (List.mem_append_left _ (List.mem_of_getElem? (i := 21) rfl))), List.forall_mem_cons.mpr ⟨List.mem_cons_of_mem _ (List.mem_append_left _ (List.mem_append_left _ (List.mem_of_getElem? (i := 22) rfl))), List.forall_mem_cons.mpr ⟨List.mem_cons_of_mem _ (List.mem_append_left _ (List.mem_append_left _ (List.mem_of_getElem? (i := 23) rfl))), List.forall_mem_cons.mpr ⟨List.mem_cons_of_mem _ (List.mem_append_left _ (List.mem_append_left _ (List.mem_of_getElem? (i := 1) rfl))), fun _ h => absurd h List.not_mem_nil⟩⟩⟩⟩⟩⟩⟩⟩⟩⟩, fun _ h => List.mem_cons_of_mem _ (List.mem_append_left _ (List.mem_append_right _ h))⟩, fun _ h => List.mem_cons_of_mem _ (List.mem_append_right _ h)⟩⟩) (by decide +kernel)
set_option maxRecDepth 20000 in
theorem gX4_listColumns_X4_listSteps : GoodIn wsX4_listColumns (wsV RX4 116 RX4 yX4_listSteps wsX4_listSteps) := goodIn_app (goodIn_sub (List.forall_mem_cons.mpr ⟨List.mem_cons_of_mem _ (List.mem_append_left _ (List.mem_append_left _ (List.mem_of_getElem? (i := 13) rfl))), List.forall_mem_cons.mpr ⟨List.mem_cons_of_mem _ (List.mem_append_left _ (List.mem_append_left _ (List.mem_of_getElem? (i := 14) rfl))), List.forall_mem_cons.mpr ⟨List.mem_cons_of_mem _ (List.mem_append_left _ (List.mem_append_left _ (List.mem_of_getElem? (i := 15) rfl))), List.forall_mem_cons.mpr ⟨List.mem_cons_of_mem _ (List.mem_append_left _ (List.mem_append_left _ (List.mem_of_getElem? (i := 8) rfl))), fun _ h => absurd h List.not_mem_nil⟩⟩⟩⟩) (by decide +kernel)) ggX4_listColumns_X4_listSteps
theorem bX4_listColumns_0 : ((bys cX4_listColumns).drop 0).take 16 = [42, 3, 181, 0, 36, 42, 3, 181, 0, 40, 3, 60, 27, 42, 180, 0] := by decide +kernel
theorem dX4_listColumns_0 : decode cX4_listColumns 0 = .ok (.aload_n 0, 1) := do_42 (byt_at bX4_listColumns_0 (j := 0) rfl)
theorem dX4_listColumns_1 : decode cX4_listColumns 1 = .ok (.iconst 0, 1) := do_3 (byt_at bX4_listColumns_0 (j := 1) rfl)
theorem dX4_listColumns_2 : decode cX4_listColumns 2 = .ok (.putfield 36, 3) := do_181 0 36 (byt_at bX4_listColumns_0 (j := 2) rfl) (byt_at bX4_listColumns_0 (j := 3) rfl) (byt_at bX4_listColumns_0 (j := 4) rfl)
theorem dX4_listColumns_5 : decode cX4_listColumns 5 = .ok (.aload_n 0, 1) := do_42 (byt_at bX4_listColumns_0 (j := 5) rfl)
theorem dX4_listColumns_6 : decode cX4_listColumns 6 = .ok (.iconst 0, 1) := do_3 (byt_at bX4_listColumns_0 (j := 6) rfl)
theorem dX4_listColumns_7 : decode cX4_listColumns 7 = .ok (.putfield 40, 3) := do_181 0 40 (byt_at bX4_listColumns_0 (j := 7) rfl) (byt_at bX4_listColumns_0 (j := 8) rfl) (byt_at bX4_listColumns_0 (j := 9) rfl)
theorem dX4_listColumns_10 : decode cX4_listColumns 10 = .ok (.iconst 0, 1) := do_3 (byt_at bX4_listColumns_0 (j := 10) rfl)
theorem dX4_listColumns_11 : decode cX4_listColumns 11 = .ok (.istore_n 1, 1) := do_60 (byt_at bX4_listColumns_0 (j := 11) rfl)
theorem dX4_listColumns_12 : decode cX4_listColumns 12 = .ok (.iload_n 1, 1) := do_27 (byt_at bX4_listColumns_0 (j := 12) rfl)
theorem dX4_listColumns_13 : decode cX4_listColumns 13 = .ok (.aload_n 0, 1) := do_42 (byt_at bX4_listColumns_0 (j := 13) rfl)
theorem bX4_listColumns_1 : ((bys cX4_listColumns).drop 16).take 16 = [46, 180, 0, 63, 162, 0, 26, 42, 42, 180, 0, 50, 27, 182, 0, 66] := by decide +kernel
theorem dX4_listColumns_14 : decode cX4_listColumns 14 = .ok (.getfield 46, 3) := do_180 0 46 (byt_at bX4_listColumns_0 (j := 14) rfl) (byt_at bX4_listColumns_0 (j := 15) rfl) (byt_at bX4_listColumns_1 (j := 0) rfl)
theorem dX4_listColumns_17 : decode cX4_listColumns 17 = .ok (.getfield 63, 3) := do_180 0 63 (byt_at bX4_listColumns_1 (j := 1) rfl) (byt_at bX4_listColumns_1 (j := 2) rfl) (byt_at bX4_listColumns_1 (j := 3) rfl)
theorem dX4_listColumns_20 : decode cX4_listColumns 20 = .ok (.if_icmp .ge 26, 3) := do_162 0 26 (byt_at bX4_listColumns_1 (j := 4) rfl) (byt_at bX4_listColumns_1 (j := 5) rfl) (byt_at bX4_listColumns_1 (j := 6) rfl) (by decide)
theorem dX4_listColumns_23 : decode cX4_listColumns 23 = .ok (.aload_n 0, 1) := do_42 (byt_at bX4_listColumns_1 (j := 7) rfl)
theorem dX4_listColumns_24 : decode cX4_listColumns 24 = .ok (.aload_n 0, 1) := do_42 (byt_at bX4_listColumns_1 (j := 8) rfl)
theorem dX4_listColumns_25 : decode cX4_listColumns 25 = .ok (.getfield 50, 3) := do_180 0 50 (byt_at bX4_listColumns_1 (j := 9) rfl) (byt_at bX4_listColumns_1 (j := 10) rfl) (byt_at bX4_listColumns_1 (j := 11) rfl)
theorem dX4_listColumns_28 : decode cX4_listColumns 28 = .ok (.iload_n 1, 1) := do_27 (byt_at bX4_listColumns_1 (j := 12) rfl)
theorem dX4_listColumns_29 : decode cX4_listColumns 29 = .ok (.invokevirtual 66, 3) := do_182 0 66 (byt_at bX4_listColumns_1 (j := 13) rfl) (byt_at bX4_listColumns_1 (j := 14) rfl) (byt_at bX4_listColumns_1 (j := 15) rfl)
theorem bX4_listColumns_2 : ((bys cX4_listColumns).drop 32).take 16 = [158, 0, 8, 42, 27, 182, 0, 116, 132, 1, 1, 167, 255, 225, 177] := by decide +kernel
theorem dX4_listColumns_32 : decode cX4_listColumns 32 = .ok (.ifCond .le 8, 3) := do_158 0 8 (byt_at bX4_listColumns_2 (j := 0) rfl) (byt_at bX4_listColumns_2 (j := 1) rfl) (byt_at bX4_listColumns_2 (j := 2) rfl) (by decide)
theorem dX4_listColumns_35 : decode cX4_listColumns 35 = .ok (.aload_n 0, 1) := do_42 (byt_at bX4_listColumns_2 (j := 3) rfl)
theorem dX4_listColumns_36 : decode cX4_listColumns 36 = .ok (.iload_n 1, 1) := do_27 (byt_at bX4_listColumns_2 (j := 4) rfl)
theorem dX4_listColumns_37 : decode cX4_listColumns 37 = .ok (.invokevirtual 116, 3) := do_182 0 116 (byt_at bX4_listColumns_2 (j := 5) rfl) (byt_at bX4_listColumns_2 (j := 6) rfl) (byt_at bX4_listColumns_2 (j := 7) rfl)
theorem dX4_listColumns_40 : decode cX4_listColumns 40 = .ok (.iinc 1 1, 3) := do_132 1 1 (byt_at bX4_listColumns_2 (j := 8) rfl) (byt_at bX4_listColumns_2 (j := 9) rfl) (byt_at bX4_listColumns_2 (j := 10) rfl) (by decide)
theorem dX4_listColumns_43 : decode cX4_listColumns 43 = .ok (.goto (-31), 3) := do_167 255 225 (byt_at bX4_listColumns_2 (j := 11) rfl) (byt_at bX4_listColumns_2 (j := 12) rfl) (byt_at bX4_listColumns_2 (j := 13) rfl) (by decide)
theorem dX4_listColumns_46 : decode cX4_listColumns 46 = .ok (.return_, 1) := do_177 (byt_at bX4_listColumns_2 (j := 14) rfl)
set_option maxRecDepth 20000 in
theorem ggX4_fillGoals_X4_partsOf : GoodIn wsX4_fillGoals wsX4_partsOf := goodIn_sub (List.forall_mem_cons.mpr ⟨List.mem_cons_of_mem _ (List.mem_append_left _ (List.mem_append_left _ (List.mem_append_left _ (List.mem_of_getElem? (i := 9) rfl)))), List.forall_mem_append.mpr ⟨List.forall_mem_cons.mpr ⟨List.mem_cons_of_mem _ (List.mem_append_left _ (List.mem_append_left _ (List.mem_append_left _ (List.mem_of_getElem? (i := 10) rfl)))), fun _ h => absurd h List.not_mem_nil⟩, fun _ h => List.mem_cons_of_mem _ (List.mem_append_left _ (List.mem_append_left _ (List.mem_append_right _ h)))⟩⟩) (by decide +kernel)
set_option maxRecDepth 20000 in
theorem gX4_fillGoals_X4_partsOf : GoodIn wsX4_fillGoals (wsV RX4 128 RX4 yX4_partsOf wsX4_partsOf) := goodIn_app (goodIn_sub (List.forall_mem_cons.mpr ⟨List.mem_cons_of_mem _ (List.mem_append_left _ (List.mem_append_left _ (List.mem_append_left _ (List.mem_of_getElem? (i := 5) rfl)))), List.forall_mem_cons.mpr ⟨List.mem_cons_of_mem _ (List.mem_append_left _ (List.mem_append_left _ (List.mem_append_left _ (List.mem_of_getElem? (i := 6) rfl)))), List.forall_mem_cons.mpr ⟨List.mem_cons_of_mem _ (List.mem_append_left _ (List.mem_append_left _ (List.mem_append_left _ (List.mem_of_getElem? (i := 7) rfl)))), List.forall_mem_cons.mpr ⟨List.mem_cons_of_mem _ (List.mem_append_left _ (List.mem_append_left _ (List.mem_append_left _ (List.mem_of_getElem? (i := 8) rfl)))), fun _ h => absurd h List.not_mem_nil⟩⟩⟩⟩) (by decide +kernel)) ggX4_fillGoals_X4_partsOf
set_option maxRecDepth 20000 in
theorem ggX4_fillGoals_X4_chanceOf : GoodIn wsX4_fillGoals wsX4_chanceOf := goodIn_sub (List.forall_mem_cons.mpr ⟨List.mem_cons_of_mem _ (List.mem_append_left _ (List.mem_append_left _ (List.mem_append_left _ (List.mem_of_getElem? (i := 14) rfl)))), List.forall_mem_append.mpr ⟨List.forall_mem_append.mpr ⟨List.forall_mem_cons.mpr ⟨List.mem_cons_of_mem _ (List.mem_append_left _ (List.mem_append_left _ (List.mem_append_left _ (List.mem_of_getElem? (i := 15) rfl)))), List.forall_mem_cons.mpr ⟨List.mem_cons_of_mem _ (List.mem_append_left _ (List.mem_append_left _ (List.mem_append_left _ (List.mem_of_getElem? (i := 16) rfl)))), List.forall_mem_cons.mpr ⟨List.mem_cons_of_mem _ (List.mem_append_left _ (List.mem_append_left _ (List.mem_append_left _ (List.mem_of_getElem? (i := 17) rfl)))), List.forall_mem_cons.mpr ⟨List.mem_cons_of_mem _ (List.mem_append_left _ (List.mem_append_left _ (List.mem_append_left _ (List.mem_of_getElem? (i := 18) rfl)))), fun _ h => absurd h List.not_mem_nil⟩⟩⟩⟩, fun _ h => List.mem_cons_of_mem _ (List.mem_append_left _ (List.mem_append_left _ (List.mem_append_right _ h)))⟩, fun _ h => List.mem_cons_of_mem _ (List.mem_append_right _ h)⟩⟩) (by decide +kernel)
set_option maxRecDepth 20000 in
theorem gX4_fillGoals_X4_chanceOf : GoodIn wsX4_fillGoals (wsV RX4 66 RX4 yX4_chanceOf wsX4_chanceOf) := goodIn_app (goodIn_sub (List.forall_mem_cons.mpr ⟨List.mem_cons_of_mem _ (List.mem_append_left _ (List.mem_append_left _ (List.mem_append_left _ (List.mem_of_getElem? (i := 11) rfl)))), List.forall_mem_cons.mpr ⟨List.mem_cons_of_mem _ (List.mem_append_left _ (List.mem_append_left _ (List.mem_append_left _ (List.mem_of_getElem? (i := 12) rfl)))), List.forall_mem_cons.mpr ⟨List.mem_cons_of_mem _ (List.mem_append_left _ (List.mem_append_left _ (List.mem_append_left _ (List.mem_of_getElem? (i := 13) rfl)))), List.forall_mem_cons.mpr ⟨List.mem_cons_of_mem _ (List.mem_append_left _ (List.mem_append_left _ (List.mem_append_left _ (List.mem_of_getElem? (i := 8) rfl)))), fun _ h => absurd h List.not_mem_nil⟩⟩⟩⟩) (by decide +kernel)) ggX4_fillGoals_X4_chanceOf
theorem bX4_fillGoals_0 : ((bys cX4_fillGoals).drop 0).take 16 = [3, 61, 28, 42, 180, 0, 36, 162, 0, 77, 42, 180, 0, 26, 28, 46] := by decide +kernel
theorem dX4_fillGoals_0 : decode cX4_fillGoals 0 = .ok (.iconst 0, 1) := do_3 (byt_at bX4_fillGoals_0 (j := 0) rfl)
theorem dX4_fillGoals_1 : decode cX4_fillGoals 1 = .ok (.istore_n 2, 1) := do_61 (byt_at bX4_fillGoals_0 (j := 1) rfl)
theorem dX4_fillGoals_2 : decode cX4_fillGoals 2 = .ok (.iload_n 2, 1) := do_28 (byt_at bX4_fillGoals_0 (j := 2) rfl)
theorem dX4_fillGoals_3 : decode cX4_fillGoals 3 = .ok (.aload_n 0, 1) := do_42 (byt_at bX4_fillGoals_0 (j := 3) rfl)
theorem dX4_fillGoals_4 : decode cX4_fillGoals 4 = .ok (.getfield 36, 3) := do_180 0 36 (byt_at bX4_fillGoals_0 (j := 4) rfl) (byt_at bX4_fillGoals_0 (j := 5) rfl) (byt_at bX4_fillGoals_0 (j := 6) rfl)
theorem dX4_fillGoals_7 : decode cX4_fillGoals 7 = .ok (.if_icmp .ge 77, 3) := do_162 0 77 (byt_at bX4_fillGoals_0 (j := 7) rfl) (byt_at bX4_fillGoals_0 (j := 8) rfl) (byt_at bX4_fillGoals_0 (j := 9) rfl) (by decide)
theorem dX4_fillGoals_10 : decode cX4_fillGoals 10 = .ok (.aload_n 0, 1) := do_42 (byt_at bX4_fillGoals_0 (j := 10) rfl)
theorem dX4_fillGoals_11 : decode cX4_fillGoals 11 = .ok (.getfield 26, 3) := do_180 0 26 (byt_at bX4_fillGoals_0 (j := 11) rfl) (byt_at bX4_fillGoals_0 (j := 12) rfl) (byt_at bX4_fillGoals_0 (j := 13) rfl)
theorem dX4_fillGoals_14 : decode cX4_fillGoals 14 = .ok (.iload_n 2, 1) := do_28 (byt_at bX4_fillGoals_0 (j := 14) rfl)
theorem dX4_fillGoals_15 : decode cX4_fillGoals 15 = .ok (.iaload, 1) := do_46 (byt_at bX4_fillGoals_0 (j := 15) rfl)
theorem bX4_fillGoals_1 : ((bys cX4_fillGoals).drop 16).take 16 = [62, 42, 28, 182, 0, 128, 54, 4, 42, 180, 0, 22, 180, 0, 132, 3] := by decide +kernel
theorem dX4_fillGoals_16 : decode cX4_fillGoals 16 = .ok (.istore_n 3, 1) := do_62 (byt_at bX4_fillGoals_1 (j := 0) rfl)
theorem dX4_fillGoals_17 : decode cX4_fillGoals 17 = .ok (.aload_n 0, 1) := do_42 (byt_at bX4_fillGoals_1 (j := 1) rfl)
theorem dX4_fillGoals_18 : decode cX4_fillGoals 18 = .ok (.iload_n 2, 1) := do_28 (byt_at bX4_fillGoals_1 (j := 2) rfl)
theorem dX4_fillGoals_19 : decode cX4_fillGoals 19 = .ok (.invokevirtual 128, 3) := do_182 0 128 (byt_at bX4_fillGoals_1 (j := 3) rfl) (byt_at bX4_fillGoals_1 (j := 4) rfl) (byt_at bX4_fillGoals_1 (j := 5) rfl)
theorem dX4_fillGoals_22 : decode cX4_fillGoals 22 = .ok (.istore 4, 2) := do_54 4 (byt_at bX4_fillGoals_1 (j := 6) rfl) (byt_at bX4_fillGoals_1 (j := 7) rfl)
theorem dX4_fillGoals_24 : decode cX4_fillGoals 24 = .ok (.aload_n 0, 1) := do_42 (byt_at bX4_fillGoals_1 (j := 8) rfl)
theorem dX4_fillGoals_25 : decode cX4_fillGoals 25 = .ok (.getfield 22, 3) := do_180 0 22 (byt_at bX4_fillGoals_1 (j := 9) rfl) (byt_at bX4_fillGoals_1 (j := 10) rfl) (byt_at bX4_fillGoals_1 (j := 11) rfl)
theorem dX4_fillGoals_28 : decode cX4_fillGoals 28 = .ok (.getfield 132, 3) := do_180 0 132 (byt_at bX4_fillGoals_1 (j := 12) rfl) (byt_at bX4_fillGoals_1 (j := 13) rfl) (byt_at bX4_fillGoals_1 (j := 14) rfl)
theorem dX4_fillGoals_31 : decode cX4_fillGoals 31 = .ok (.iconst 0, 1) := do_3 (byt_at bX4_fillGoals_1 (j := 15) rfl)
theorem bX4_fillGoals_2 : ((bys cX4_fillGoals).drop 32).take 16 = [50, 28, 4, 96, 21, 4, 133, 117, 42, 42, 180, 0, 50, 29, 182, 0] := by decide +kernel
theorem dX4_fillGoals_32 : decode cX4_fillGoals 32 = .ok (.aaload, 1) := do_50 (byt_at bX4_fillGoals_2 (j := 0) rfl)
theorem dX4_fillGoals_33 : decode cX4_fillGoals 33 = .ok (.iload_n 2, 1) := do_28 (byt_at bX4_fillGoals_2 (j := 1) rfl)
theorem dX4_fillGoals_34 : decode cX4_fillGoals 34 = .ok (.iconst 1, 1) := do_4 (byt_at bX4_fillGoals_2 (j := 2) rfl)
theorem dX4_fillGoals_35 : decode cX4_fillGoals 35 = .ok (.iadd, 1) := do_96 (byt_at bX4_fillGoals_2 (j := 3) rfl)
theorem dX4_fillGoals_36 : decode cX4_fillGoals 36 = .ok (.iload 4, 2) := do_21 4 (byt_at bX4_fillGoals_2 (j := 4) rfl) (byt_at bX4_fillGoals_2 (j := 5) rfl)
theorem dX4_fillGoals_38 : decode cX4_fillGoals 38 = .ok (.i2l, 1) := do_133 (byt_at bX4_fillGoals_2 (j := 6) rfl)
theorem dX4_fillGoals_39 : decode cX4_fillGoals 39 = .ok (.lneg, 1) := do_117 (byt_at bX4_fillGoals_2 (j := 7) rfl)
theorem dX4_fillGoals_40 : decode cX4_fillGoals 40 = .ok (.aload_n 0, 1) := do_42 (byt_at bX4_fillGoals_2 (j := 8) rfl)
theorem dX4_fillGoals_41 : decode cX4_fillGoals 41 = .ok (.aload_n 0, 1) := do_42 (byt_at bX4_fillGoals_2 (j := 9) rfl)
theorem dX4_fillGoals_42 : decode cX4_fillGoals 42 = .ok (.getfield 50, 3) := do_180 0 50 (byt_at bX4_fillGoals_2 (j := 10) rfl) (byt_at bX4_fillGoals_2 (j := 11) rfl) (byt_at bX4_fillGoals_2 (j := 12) rfl)
theorem dX4_fillGoals_45 : decode cX4_fillGoals 45 = .ok (.iload_n 3, 1) := do_29 (byt_at bX4_fillGoals_2 (j := 13) rfl)
theorem bX4_fillGoals_3 : ((bys cX4_fillGoals).drop 48).take 16 = [66, 133, 105, 80, 4, 29, 96, 27, 162, 0, 22, 42, 180, 0, 22, 180] := by decide +kernel
theorem dX4_fillGoals_46 : decode cX4_fillGoals 46 = .ok (.invokevirtual 66, 3) := do_182 0 66 (byt_at bX4_fillGoals_2 (j := 14) rfl) (byt_at bX4_fillGoals_2 (j := 15) rfl) (byt_at bX4_fillGoals_3 (j := 0) rfl)
theorem dX4_fillGoals_49 : decode cX4_fillGoals 49 = .ok (.i2l, 1) := do_133 (byt_at bX4_fillGoals_3 (j := 1) rfl)
theorem dX4_fillGoals_50 : decode cX4_fillGoals 50 = .ok (.lmul, 1) := do_105 (byt_at bX4_fillGoals_3 (j := 2) rfl)
theorem dX4_fillGoals_51 : decode cX4_fillGoals 51 = .ok (.lastore, 1) := do_80 (byt_at bX4_fillGoals_3 (j := 3) rfl)
theorem dX4_fillGoals_52 : decode cX4_fillGoals 52 = .ok (.iconst 1, 1) := do_4 (byt_at bX4_fillGoals_3 (j := 4) rfl)
theorem dX4_fillGoals_53 : decode cX4_fillGoals 53 = .ok (.iload_n 3, 1) := do_29 (byt_at bX4_fillGoals_3 (j := 5) rfl)
theorem dX4_fillGoals_54 : decode cX4_fillGoals 54 = .ok (.iadd, 1) := do_96 (byt_at bX4_fillGoals_3 (j := 6) rfl)
theorem dX4_fillGoals_55 : decode cX4_fillGoals 55 = .ok (.iload_n 1, 1) := do_27 (byt_at bX4_fillGoals_3 (j := 7) rfl)
theorem dX4_fillGoals_56 : decode cX4_fillGoals 56 = .ok (.if_icmp .ge 22, 3) := do_162 0 22 (byt_at bX4_fillGoals_3 (j := 8) rfl) (byt_at bX4_fillGoals_3 (j := 9) rfl) (byt_at bX4_fillGoals_3 (j := 10) rfl) (by decide)
theorem dX4_fillGoals_59 : decode cX4_fillGoals 59 = .ok (.aload_n 0, 1) := do_42 (byt_at bX4_fillGoals_3 (j := 11) rfl)
theorem dX4_fillGoals_60 : decode cX4_fillGoals 60 = .ok (.getfield 22, 3) := do_180 0 22 (byt_at bX4_fillGoals_3 (j := 12) rfl) (byt_at bX4_fillGoals_3 (j := 13) rfl) (byt_at bX4_fillGoals_3 (j := 14) rfl)
theorem bX4_fillGoals_4 : ((bys cX4_fillGoals).drop 64).take 16 = [0, 132, 4, 29, 96, 50, 28, 4, 96, 21, 4, 116, 133, 80, 132, 2] := by decide +kernel
theorem dX4_fillGoals_63 : decode cX4_fillGoals 63 = .ok (.getfield 132, 3) := do_180 0 132 (byt_at bX4_fillGoals_3 (j := 15) rfl) (byt_at bX4_fillGoals_4 (j := 0) rfl) (byt_at bX4_fillGoals_4 (j := 1) rfl)
theorem dX4_fillGoals_66 : decode cX4_fillGoals 66 = .ok (.iconst 1, 1) := do_4 (byt_at bX4_fillGoals_4 (j := 2) rfl)
theorem dX4_fillGoals_67 : decode cX4_fillGoals 67 = .ok (.iload_n 3, 1) := do_29 (byt_at bX4_fillGoals_4 (j := 3) rfl)
theorem dX4_fillGoals_68 : decode cX4_fillGoals 68 = .ok (.iadd, 1) := do_96 (byt_at bX4_fillGoals_4 (j := 4) rfl)
theorem dX4_fillGoals_69 : decode cX4_fillGoals 69 = .ok (.aaload, 1) := do_50 (byt_at bX4_fillGoals_4 (j := 5) rfl)
theorem dX4_fillGoals_70 : decode cX4_fillGoals 70 = .ok (.iload_n 2, 1) := do_28 (byt_at bX4_fillGoals_4 (j := 6) rfl)
theorem dX4_fillGoals_71 : decode cX4_fillGoals 71 = .ok (.iconst 1, 1) := do_4 (byt_at bX4_fillGoals_4 (j := 7) rfl)
theorem dX4_fillGoals_72 : decode cX4_fillGoals 72 = .ok (.iadd, 1) := do_96 (byt_at bX4_fillGoals_4 (j := 8) rfl)
theorem dX4_fillGoals_73 : decode cX4_fillGoals 73 = .ok (.iload 4, 2) := do_21 4 (byt_at bX4_fillGoals_4 (j := 9) rfl) (byt_at bX4_fillGoals_4 (j := 10) rfl)
theorem dX4_fillGoals_75 : decode cX4_fillGoals 75 = .ok (.ineg, 1) := do_116 (byt_at bX4_fillGoals_4 (j := 11) rfl)
theorem dX4_fillGoals_76 : decode cX4_fillGoals 76 = .ok (.i2l, 1) := do_133 (byt_at bX4_fillGoals_4 (j := 12) rfl)
theorem dX4_fillGoals_77 : decode cX4_fillGoals 77 = .ok (.lastore, 1) := do_80 (byt_at bX4_fillGoals_4 (j := 13) rfl)
theorem bX4_fillGoals_5 : ((bys cX4_fillGoals).drop 80).take 16 = [1, 167, 255, 177, 177] := by decide +kernel
theorem dX4_fillGoals_78 : decode cX4_fillGoals 78 = .ok (.iinc 2 1, 3) := do_132 2 1 (byt_at bX4_fillGoals_4 (j := 14) rfl) (byt_at bX4_fillGoals_4 (j := 15) rfl) (byt_at bX4_fillGoals_5 (j := 0) rfl) (by decide)
theorem dX4_fillGoals_81 : decode cX4_fillGoals 81 = .ok (.goto (-79), 3) := do_167 255 177 (byt_at bX4_fillGoals_5 (j := 1) rfl) (byt_at bX4_fillGoals_5 (j := 2) rfl) (byt_at bX4_fillGoals_5 (j := 3) rfl) (by decide)
theorem dX4_fillGoals_84 : decode cX4_fillGoals 84 = .ok (.return_, 1) := do_177 (byt_at bX4_fillGoals_5 (j := 4) rfl)
theorem bX4_partsOf_0 : ((bys cX4_partsOf).drop 0).take 16 = [42, 180, 0, 30, 27, 46, 4, 162, 0, 7, 3, 167, 0, 12, 16, 60] := by decide +kernel
theorem dX4_partsOf_0 : decode cX4_partsOf 0 = .ok (.aload_n 0, 1) := do_42 (byt_at bX4_partsOf_0 (j := 0) rfl)
theorem dX4_partsOf_1 : decode cX4_partsOf 1 = .ok (.getfield 30, 3) := do_180 0 30 (byt_at bX4_partsOf_0 (j := 1) rfl) (byt_at bX4_partsOf_0 (j := 2) rfl) (byt_at bX4_partsOf_0 (j := 3) rfl)
theorem dX4_partsOf_4 : decode cX4_partsOf 4 = .ok (.iload_n 1, 1) := do_27 (byt_at bX4_partsOf_0 (j := 4) rfl)
theorem dX4_partsOf_5 : decode cX4_partsOf 5 = .ok (.iaload, 1) := do_46 (byt_at bX4_partsOf_0 (j := 5) rfl)
theorem dX4_partsOf_6 : decode cX4_partsOf 6 = .ok (.iconst 1, 1) := do_4 (byt_at bX4_partsOf_0 (j := 6) rfl)
theorem dX4_partsOf_7 : decode cX4_partsOf 7 = .ok (.if_icmp .ge 7, 3) := do_162 0 7 (byt_at bX4_partsOf_0 (j := 7) rfl) (byt_at bX4_partsOf_0 (j := 8) rfl) (byt_at bX4_partsOf_0 (j := 9) rfl) (by decide)
theorem dX4_partsOf_10 : decode cX4_partsOf 10 = .ok (.iconst 0, 1) := do_3 (byt_at bX4_partsOf_0 (j := 10) rfl)
theorem dX4_partsOf_11 : decode cX4_partsOf 11 = .ok (.goto 12, 3) := do_167 0 12 (byt_at bX4_partsOf_0 (j := 11) rfl) (byt_at bX4_partsOf_0 (j := 12) rfl) (byt_at bX4_partsOf_0 (j := 13) rfl) (by decide)
theorem dX4_partsOf_14 : decode cX4_partsOf 14 = .ok (.bipush 60, 2) := do_16 60 (byt_at bX4_partsOf_0 (j := 14) rfl) (byt_at bX4_partsOf_0 (j := 15) rfl) (by decide)
theorem bX4_partsOf_1 : ((bys cX4_partsOf).drop 16).take 16 = [42, 180, 0, 30, 27, 46, 108, 172] := by decide +kernel
theorem dX4_partsOf_16 : decode cX4_partsOf 16 = .ok (.aload_n 0, 1) := do_42 (byt_at bX4_partsOf_1 (j := 0) rfl)
theorem dX4_partsOf_17 : decode cX4_partsOf 17 = .ok (.getfield 30, 3) := do_180 0 30 (byt_at bX4_partsOf_1 (j := 1) rfl) (byt_at bX4_partsOf_1 (j := 2) rfl) (byt_at bX4_partsOf_1 (j := 3) rfl)
theorem dX4_partsOf_20 : decode cX4_partsOf 20 = .ok (.iload_n 1, 1) := do_27 (byt_at bX4_partsOf_1 (j := 4) rfl)
theorem dX4_partsOf_21 : decode cX4_partsOf 21 = .ok (.iaload, 1) := do_46 (byt_at bX4_partsOf_1 (j := 5) rfl)
theorem dX4_partsOf_22 : decode cX4_partsOf 22 = .ok (.idiv, 1) := do_108 (byt_at bX4_partsOf_1 (j := 6) rfl)
theorem dX4_partsOf_23 : decode cX4_partsOf 23 = .ok (.ireturn, 1) := do_172 (byt_at bX4_partsOf_1 (j := 7) rfl)
set_option maxRecDepth 20000 in
theorem ggX8_start_J7_fill_d0a16 : GoodIn wsX8_start wsJ7_fill_d0a16 := goodIn_sub (List.forall_mem_cons.mpr ⟨List.mem_cons_of_mem _ (List.mem_append_left _ (List.mem_of_getElem? (i := 14) rfl)), fun _ h => absurd h List.not_mem_nil⟩) (by decide +kernel)
set_option maxRecDepth 20000 in
theorem gX8_start_J7_fill_d0a16 : GoodIn wsX8_start (va_wsS RX8 43 yJ7_fill_d0a16 wsJ7_fill_d0a16) := goodIn_app (goodIn_sub (List.forall_mem_cons.mpr ⟨List.mem_cons_of_mem _ (List.mem_append_left _ (List.mem_of_getElem? (i := 11) rfl)), List.forall_mem_cons.mpr ⟨List.mem_cons_of_mem _ (List.mem_append_left _ (List.mem_of_getElem? (i := 12) rfl)), List.forall_mem_cons.mpr ⟨List.mem_cons_of_mem _ (List.mem_append_left _ (List.mem_of_getElem? (i := 13) rfl)), fun _ h => absurd h List.not_mem_nil⟩⟩⟩) (by decide +kernel)) ggX8_start_J7_fill_d0a16
theorem bX8_start_0 : ((bys cX8_start).drop 0).take 16 = [42, 27, 16, 18, 184, 0, 23, 181, 0, 29, 42, 28, 16, 18, 184, 0] := by decide +kernel
theorem dX8_start_0 : decode cX8_start 0 = .ok (.aload_n 0, 1) := do_42 (byt_at bX8_start_0 (j := 0) rfl)
theorem dX8_start_1 : decode cX8_start 1 = .ok (.iload_n 1, 1) := do_27 (byt_at bX8_start_0 (j := 1) rfl)
theorem dX8_start_2 : decode cX8_start 2 = .ok (.bipush 18, 2) := do_16 18 (byt_at bX8_start_0 (j := 2) rfl) (byt_at bX8_start_0 (j := 3) rfl) (by decide)
theorem dX8_start_4 : decode cX8_start 4 = .ok (.invokestatic 23, 3) := do_184 0 23 (byt_at bX8_start_0 (j := 4) rfl) (byt_at bX8_start_0 (j := 5) rfl) (byt_at bX8_start_0 (j := 6) rfl)
theorem dX8_start_7 : decode cX8_start 7 = .ok (.putfield 29, 3) := do_181 0 29 (byt_at bX8_start_0 (j := 7) rfl) (byt_at bX8_start_0 (j := 8) rfl) (byt_at bX8_start_0 (j := 9) rfl)
theorem dX8_start_10 : decode cX8_start 10 = .ok (.aload_n 0, 1) := do_42 (byt_at bX8_start_0 (j := 10) rfl)
theorem dX8_start_11 : decode cX8_start 11 = .ok (.iload_n 2, 1) := do_28 (byt_at bX8_start_0 (j := 11) rfl)
theorem dX8_start_12 : decode cX8_start 12 = .ok (.bipush 18, 2) := do_16 18 (byt_at bX8_start_0 (j := 12) rfl) (byt_at bX8_start_0 (j := 13) rfl) (by decide)
theorem bX8_start_1 : ((bys cX8_start).drop 16).take 16 = [23, 181, 0, 33, 42, 29, 16, 12, 184, 0, 23, 181, 0, 36, 42, 10] := by decide +kernel
theorem dX8_start_14 : decode cX8_start 14 = .ok (.invokestatic 23, 3) := do_184 0 23 (byt_at bX8_start_0 (j := 14) rfl) (byt_at bX8_start_0 (j := 15) rfl) (byt_at bX8_start_1 (j := 0) rfl)
theorem dX8_start_17 : decode cX8_start 17 = .ok (.putfield 33, 3) := do_181 0 33 (byt_at bX8_start_1 (j := 1) rfl) (byt_at bX8_start_1 (j := 2) rfl) (byt_at bX8_start_1 (j := 3) rfl)
theorem dX8_start_20 : decode cX8_start 20 = .ok (.aload_n 0, 1) := do_42 (byt_at bX8_start_1 (j := 4) rfl)
theorem dX8_start_21 : decode cX8_start 21 = .ok (.iload_n 3, 1) := do_29 (byt_at bX8_start_1 (j := 5) rfl)
theorem dX8_start_22 : decode cX8_start 22 = .ok (.bipush 12, 2) := do_16 12 (byt_at bX8_start_1 (j := 6) rfl) (byt_at bX8_start_1 (j := 7) rfl) (by decide)
theorem dX8_start_24 : decode cX8_start 24 = .ok (.invokestatic 23, 3) := do_184 0 23 (byt_at bX8_start_1 (j := 8) rfl) (byt_at bX8_start_1 (j := 9) rfl) (byt_at bX8_start_1 (j := 10) rfl)
theorem dX8_start_27 : decode cX8_start 27 = .ok (.putfield 36, 3) := do_181 0 36 (byt_at bX8_start_1 (j := 11) rfl) (byt_at bX8_start_1 (j := 12) rfl) (byt_at bX8_start_1 (j := 13) rfl)
theorem dX8_start_30 : decode cX8_start 30 = .ok (.aload_n 0, 1) := do_42 (byt_at bX8_start_1 (j := 14) rfl)
theorem dX8_start_31 : decode cX8_start 31 = .ok (.lconst 1, 1) := do_10 (byt_at bX8_start_1 (j := 15) rfl)
theorem bX8_start_2 : ((bys cX8_start).drop 32).take 16 = [181, 0, 39, 3, 54, 4, 21, 4, 42, 180, 0, 33, 162, 0, 34, 42] := by decide +kernel
theorem dX8_start_32 : decode cX8_start 32 = .ok (.putfield 39, 3) := do_181 0 39 (byt_at bX8_start_2 (j := 0) rfl) (byt_at bX8_start_2 (j := 1) rfl) (byt_at bX8_start_2 (j := 2) rfl)
theorem dX8_start_35 : decode cX8_start 35 = .ok (.iconst 0, 1) := do_3 (byt_at bX8_start_2 (j := 3) rfl)
theorem dX8_start_36 : decode cX8_start 36 = .ok (.istore 4, 2) := do_54 4 (byt_at bX8_start_2 (j := 4) rfl) (byt_at bX8_start_2 (j := 5) rfl)
theorem dX8_start_38 : decode cX8_start 38 = .ok (.iload 4, 2) := do_21 4 (byt_at bX8_start_2 (j := 6) rfl) (byt_at bX8_start_2 (j := 7) rfl)
theorem dX8_start_40 : decode cX8_start 40 = .ok (.aload_n 0, 1) := do_42 (byt_at bX8_start_2 (j := 8) rfl)
theorem dX8_start_41 : decode cX8_start 41 = .ok (.getfield 33, 3) := do_180 0 33 (byt_at bX8_start_2 (j := 9) rfl) (byt_at bX8_start_2 (j := 10) rfl) (byt_at bX8_start_2 (j := 11) rfl)
theorem dX8_start_44 : decode cX8_start 44 = .ok (.if_icmp .ge 34, 3) := do_162 0 34 (byt_at bX8_start_2 (j := 12) rfl) (byt_at bX8_start_2 (j := 13) rfl) (byt_at bX8_start_2 (j := 14) rfl) (by decide)
theorem dX8_start_47 : decode cX8_start 47 = .ok (.aload_n 0, 1) := do_42 (byt_at bX8_start_2 (j := 15) rfl)
theorem bX8_start_3 : ((bys cX8_start).drop 48).take 16 = [180, 0, 13, 21, 4, 50, 9, 184, 0, 43, 42, 180, 0, 16, 21, 4] := by decide +kernel
theorem dX8_start_48 : decode cX8_start 48 = .ok (.getfield 13, 3) := do_180 0 13 (byt_at bX8_start_3 (j := 0) rfl) (byt_at bX8_start_3 (j := 1) rfl) (byt_at bX8_start_3 (j := 2) rfl)
theorem dX8_start_51 : decode cX8_start 51 = .ok (.iload 4, 2) := do_21 4 (byt_at bX8_start_3 (j := 3) rfl) (byt_at bX8_start_3 (j := 4) rfl)
theorem dX8_start_53 : decode cX8_start 53 = .ok (.aaload, 1) := do_50 (byt_at bX8_start_3 (j := 5) rfl)
theorem dX8_start_54 : decode cX8_start 54 = .ok (.lconst 0, 1) := do_9 (byt_at bX8_start_3 (j := 6) rfl)
theorem dX8_start_55 : decode cX8_start 55 = .ok (.invokestatic 43, 3) := do_184 0 43 (byt_at bX8_start_3 (j := 7) rfl) (byt_at bX8_start_3 (j := 8) rfl) (byt_at bX8_start_3 (j := 9) rfl)
theorem dX8_start_58 : decode cX8_start 58 = .ok (.aload_n 0, 1) := do_42 (byt_at bX8_start_3 (j := 10) rfl)
theorem dX8_start_59 : decode cX8_start 59 = .ok (.getfield 16, 3) := do_180 0 16 (byt_at bX8_start_3 (j := 11) rfl) (byt_at bX8_start_3 (j := 12) rfl) (byt_at bX8_start_3 (j := 13) rfl)
theorem dX8_start_62 : decode cX8_start 62 = .ok (.iload 4, 2) := do_21 4 (byt_at bX8_start_3 (j := 14) rfl) (byt_at bX8_start_3 (j := 15) rfl)
theorem bX8_start_4 : ((bys cX8_start).drop 64).take 16 = [42, 180, 0, 36, 21, 4, 96, 79, 132, 4, 1, 167, 255, 219, 4, 54] := by decide +kernel
theorem dX8_start_64 : decode cX8_start 64 = .ok (.aload_n 0, 1) := do_42 (byt_at bX8_start_4 (j := 0) rfl)
theorem dX8_start_65 : decode cX8_start 65 = .ok (.getfield 36, 3) := do_180 0 36 (byt_at bX8_start_4 (j := 1) rfl) (byt_at bX8_start_4 (j := 2) rfl) (byt_at bX8_start_4 (j := 3) rfl)
theorem dX8_start_68 : decode cX8_start 68 = .ok (.iload 4, 2) := do_21 4 (byt_at bX8_start_4 (j := 4) rfl) (byt_at bX8_start_4 (j := 5) rfl)
theorem dX8_start_70 : decode cX8_start 70 = .ok (.iadd, 1) := do_96 (byt_at bX8_start_4 (j := 6) rfl)
theorem dX8_start_71 : decode cX8_start 71 = .ok (.iastore, 1) := do_79 (byt_at bX8_start_4 (j := 7) rfl)
theorem dX8_start_72 : decode cX8_start 72 = .ok (.iinc 4 1, 3) := do_132 4 1 (byt_at bX8_start_4 (j := 8) rfl) (byt_at bX8_start_4 (j := 9) rfl) (byt_at bX8_start_4 (j := 10) rfl) (by decide)
theorem dX8_start_75 : decode cX8_start 75 = .ok (.goto (-37), 3) := do_167 255 219 (byt_at bX8_start_4 (j := 11) rfl) (byt_at bX8_start_4 (j := 12) rfl) (byt_at bX8_start_4 (j := 13) rfl) (by decide)
theorem dX8_start_78 : decode cX8_start 78 = .ok (.iconst 1, 1) := do_4 (byt_at bX8_start_4 (j := 14) rfl)
theorem bX8_start_5 : ((bys cX8_start).drop 80).take 16 = [4, 21, 4, 42, 180, 0, 36, 163, 0, 20, 42, 180, 0, 20, 21, 4] := by decide +kernel
theorem dX8_start_79 : decode cX8_start 79 = .ok (.istore 4, 2) := do_54 4 (byt_at bX8_start_4 (j := 15) rfl) (byt_at bX8_start_5 (j := 0) rfl)
theorem dX8_start_81 : decode cX8_start 81 = .ok (.iload 4, 2) := do_21 4 (byt_at bX8_start_5 (j := 1) rfl) (byt_at bX8_start_5 (j := 2) rfl)
theorem dX8_start_83 : decode cX8_start 83 = .ok (.aload_n 0, 1) := do_42 (byt_at bX8_start_5 (j := 3) rfl)
theorem dX8_start_84 : decode cX8_start 84 = .ok (.getfield 36, 3) := do_180 0 36 (byt_at bX8_start_5 (j := 4) rfl) (byt_at bX8_start_5 (j := 5) rfl) (byt_at bX8_start_5 (j := 6) rfl)
theorem dX8_start_87 : decode cX8_start 87 = .ok (.if_icmp .gt 20, 3) := do_163 0 20 (byt_at bX8_start_5 (j := 7) rfl) (byt_at bX8_start_5 (j := 8) rfl) (byt_at bX8_start_5 (j := 9) rfl) (by decide)
theorem dX8_start_90 : decode cX8_start 90 = .ok (.aload_n 0, 1) := do_42 (byt_at bX8_start_5 (j := 10) rfl)
theorem dX8_start_91 : decode cX8_start 91 = .ok (.getfield 20, 3) := do_180 0 20 (byt_at bX8_start_5 (j := 11) rfl) (byt_at bX8_start_5 (j := 12) rfl) (byt_at bX8_start_5 (j := 13) rfl)
theorem dX8_start_94 : decode cX8_start 94 = .ok (.iload 4, 2) := do_21 4 (byt_at bX8_start_5 (j := 14) rfl) (byt_at bX8_start_5 (j := 15) rfl)
theorem bX8_start_6 : ((bys cX8_start).drop 96).take 16 = [21, 4, 4, 100, 79, 132, 4, 1, 167, 255, 233, 177] := by decide +kernel
theorem dX8_start_96 : decode cX8_start 96 = .ok (.iload 4, 2) := do_21 4 (byt_at bX8_start_6 (j := 0) rfl) (byt_at bX8_start_6 (j := 1) rfl)
theorem dX8_start_98 : decode cX8_start 98 = .ok (.iconst 1, 1) := do_4 (byt_at bX8_start_6 (j := 2) rfl)
theorem dX8_start_99 : decode cX8_start 99 = .ok (.isub, 1) := do_100 (byt_at bX8_start_6 (j := 3) rfl)
theorem dX8_start_100 : decode cX8_start 100 = .ok (.iastore, 1) := do_79 (byt_at bX8_start_6 (j := 4) rfl)
theorem dX8_start_101 : decode cX8_start 101 = .ok (.iinc 4 1, 3) := do_132 4 1 (byt_at bX8_start_6 (j := 5) rfl) (byt_at bX8_start_6 (j := 6) rfl) (byt_at bX8_start_6 (j := 7) rfl) (by decide)
theorem dX8_start_104 : decode cX8_start 104 = .ok (.goto (-23), 3) := do_167 255 233 (byt_at bX8_start_6 (j := 8) rfl) (byt_at bX8_start_6 (j := 9) rfl) (byt_at bX8_start_6 (j := 10) rfl) (by decide)
theorem dX8_start_107 : decode cX8_start 107 = .ok (.return_, 1) := do_177 (byt_at bX8_start_6 (j := 11) rfl)
theorem bJ7_fill_d0a16_0 : ((bys cJ7_fill_d0a16).drop 0).take 16 = [3, 62, 42, 190, 54, 4, 29, 21, 4, 162, 0, 13, 42, 29, 31, 80] := by decide +kernel
theorem dJ7_fill_d0a16_0 : decode cJ7_fill_d0a16 0 = .ok (.iconst 0, 1) := do_3 (byt_at bJ7_fill_d0a16_0 (j := 0) rfl)
theorem dJ7_fill_d0a16_1 : decode cJ7_fill_d0a16 1 = .ok (.istore_n 3, 1) := do_62 (byt_at bJ7_fill_d0a16_0 (j := 1) rfl)
theorem dJ7_fill_d0a16_2 : decode cJ7_fill_d0a16 2 = .ok (.aload_n 0, 1) := do_42 (byt_at bJ7_fill_d0a16_0 (j := 2) rfl)
theorem dJ7_fill_d0a16_3 : decode cJ7_fill_d0a16 3 = .ok (.arraylength, 1) := do_190 (byt_at bJ7_fill_d0a16_0 (j := 3) rfl)
theorem dJ7_fill_d0a16_4 : decode cJ7_fill_d0a16 4 = .ok (.istore 4, 2) := do_54 4 (byt_at bJ7_fill_d0a16_0 (j := 4) rfl) (byt_at bJ7_fill_d0a16_0 (j := 5) rfl)
theorem dJ7_fill_d0a16_6 : decode cJ7_fill_d0a16 6 = .ok (.iload_n 3, 1) := do_29 (byt_at bJ7_fill_d0a16_0 (j := 6) rfl)
theorem dJ7_fill_d0a16_7 : decode cJ7_fill_d0a16 7 = .ok (.iload 4, 2) := do_21 4 (byt_at bJ7_fill_d0a16_0 (j := 7) rfl) (byt_at bJ7_fill_d0a16_0 (j := 8) rfl)
theorem dJ7_fill_d0a16_9 : decode cJ7_fill_d0a16 9 = .ok (.if_icmp .ge 13, 3) := do_162 0 13 (byt_at bJ7_fill_d0a16_0 (j := 9) rfl) (byt_at bJ7_fill_d0a16_0 (j := 10) rfl) (byt_at bJ7_fill_d0a16_0 (j := 11) rfl) (by decide)
theorem dJ7_fill_d0a16_12 : decode cJ7_fill_d0a16 12 = .ok (.aload_n 0, 1) := do_42 (byt_at bJ7_fill_d0a16_0 (j := 12) rfl)
theorem dJ7_fill_d0a16_13 : decode cJ7_fill_d0a16 13 = .ok (.iload_n 3, 1) := do_29 (byt_at bJ7_fill_d0a16_0 (j := 13) rfl)
theorem dJ7_fill_d0a16_14 : decode cJ7_fill_d0a16 14 = .ok (.lload_n 1, 1) := do_31 (byt_at bJ7_fill_d0a16_0 (j := 14) rfl)
theorem dJ7_fill_d0a16_15 : decode cJ7_fill_d0a16 15 = .ok (.lastore, 1) := do_80 (byt_at bJ7_fill_d0a16_0 (j := 15) rfl)
theorem bJ7_fill_d0a16_1 : ((bys cJ7_fill_d0a16).drop 16).take 16 = [132, 3, 1, 167, 255, 243, 177] := by decide +kernel
theorem dJ7_fill_d0a16_16 : decode cJ7_fill_d0a16 16 = .ok (.iinc 3 1, 3) := do_132 3 1 (byt_at bJ7_fill_d0a16_1 (j := 0) rfl) (byt_at bJ7_fill_d0a16_1 (j := 1) rfl) (byt_at bJ7_fill_d0a16_1 (j := 2) rfl) (by decide)
theorem dJ7_fill_d0a16_19 : decode cJ7_fill_d0a16 19 = .ok (.goto (-13), 3) := do_167 255 243 (byt_at bJ7_fill_d0a16_1 (j := 3) rfl) (byt_at bJ7_fill_d0a16_1 (j := 4) rfl) (byt_at bJ7_fill_d0a16_1 (j := 5) rfl) (by decide)
theorem dJ7_fill_d0a16_22 : decode cJ7_fill_d0a16 22 = .ok (.return_, 1) := do_177 (byt_at bJ7_fill_d0a16_1 (j := 6) rfl)
theorem kk_X4_listColumns_0 : Cond.fieldLink RX4 36 "PaidBySigns$LeastCost" "columns" "I" ∈ wsX4_listColumns := List.mem_cons_of_mem _ (List.mem_append_left _ (List.mem_append_left _ (List.mem_of_getElem? (i := 0) rfl)))
theorem kk_X4_listColumns_1 : Cond.fieldLink RX4 40 "PaidBySigns$LeastCost" "rooms" "I" ∈ wsX4_listColumns := List.mem_cons_of_mem _ (List.mem_append_left _ (List.mem_append_left _ (List.mem_of_getElem? (i := 1) rfl)))
theorem kk_X4_listColumns_2 : Cond.fieldLink RX4 46 "PaidBySigns$LeastCost" "hire" "LPaidBySigns$Hire;" ∈ wsX4_listColumns := List.mem_cons_of_mem _ (List.mem_append_left _ (List.mem_append_left _ (List.mem_of_getElem? (i := 2) rfl)))
theorem kk_X4_listColumns_3 : Cond.fieldLink RX4 63 "PaidBySigns$Hire" "signs" "I" ∈ wsX4_listColumns := List.mem_cons_of_mem _ (List.mem_append_left _ (List.mem_append_left _ (List.mem_of_getElem? (i := 3) rfl)))
theorem kk_X4_listColumns_4 : Cond.fieldLink RX4 50 "PaidBySigns$LeastCost" "work" "I" ∈ wsX4_listColumns := List.mem_cons_of_mem _ (List.mem_append_left _ (List.mem_append_left _ (List.mem_of_getElem? (i := 4) rfl)))
theorem kk_X8_start_0 : Cond.methodLink RX8 23 Lib.Math.min.name ∈ wsX8_start := List.mem_cons_of_mem _ (List.mem_append_left _ (List.mem_of_getElem? (i := 0) rfl))
theorem kk_X8_start_1 : Cond.static Lib.Math.min.name ∈ wsX8_start := List.mem_cons_of_mem _ (List.mem_append_left _ (List.mem_of_getElem? (i := 1) rfl))
theorem kk_X8_start_2 : Cond.initialized "java/lang/Math" ∈ wsX8_start := List.mem_cons_of_mem _ (List.mem_append_left _ (List.mem_of_getElem? (i := 2) rfl))
theorem kk_X8_start_3 : Cond.code Lib.Math.min.name Lib.Math.min.code 2 (some .int) ∈ wsX8_start := List.mem_cons_of_mem _ (List.mem_append_left _ (List.mem_of_getElem? (i := 3) rfl))
theorem kk_X8_start_4 : Cond.fieldLink RX8 29 "PaidBySigns$Table" "goals" "I" ∈ wsX8_start := List.mem_cons_of_mem _ (List.mem_append_left _ (List.mem_of_getElem? (i := 4) rfl))
theorem kk_X8_start_5 : Cond.fieldLink RX8 33 "PaidBySigns$Table" "lines" "I" ∈ wsX8_start := List.mem_cons_of_mem _ (List.mem_append_left _ (List.mem_of_getElem? (i := 5) rfl))
theorem kk_X8_start_6 : Cond.fieldLink RX8 36 "PaidBySigns$Table" "columns" "I" ∈ wsX8_start := List.mem_cons_of_mem _ (List.mem_append_left _ (List.mem_of_getElem? (i := 6) rfl))
theorem kk_X8_start_7 : Cond.fieldLink RX8 39 "PaidBySigns$Table" "base" "J" ∈ wsX8_start := List.mem_cons_of_mem _ (List.mem_append_left _ (List.mem_of_getElem? (i := 7) rfl))
theorem kk_X8_start_8 : Cond.fieldLink RX8 20 "PaidBySigns$Table" "columnName" "[I" ∈ wsX8_start := List.mem_cons_of_mem _ (List.mem_append_left _ (List.mem_of_getElem? (i := 10) rfl))
theorem kk_X8_start_9 : Cond.fieldLink RX8 13 "PaidBySigns$Table" "entry" "[[J" ∈ wsX8_start := List.mem_cons_of_mem _ (List.mem_append_left _ (List.mem_of_getElem? (i := 8) rfl))
theorem kk_X8_start_10 : Cond.fieldLink RX8 16 "PaidBySigns$Table" "lineName" "[I" ∈ wsX8_start := List.mem_cons_of_mem _ (List.mem_append_left _ (List.mem_of_getElem? (i := 9) rfl))
theorem kk_X4_fillGoals_0 : Cond.fieldLink RX4 36 "PaidBySigns$LeastCost" "columns" "I" ∈ wsX4_fillGoals := List.mem_cons_of_mem _ (List.mem_append_left _ (List.mem_append_left _ (List.mem_append_left _ (List.mem_of_getElem? (i := 0) rfl))))
theorem kk_X4_fillGoals_1 : Cond.fieldLink RX4 26 "PaidBySigns$LeastCost" "columnSign" "[I" ∈ wsX4_fillGoals := List.mem_cons_of_mem _ (List.mem_append_left _ (List.mem_append_left _ (List.mem_append_left _ (List.mem_of_getElem? (i := 1) rfl))))
theorem kk_X4_partsOf_0 : Cond.fieldLink RX4 30 "PaidBySigns$LeastCost" "columnRate" "[I" ∈ wsX4_partsOf := List.mem_cons_of_mem _ (List.mem_append_left _ (List.mem_of_getElem? (i := 0) rfl))
theorem kk_X4_fillGoals_2 : Cond.fieldLink RX4 22 "PaidBySigns$LeastCost" "table" "LPaidBySigns$Table;" ∈ wsX4_fillGoals := List.mem_cons_of_mem _ (List.mem_append_left _ (List.mem_append_left _ (List.mem_append_left _ (List.mem_of_getElem? (i := 2) rfl))))
theorem kk_X4_fillGoals_3 : Cond.fieldLink RX4 132 "PaidBySigns$Table" "entry" "[[J" ∈ wsX4_fillGoals := List.mem_cons_of_mem _ (List.mem_append_left _ (List.mem_append_left _ (List.mem_append_left _ (List.mem_of_getElem? (i := 3) rfl))))
theorem kk_X4_fillGoals_4 : Cond.fieldLink RX4 50 "PaidBySigns$LeastCost" "work" "I" ∈ wsX4_fillGoals := List.mem_cons_of_mem _ (List.mem_append_left _ (List.mem_append_left _ (List.mem_append_left _ (List.mem_of_getElem? (i := 4) rfl))))
theorem iw_X4_listColumns_X4 : ∀ w ∈ wsX40, w ∈ wsX4_listColumns := fun _ h => List.mem_cons_of_mem _ (List.mem_append_left _ (List.mem_append_right _ h))
theorem iw_X4_listColumns_X3 : ∀ w ∈ wsX30, w ∈ wsX4_listColumns := fun _ h => List.mem_cons_of_mem _ (List.mem_append_right _ h)
theorem iw_X8_start_X8 : ∀ w ∈ wsX80, w ∈ wsX8_start := fun _ h => List.mem_cons_of_mem _ (List.mem_append_right _ h)
theorem iw_X4_fillGoals_X4 : ∀ w ∈ wsX40, w ∈ wsX4_fillGoals := fun _ h => List.mem_cons_of_mem _ (List.mem_append_left _ (List.mem_append_left _ (List.mem_append_right _ h)))
theorem iw_X4_partsOf_X4 : ∀ w ∈ wsX40, w ∈ wsX4_partsOf := fun _ h => List.mem_cons_of_mem _ (List.mem_append_right _ h)
theorem iw_X4_fillGoals_X8 : ∀ w ∈ wsX80, w ∈ wsX4_fillGoals := fun _ h => List.mem_cons_of_mem _ (List.mem_append_left _ (List.mem_append_right _ h))
