abbrev cX2_init : ByteArray := prog_4_method_1_code
def yX2_init : MethodName := ⟨RX2, "<init>", "()V"⟩
abbrev cX3_init : ByteArray := prog_5_method_1_code
def yX3_init : MethodName := ⟨RX3, "<init>", "()V"⟩
abbrev cX7_init : ByteArray := prog_9_method_1_code
def yX7_init : MethodName := ⟨RX7, "<init>", "()V"⟩
abbrev cX8_init : ByteArray := prog_10_method_1_code
def yX8_init : MethodName := ⟨RX8, "<init>", "()V"⟩
def wsX2_init : List Cond := .code yX2_init cX2_init 1 none :: ([.methodLink RX2 3 objectInit, .instanceMethod objectInit, .code objectInit ⟨#[0xb1]⟩ 1 none, .constantLong RX2 9 (-2000000000), .fieldLink RX2 11 "PaidBySigns$Fraction" "upper" "J", .fieldLink RX2 17 "PaidBySigns$Fraction" "lower" "J"] ++ wsX20)
def wsX3_init : List Cond := .code yX3_init cX3_init 1 none :: ([.methodLink RX3 3 objectInit, .instanceMethod objectInit, .code objectInit ⟨#[0xb1]⟩ 1 none, .arrayClass .int, .fieldLink RX3 9 "PaidBySigns$Hire" "brings" "[I", .fieldLink RX3 15 "PaidBySigns$Hire" "costs" "[I", .classLink RX3 18 "[[I", .fieldLink RX3 20 "PaidBySigns$Hire" "chances" "[[I", .fieldLink RX3 23 "PaidBySigns$Hire" "rate" "[I", .fieldLink RX3 26 "PaidBySigns$Hire" "mark" "[I", .methodLink RX3 29 yX3_clear, .instanceMethod yX3_clear, .selects RX3 yX3_clear yX3_clear, .initialized RX3, .code yX3_clear cX3_clear 1 none, .fieldLink RX3 32 "PaidBySigns$Hire" "signs" "I", .fieldLink RX3 36 "PaidBySigns$Hire" "works" "I", .fieldLink RX3 39 "PaidBySigns$Hire" "whole" "I", .fieldLink RX3 42 "PaidBySigns$Hire" "otherwise" "I", .fieldLink RX3 45 "PaidBySigns$Hire" "least" "I", .fieldLink RX3 48 "PaidBySigns$Hire" "rates" "I"] ++ wsX30)
def wsX8_init : List Cond := .code yX8_init cX8_init 1 none :: ([.methodLink RX8 3 objectInit, .instanceMethod objectInit, .code objectInit ⟨#[0xb1]⟩ 1 none, .classLink RX8 11 "[[J", .arrayClass .long, .fieldLink RX8 13 "PaidBySigns$Table" "entry" "[[J", .arrayClass .int, .fieldLink RX8 16 "PaidBySigns$Table" "lineName" "[I", .fieldLink RX8 20 "PaidBySigns$Table" "columnName" "[I"] ++ wsX80)
def wsX7_init_r1 : List Cond := [Cond.methodLink RX7 3 objectInit, Cond.instanceMethod objectInit, Cond.code objectInit ⟨#[0xb1]⟩ 1 none, Cond.fieldLink RX7 9 "PaidBySigns$Reader" "length" "I", Cond.fieldLink RX7 15 "PaidBySigns$Reader" "faultKind" "I", Cond.fieldLink RX7 18 "PaidBySigns$Reader" "faultPlace" "I", Cond.classLink RX7 21 RX3, Cond.instantiable RX3 11, Cond.initialized RX3, Cond.fieldLink RX7 24 "PaidBySigns$Reader" "into" "LPaidBySigns$Hire;", Cond.arrayClass .byte, Cond.fieldLink RX7 28 "PaidBySigns$Reader" "text" "[B", Cond.fieldLink RX7 32 "PaidBySigns$Reader" "next" "I", Cond.fieldLink RX7 35 "PaidBySigns$Reader" "token" "I", Cond.fieldLink RX7 38 "PaidBySigns$Reader" "start" "I", Cond.fieldLink RX7 41 "PaidBySigns$Reader" "value" "I", Cond.arrayClass .int, Cond.fieldLink RX7 44 "PaidBySigns$Reader" "nameStart" "[I", Cond.fieldLink RX7 48 "PaidBySigns$Reader" "nameEnd" "[I", Cond.fieldLink RX7 51 "PaidBySigns$Reader" "hasElse" "Z", Cond.fieldLink RX7 55 "PaidBySigns$Reader" "hasLeast" "Z", Cond.fieldLink RX7 58 "PaidBySigns$Reader" "hasFeel" "Z", Cond.methodLink RX7 23 yX3_init, Cond.instanceMethod yX3_init]
def wsX7_init_r2 : List Cond := [Cond.code yX3_init cX3_init 1 none, Cond.methodLink RX3 3 objectInit, Cond.fieldLink RX3 9 "PaidBySigns$Hire" "brings" "[I", Cond.fieldLink RX3 15 "PaidBySigns$Hire" "costs" "[I", Cond.classLink RX3 18 "[[I", Cond.fieldLink RX3 20 "PaidBySigns$Hire" "chances" "[[I", Cond.fieldLink RX3 23 "PaidBySigns$Hire" "rate" "[I", Cond.fieldLink RX3 26 "PaidBySigns$Hire" "mark" "[I", Cond.methodLink RX3 29 yX3_clear, Cond.instanceMethod yX3_clear, Cond.selects RX3 yX3_clear yX3_clear, Cond.code yX3_clear cX3_clear 1 none, Cond.fieldLink RX3 32 "PaidBySigns$Hire" "signs" "I", Cond.fieldLink RX3 36 "PaidBySigns$Hire" "works" "I", Cond.fieldLink RX3 39 "PaidBySigns$Hire" "whole" "I", Cond.fieldLink RX3 42 "PaidBySigns$Hire" "otherwise" "I", Cond.fieldLink RX3 45 "PaidBySigns$Hire" "least" "I", Cond.fieldLink RX3 48 "PaidBySigns$Hire" "rates" "I"]
def wsX7_init : List Cond := .code yX7_init cX7_init 1 none :: ((wsX7_init_r1 ++ wsX7_init_r2) ++ wsX70 ++ wsX30)
theorem bX2_init_0 : ((bys cX2_init).drop 0).take 16 = [42, 183, 0, 3, 42, 20, 0, 9, 181, 0, 11, 42, 9, 181, 0, 17] := by decide +kernel
theorem dX2_init_0 : decode cX2_init 0 = .ok (.aload_n 0, 1) := do_42 (byt_at bX2_init_0 (j := 0) rfl)
theorem dX2_init_1 : decode cX2_init 1 = .ok (.invokespecial 3, 3) := do_183 0 3 (byt_at bX2_init_0 (j := 1) rfl) (byt_at bX2_init_0 (j := 2) rfl) (byt_at bX2_init_0 (j := 3) rfl)
theorem dX2_init_4 : decode cX2_init 4 = .ok (.aload_n 0, 1) := do_42 (byt_at bX2_init_0 (j := 4) rfl)
theorem dX2_init_5 : decode cX2_init 5 = .ok (.ldc2_w 9, 3) := do_20 0 9 (byt_at bX2_init_0 (j := 5) rfl) (byt_at bX2_init_0 (j := 6) rfl) (byt_at bX2_init_0 (j := 7) rfl)
theorem dX2_init_8 : decode cX2_init 8 = .ok (.putfield 11, 3) := do_181 0 11 (byt_at bX2_init_0 (j := 8) rfl) (byt_at bX2_init_0 (j := 9) rfl) (byt_at bX2_init_0 (j := 10) rfl)
theorem dX2_init_11 : decode cX2_init 11 = .ok (.aload_n 0, 1) := do_42 (byt_at bX2_init_0 (j := 11) rfl)
theorem dX2_init_12 : decode cX2_init 12 = .ok (.lconst 0, 1) := do_9 (byt_at bX2_init_0 (j := 12) rfl)
theorem dX2_init_13 : decode cX2_init 13 = .ok (.putfield 17, 3) := do_181 0 17 (byt_at bX2_init_0 (j := 13) rfl) (byt_at bX2_init_0 (j := 14) rfl) (byt_at bX2_init_0 (j := 15) rfl)
theorem bX2_init_1 : ((bys cX2_init).drop 16).take 16 = [177] := by decide +kernel
theorem dX2_init_16 : decode cX2_init 16 = .ok (.return_, 1) := do_177 (byt_at bX2_init_1 (j := 0) rfl)
set_option maxRecDepth 20000 in
theorem ggX3_init_X3_clear : GoodIn wsX3_init wsX3_clear := goodIn_sub (List.forall_mem_cons.mpr ⟨List.mem_cons_of_mem _ (List.mem_append_left _ (List.mem_of_getElem? (i := 14) rfl)), List.forall_mem_append.mpr ⟨List.forall_mem_cons.mpr ⟨List.mem_cons_of_mem _ (List.mem_append_left _ (List.mem_of_getElem? (i := 15) rfl)), List.forall_mem_cons.mpr ⟨List.mem_cons_of_mem _ (List.mem_append_left _ (List.mem_of_getElem? (i := 16) rfl)), List.forall_mem_cons.mpr ⟨List.mem_cons_of_mem _ (List.mem_append_left _ (List.mem_of_getElem? (i := 17) rfl)), List.forall_mem_cons.mpr ⟨List.mem_cons_of_mem _ (List.mem_append_left _ (List.mem_of_getElem? (i := 18) rfl)), List.forall_mem_cons.mpr ⟨List.mem_cons_of_mem _ (List.mem_append_left _ (List.mem_of_getElem? (i := 19) rfl)), List.forall_mem_cons.mpr ⟨List.mem_cons_of_mem _ (List.mem_append_left _ (List.mem_of_getElem? (i := 20) rfl)), List.forall_mem_cons.mpr ⟨List.mem_cons_of_mem _ (List.mem_append_left _ (List.mem_of_getElem? (i := 8) rfl)), fun _ h => absurd h List.not_mem_nil⟩⟩⟩⟩⟩⟩⟩, fun _ h => List.mem_cons_of_mem _ (List.mem_append_right _ h)⟩⟩) (by decide +kernel)
set_option maxRecDepth 20000 in
theorem gX3_init_X3_clear : GoodIn wsX3_init (wsV RX3 29 RX3 yX3_clear wsX3_clear) := goodIn_app (goodIn_sub (List.forall_mem_cons.mpr ⟨List.mem_cons_of_mem _ (List.mem_append_left _ (List.mem_of_getElem? (i := 10) rfl)), List.forall_mem_cons.mpr ⟨List.mem_cons_of_mem _ (List.mem_append_left _ (List.mem_of_getElem? (i := 11) rfl)), List.forall_mem_cons.mpr ⟨List.mem_cons_of_mem _ (List.mem_append_left _ (List.mem_of_getElem? (i := 12) rfl)), List.forall_mem_cons.mpr ⟨List.mem_cons_of_mem _ (List.mem_append_left _ (List.mem_of_getElem? (i := 13) rfl)), fun _ h => absurd h List.not_mem_nil⟩⟩⟩⟩) (by decide +kernel)) ggX3_init_X3_clear
theorem bX3_init_0 : ((bys cX3_init).drop 0).take 16 = [42, 183, 0, 3, 42, 7, 188, 10, 181, 0, 9, 42, 8, 188, 10, 181] := by decide +kernel
theorem dX3_init_0 : decode cX3_init 0 = .ok (.aload_n 0, 1) := do_42 (byt_at bX3_init_0 (j := 0) rfl)
theorem dX3_init_1 : decode cX3_init 1 = .ok (.invokespecial 3, 3) := do_183 0 3 (byt_at bX3_init_0 (j := 1) rfl) (byt_at bX3_init_0 (j := 2) rfl) (byt_at bX3_init_0 (j := 3) rfl)
theorem dX3_init_4 : decode cX3_init 4 = .ok (.aload_n 0, 1) := do_42 (byt_at bX3_init_0 (j := 4) rfl)
theorem dX3_init_5 : decode cX3_init 5 = .ok (.iconst 4, 1) := do_7 (byt_at bX3_init_0 (j := 5) rfl)
theorem dX3_init_6 : decode cX3_init 6 = .ok (.newarray .int, 2) := by decide +kernel
theorem dX3_init_8 : decode cX3_init 8 = .ok (.putfield 9, 3) := do_181 0 9 (byt_at bX3_init_0 (j := 8) rfl) (byt_at bX3_init_0 (j := 9) rfl) (byt_at bX3_init_0 (j := 10) rfl)
theorem dX3_init_11 : decode cX3_init 11 = .ok (.aload_n 0, 1) := do_42 (byt_at bX3_init_0 (j := 11) rfl)
theorem dX3_init_12 : decode cX3_init 12 = .ok (.iconst 5, 1) := do_8 (byt_at bX3_init_0 (j := 12) rfl)
theorem dX3_init_13 : decode cX3_init 13 = .ok (.newarray .int, 2) := by decide +kernel
theorem bX3_init_1 : ((bys cX3_init).drop 16).take 16 = [0, 15, 42, 8, 7, 197, 0, 18, 2, 181, 0, 20, 42, 6, 188, 10] := by decide +kernel
theorem dX3_init_15 : decode cX3_init 15 = .ok (.putfield 15, 3) := do_181 0 15 (byt_at bX3_init_0 (j := 15) rfl) (byt_at bX3_init_1 (j := 0) rfl) (byt_at bX3_init_1 (j := 1) rfl)
theorem dX3_init_18 : decode cX3_init 18 = .ok (.aload_n 0, 1) := do_42 (byt_at bX3_init_1 (j := 2) rfl)
theorem dX3_init_19 : decode cX3_init 19 = .ok (.iconst 5, 1) := do_8 (byt_at bX3_init_1 (j := 3) rfl)
theorem dX3_init_20 : decode cX3_init 20 = .ok (.iconst 4, 1) := do_7 (byt_at bX3_init_1 (j := 4) rfl)
theorem dX3_init_21 : decode cX3_init 21 = .ok (.multianewarray 18 2, 4) := by decide +kernel
theorem dX3_init_25 : decode cX3_init 25 = .ok (.putfield 20, 3) := do_181 0 20 (byt_at bX3_init_1 (j := 9) rfl) (byt_at bX3_init_1 (j := 10) rfl) (byt_at bX3_init_1 (j := 11) rfl)
theorem dX3_init_28 : decode cX3_init 28 = .ok (.aload_n 0, 1) := do_42 (byt_at bX3_init_1 (j := 12) rfl)
theorem dX3_init_29 : decode cX3_init 29 = .ok (.iconst 3, 1) := do_6 (byt_at bX3_init_1 (j := 13) rfl)
theorem dX3_init_30 : decode cX3_init 30 = .ok (.newarray .int, 2) := by decide +kernel
theorem bX3_init_2 : ((bys cX3_init).drop 32).take 16 = [181, 0, 23, 42, 5, 188, 10, 181, 0, 26, 42, 182, 0, 29, 177] := by decide +kernel
theorem dX3_init_32 : decode cX3_init 32 = .ok (.putfield 23, 3) := do_181 0 23 (byt_at bX3_init_2 (j := 0) rfl) (byt_at bX3_init_2 (j := 1) rfl) (byt_at bX3_init_2 (j := 2) rfl)
theorem dX3_init_35 : decode cX3_init 35 = .ok (.aload_n 0, 1) := do_42 (byt_at bX3_init_2 (j := 3) rfl)
theorem dX3_init_36 : decode cX3_init 36 = .ok (.iconst 2, 1) := do_5 (byt_at bX3_init_2 (j := 4) rfl)
theorem dX3_init_37 : decode cX3_init 37 = .ok (.newarray .int, 2) := by decide +kernel
theorem dX3_init_39 : decode cX3_init 39 = .ok (.putfield 26, 3) := do_181 0 26 (byt_at bX3_init_2 (j := 7) rfl) (byt_at bX3_init_2 (j := 8) rfl) (byt_at bX3_init_2 (j := 9) rfl)
theorem dX3_init_42 : decode cX3_init 42 = .ok (.aload_n 0, 1) := do_42 (byt_at bX3_init_2 (j := 10) rfl)
theorem dX3_init_43 : decode cX3_init 43 = .ok (.invokevirtual 29, 3) := do_182 0 29 (byt_at bX3_init_2 (j := 11) rfl) (byt_at bX3_init_2 (j := 12) rfl) (byt_at bX3_init_2 (j := 13) rfl)
theorem dX3_init_46 : decode cX3_init 46 = .ok (.return_, 1) := do_177 (byt_at bX3_init_2 (j := 14) rfl)
theorem pm_X7_init_r1 : ∀ w ∈ wsX7_init_r1, w ∈ wsX7_init := fun _ h => List.mem_cons_of_mem _ (List.mem_append_left _ (List.mem_append_left _ (List.mem_append_left _ h)))
theorem pm_X7_init_r2 : ∀ w ∈ wsX7_init_r2, w ∈ wsX7_init := fun _ h => List.mem_cons_of_mem _ (List.mem_append_left _ (List.mem_append_left _ (List.mem_append_right _ (h))))
theorem pw_X7_init_X7 : ∀ w ∈ wsX70, w ∈ wsX7_init := fun _ h => List.mem_cons_of_mem _ (List.mem_append_left _ (List.mem_append_right _ h))
theorem pw_X7_init_X3 : ∀ w ∈ wsX30, w ∈ wsX7_init := fun _ h => List.mem_cons_of_mem _ (List.mem_append_right _ h)
set_option maxRecDepth 20000 in
theorem ggX7_init_X3_init : GoodIn wsX7_init wsX3_init := goodIn_sub (List.forall_mem_cons.mpr ⟨pm_X7_init_r2 _ (List.mem_of_getElem? (i := 0) rfl), List.forall_mem_append.mpr ⟨List.forall_mem_cons.mpr ⟨pm_X7_init_r2 _ (List.mem_of_getElem? (i := 1) rfl), List.forall_mem_cons.mpr ⟨pm_X7_init_r1 _ (List.mem_of_getElem? (i := 1) rfl), List.forall_mem_cons.mpr ⟨pm_X7_init_r1 _ (List.mem_of_getElem? (i := 2) rfl), List.forall_mem_cons.mpr ⟨pm_X7_init_r1 _ (List.mem_of_getElem? (i := 16) rfl), List.forall_mem_cons.mpr ⟨pm_X7_init_r2 _ (List.mem_of_getElem? (i := 2) rfl), List.forall_mem_cons.mpr ⟨pm_X7_init_r2 _ (List.mem_of_getElem? (i := 3) rfl), List.forall_mem_cons.mpr ⟨pm_X7_init_r2 _ (List.mem_of_getElem? (i := 4) rfl), List.forall_mem_cons.mpr ⟨pm_X7_init_r2 _ (List.mem_of_getElem? (i := 5) rfl), List.forall_mem_cons.mpr ⟨pm_X7_init_r2 _ (List.mem_of_getElem? (i := 6) rfl), List.forall_mem_cons.mpr ⟨pm_X7_init_r2 _ (List.mem_of_getElem? (i := 7) rfl), List.forall_mem_cons.mpr ⟨pm_X7_init_r2 _ (List.mem_of_getElem? (i := 8) rfl), List.forall_mem_cons.mpr ⟨pm_X7_init_r2 _ (List.mem_of_getElem? (i := 9) rfl), List.forall_mem_cons.mpr ⟨pm_X7_init_r2 _ (List.mem_of_getElem? (i := 10) rfl), List.forall_mem_cons.mpr ⟨pm_X7_init_r1 _ (List.mem_of_getElem? (i := 8) rfl), List.forall_mem_cons.mpr ⟨pm_X7_init_r2 _ (List.mem_of_getElem? (i := 11) rfl), List.forall_mem_cons.mpr ⟨pm_X7_init_r2 _ (List.mem_of_getElem? (i := 12) rfl), List.forall_mem_cons.mpr ⟨pm_X7_init_r2 _ (List.mem_of_getElem? (i := 13) rfl), List.forall_mem_cons.mpr ⟨pm_X7_init_r2 _ (List.mem_of_getElem? (i := 14) rfl), List.forall_mem_cons.mpr ⟨pm_X7_init_r2 _ (List.mem_of_getElem? (i := 15) rfl), List.forall_mem_cons.mpr ⟨pm_X7_init_r2 _ (List.mem_of_getElem? (i := 16) rfl), List.forall_mem_cons.mpr ⟨pm_X7_init_r2 _ (List.mem_of_getElem? (i := 17) rfl), fun _ h => absurd h List.not_mem_nil⟩⟩⟩⟩⟩⟩⟩⟩⟩⟩⟩⟩⟩⟩⟩⟩⟩⟩⟩⟩⟩, pw_X7_init_X3⟩⟩) (by decide +kernel)
set_option maxRecDepth 20000 in
theorem gX7_init_X3_init : GoodIn wsX7_init (wsX3_init) := ggX7_init_X3_init
theorem bX7_init_0 : ((bys cX7_init).drop 0).take 16 = [42, 183, 0, 3, 42, 3, 181, 0, 9, 42, 3, 181, 0, 15, 42, 2] := by decide +kernel
theorem dX7_init_0 : decode cX7_init 0 = .ok (.aload_n 0, 1) := do_42 (byt_at bX7_init_0 (j := 0) rfl)
theorem dX7_init_1 : decode cX7_init 1 = .ok (.invokespecial 3, 3) := do_183 0 3 (byt_at bX7_init_0 (j := 1) rfl) (byt_at bX7_init_0 (j := 2) rfl) (byt_at bX7_init_0 (j := 3) rfl)
theorem dX7_init_4 : decode cX7_init 4 = .ok (.aload_n 0, 1) := do_42 (byt_at bX7_init_0 (j := 4) rfl)
theorem dX7_init_5 : decode cX7_init 5 = .ok (.iconst 0, 1) := do_3 (byt_at bX7_init_0 (j := 5) rfl)
theorem dX7_init_6 : decode cX7_init 6 = .ok (.putfield 9, 3) := do_181 0 9 (byt_at bX7_init_0 (j := 6) rfl) (byt_at bX7_init_0 (j := 7) rfl) (byt_at bX7_init_0 (j := 8) rfl)
theorem dX7_init_9 : decode cX7_init 9 = .ok (.aload_n 0, 1) := do_42 (byt_at bX7_init_0 (j := 9) rfl)
theorem dX7_init_10 : decode cX7_init 10 = .ok (.iconst 0, 1) := do_3 (byt_at bX7_init_0 (j := 10) rfl)
theorem dX7_init_11 : decode cX7_init 11 = .ok (.putfield 15, 3) := do_181 0 15 (byt_at bX7_init_0 (j := 11) rfl) (byt_at bX7_init_0 (j := 12) rfl) (byt_at bX7_init_0 (j := 13) rfl)
theorem dX7_init_14 : decode cX7_init 14 = .ok (.aload_n 0, 1) := do_42 (byt_at bX7_init_0 (j := 14) rfl)
theorem dX7_init_15 : decode cX7_init 15 = .ok (.iconst (-1), 1) := do_2 (byt_at bX7_init_0 (j := 15) rfl)
theorem bX7_init_1 : ((bys cX7_init).drop 16).take 16 = [181, 0, 18, 42, 187, 0, 21, 89, 183, 0, 23, 181, 0, 24, 42, 17] := by decide +kernel
theorem dX7_init_16 : decode cX7_init 16 = .ok (.putfield 18, 3) := do_181 0 18 (byt_at bX7_init_1 (j := 0) rfl) (byt_at bX7_init_1 (j := 1) rfl) (byt_at bX7_init_1 (j := 2) rfl)
theorem dX7_init_19 : decode cX7_init 19 = .ok (.aload_n 0, 1) := do_42 (byt_at bX7_init_1 (j := 3) rfl)
theorem dX7_init_20 : decode cX7_init 20 = .ok (.new 21, 3) := do_187 0 21 (byt_at bX7_init_1 (j := 4) rfl) (byt_at bX7_init_1 (j := 5) rfl) (byt_at bX7_init_1 (j := 6) rfl)
theorem dX7_init_23 : decode cX7_init 23 = .ok (.dup, 1) := do_89 (byt_at bX7_init_1 (j := 7) rfl)
theorem dX7_init_24 : decode cX7_init 24 = .ok (.invokespecial 23, 3) := do_183 0 23 (byt_at bX7_init_1 (j := 8) rfl) (byt_at bX7_init_1 (j := 9) rfl) (byt_at bX7_init_1 (j := 10) rfl)
theorem dX7_init_27 : decode cX7_init 27 = .ok (.putfield 24, 3) := do_181 0 24 (byt_at bX7_init_1 (j := 11) rfl) (byt_at bX7_init_1 (j := 12) rfl) (byt_at bX7_init_1 (j := 13) rfl)
theorem dX7_init_30 : decode cX7_init 30 = .ok (.aload_n 0, 1) := do_42 (byt_at bX7_init_1 (j := 14) rfl)
theorem bX7_init_2 : ((bys cX7_init).drop 32).take 16 = [3, 132, 188, 8, 181, 0, 28, 42, 3, 181, 0, 32, 42, 3, 181, 0] := by decide +kernel
theorem dX7_init_31 : decode cX7_init 31 = .ok (.sipush 900, 3) := do_17 3 132 (byt_at bX7_init_1 (j := 15) rfl) (byt_at bX7_init_2 (j := 0) rfl) (byt_at bX7_init_2 (j := 1) rfl) (by decide)
theorem dX7_init_34 : decode cX7_init 34 = .ok (.newarray .byte, 2) := by decide +kernel
theorem dX7_init_36 : decode cX7_init 36 = .ok (.putfield 28, 3) := do_181 0 28 (byt_at bX7_init_2 (j := 4) rfl) (byt_at bX7_init_2 (j := 5) rfl) (byt_at bX7_init_2 (j := 6) rfl)
theorem dX7_init_39 : decode cX7_init 39 = .ok (.aload_n 0, 1) := do_42 (byt_at bX7_init_2 (j := 7) rfl)
theorem dX7_init_40 : decode cX7_init 40 = .ok (.iconst 0, 1) := do_3 (byt_at bX7_init_2 (j := 8) rfl)
theorem dX7_init_41 : decode cX7_init 41 = .ok (.putfield 32, 3) := do_181 0 32 (byt_at bX7_init_2 (j := 9) rfl) (byt_at bX7_init_2 (j := 10) rfl) (byt_at bX7_init_2 (j := 11) rfl)
theorem dX7_init_44 : decode cX7_init 44 = .ok (.aload_n 0, 1) := do_42 (byt_at bX7_init_2 (j := 12) rfl)
theorem dX7_init_45 : decode cX7_init 45 = .ok (.iconst 0, 1) := do_3 (byt_at bX7_init_2 (j := 13) rfl)
theorem bX7_init_3 : ((bys cX7_init).drop 48).take 16 = [35, 42, 3, 181, 0, 38, 42, 3, 181, 0, 41, 42, 8, 188, 10, 181] := by decide +kernel
theorem dX7_init_46 : decode cX7_init 46 = .ok (.putfield 35, 3) := do_181 0 35 (byt_at bX7_init_2 (j := 14) rfl) (byt_at bX7_init_2 (j := 15) rfl) (byt_at bX7_init_3 (j := 0) rfl)
theorem dX7_init_49 : decode cX7_init 49 = .ok (.aload_n 0, 1) := do_42 (byt_at bX7_init_3 (j := 1) rfl)
theorem dX7_init_50 : decode cX7_init 50 = .ok (.iconst 0, 1) := do_3 (byt_at bX7_init_3 (j := 2) rfl)
theorem dX7_init_51 : decode cX7_init 51 = .ok (.putfield 38, 3) := do_181 0 38 (byt_at bX7_init_3 (j := 3) rfl) (byt_at bX7_init_3 (j := 4) rfl) (byt_at bX7_init_3 (j := 5) rfl)
theorem dX7_init_54 : decode cX7_init 54 = .ok (.aload_n 0, 1) := do_42 (byt_at bX7_init_3 (j := 6) rfl)
theorem dX7_init_55 : decode cX7_init 55 = .ok (.iconst 0, 1) := do_3 (byt_at bX7_init_3 (j := 7) rfl)
theorem dX7_init_56 : decode cX7_init 56 = .ok (.putfield 41, 3) := do_181 0 41 (byt_at bX7_init_3 (j := 8) rfl) (byt_at bX7_init_3 (j := 9) rfl) (byt_at bX7_init_3 (j := 10) rfl)
theorem dX7_init_59 : decode cX7_init 59 = .ok (.aload_n 0, 1) := do_42 (byt_at bX7_init_3 (j := 11) rfl)
theorem dX7_init_60 : decode cX7_init 60 = .ok (.iconst 5, 1) := do_8 (byt_at bX7_init_3 (j := 12) rfl)
theorem dX7_init_61 : decode cX7_init 61 = .ok (.newarray .int, 2) := by decide +kernel
theorem bX7_init_4 : ((bys cX7_init).drop 64).take 16 = [0, 44, 42, 8, 188, 10, 181, 0, 48, 42, 3, 181, 0, 51, 42, 3] := by decide +kernel
theorem dX7_init_63 : decode cX7_init 63 = .ok (.putfield 44, 3) := do_181 0 44 (byt_at bX7_init_3 (j := 15) rfl) (byt_at bX7_init_4 (j := 0) rfl) (byt_at bX7_init_4 (j := 1) rfl)
theorem dX7_init_66 : decode cX7_init 66 = .ok (.aload_n 0, 1) := do_42 (byt_at bX7_init_4 (j := 2) rfl)
theorem dX7_init_67 : decode cX7_init 67 = .ok (.iconst 5, 1) := do_8 (byt_at bX7_init_4 (j := 3) rfl)
theorem dX7_init_68 : decode cX7_init 68 = .ok (.newarray .int, 2) := by decide +kernel
theorem dX7_init_70 : decode cX7_init 70 = .ok (.putfield 48, 3) := do_181 0 48 (byt_at bX7_init_4 (j := 6) rfl) (byt_at bX7_init_4 (j := 7) rfl) (byt_at bX7_init_4 (j := 8) rfl)
theorem dX7_init_73 : decode cX7_init 73 = .ok (.aload_n 0, 1) := do_42 (byt_at bX7_init_4 (j := 9) rfl)
theorem dX7_init_74 : decode cX7_init 74 = .ok (.iconst 0, 1) := do_3 (byt_at bX7_init_4 (j := 10) rfl)
theorem dX7_init_75 : decode cX7_init 75 = .ok (.putfield 51, 3) := do_181 0 51 (byt_at bX7_init_4 (j := 11) rfl) (byt_at bX7_init_4 (j := 12) rfl) (byt_at bX7_init_4 (j := 13) rfl)
theorem dX7_init_78 : decode cX7_init 78 = .ok (.aload_n 0, 1) := do_42 (byt_at bX7_init_4 (j := 14) rfl)
theorem dX7_init_79 : decode cX7_init 79 = .ok (.iconst 0, 1) := do_3 (byt_at bX7_init_4 (j := 15) rfl)
theorem bX7_init_5 : ((bys cX7_init).drop 80).take 16 = [181, 0, 55, 42, 3, 181, 0, 58, 177] := by decide +kernel
theorem dX7_init_80 : decode cX7_init 80 = .ok (.putfield 55, 3) := do_181 0 55 (byt_at bX7_init_5 (j := 0) rfl) (byt_at bX7_init_5 (j := 1) rfl) (byt_at bX7_init_5 (j := 2) rfl)
theorem dX7_init_83 : decode cX7_init 83 = .ok (.aload_n 0, 1) := do_42 (byt_at bX7_init_5 (j := 3) rfl)
theorem dX7_init_84 : decode cX7_init 84 = .ok (.iconst 0, 1) := do_3 (byt_at bX7_init_5 (j := 4) rfl)
theorem dX7_init_85 : decode cX7_init 85 = .ok (.putfield 58, 3) := do_181 0 58 (byt_at bX7_init_5 (j := 5) rfl) (byt_at bX7_init_5 (j := 6) rfl) (byt_at bX7_init_5 (j := 7) rfl)
theorem dX7_init_88 : decode cX7_init 88 = .ok (.return_, 1) := do_177 (byt_at bX7_init_5 (j := 8) rfl)
theorem bX8_init_0 : ((bys cX8_init).drop 0).take 16 = [42, 183, 0, 3, 42, 16, 18, 16, 13, 197, 0, 11, 2, 181, 0, 13] := by decide +kernel
theorem dX8_init_0 : decode cX8_init 0 = .ok (.aload_n 0, 1) := do_42 (byt_at bX8_init_0 (j := 0) rfl)
theorem dX8_init_1 : decode cX8_init 1 = .ok (.invokespecial 3, 3) := do_183 0 3 (byt_at bX8_init_0 (j := 1) rfl) (byt_at bX8_init_0 (j := 2) rfl) (byt_at bX8_init_0 (j := 3) rfl)
theorem dX8_init_4 : decode cX8_init 4 = .ok (.aload_n 0, 1) := do_42 (byt_at bX8_init_0 (j := 4) rfl)
theorem dX8_init_5 : decode cX8_init 5 = .ok (.bipush 18, 2) := do_16 18 (byt_at bX8_init_0 (j := 5) rfl) (byt_at bX8_init_0 (j := 6) rfl) (by decide)
theorem dX8_init_7 : decode cX8_init 7 = .ok (.bipush 13, 2) := do_16 13 (byt_at bX8_init_0 (j := 7) rfl) (byt_at bX8_init_0 (j := 8) rfl) (by decide)
theorem dX8_init_9 : decode cX8_init 9 = .ok (.multianewarray 11 2, 4) := by decide +kernel
theorem dX8_init_13 : decode cX8_init 13 = .ok (.putfield 13, 3) := do_181 0 13 (byt_at bX8_init_0 (j := 13) rfl) (byt_at bX8_init_0 (j := 14) rfl) (byt_at bX8_init_0 (j := 15) rfl)
theorem bX8_init_1 : ((bys cX8_init).drop 16).take 16 = [42, 16, 18, 188, 10, 181, 0, 16, 42, 16, 13, 188, 10, 181, 0, 20] := by decide +kernel
theorem dX8_init_16 : decode cX8_init 16 = .ok (.aload_n 0, 1) := do_42 (byt_at bX8_init_1 (j := 0) rfl)
theorem dX8_init_17 : decode cX8_init 17 = .ok (.bipush 18, 2) := do_16 18 (byt_at bX8_init_1 (j := 1) rfl) (byt_at bX8_init_1 (j := 2) rfl) (by decide)
theorem dX8_init_19 : decode cX8_init 19 = .ok (.newarray .int, 2) := by decide +kernel
theorem dX8_init_21 : decode cX8_init 21 = .ok (.putfield 16, 3) := do_181 0 16 (byt_at bX8_init_1 (j := 5) rfl) (byt_at bX8_init_1 (j := 6) rfl) (byt_at bX8_init_1 (j := 7) rfl)
theorem dX8_init_24 : decode cX8_init 24 = .ok (.aload_n 0, 1) := do_42 (byt_at bX8_init_1 (j := 8) rfl)
theorem dX8_init_25 : decode cX8_init 25 = .ok (.bipush 13, 2) := do_16 13 (byt_at bX8_init_1 (j := 9) rfl) (byt_at bX8_init_1 (j := 10) rfl) (by decide)
theorem dX8_init_27 : decode cX8_init 27 = .ok (.newarray .int, 2) := by decide +kernel
theorem dX8_init_29 : decode cX8_init 29 = .ok (.putfield 20, 3) := do_181 0 20 (byt_at bX8_init_1 (j := 13) rfl) (byt_at bX8_init_1 (j := 14) rfl) (byt_at bX8_init_1 (j := 15) rfl)
theorem bX8_init_2 : ((bys cX8_init).drop 32).take 16 = [177] := by decide +kernel
theorem dX8_init_32 : decode cX8_init 32 = .ok (.return_, 1) := do_177 (byt_at bX8_init_2 (j := 0) rfl)
theorem kk_X7_init_0 : Cond.methodLink RX7 3 objectInit ∈ wsX7_init := pm_X7_init_r1 _ (List.mem_of_getElem? (i := 0) rfl)
theorem kk_X7_init_1 : Cond.instanceMethod objectInit ∈ wsX7_init := pm_X7_init_r1 _ (List.mem_of_getElem? (i := 1) rfl)
theorem kk_X7_init_2 : Cond.code objectInit ⟨#[0xb1]⟩ 1 none ∈ wsX7_init := pm_X7_init_r1 _ (List.mem_of_getElem? (i := 2) rfl)
theorem kk_X7_init_3 : Cond.fieldLink RX7 9 "PaidBySigns$Reader" "length" "I" ∈ wsX7_init := pm_X7_init_r1 _ (List.mem_of_getElem? (i := 3) rfl)
theorem kk_X7_init_4 : Cond.fieldLink RX7 15 "PaidBySigns$Reader" "faultKind" "I" ∈ wsX7_init := pm_X7_init_r1 _ (List.mem_of_getElem? (i := 4) rfl)
theorem kk_X7_init_5 : Cond.fieldLink RX7 18 "PaidBySigns$Reader" "faultPlace" "I" ∈ wsX7_init := pm_X7_init_r1 _ (List.mem_of_getElem? (i := 5) rfl)
theorem kk_X7_init_6 : Cond.classLink RX7 21 RX3 ∈ wsX7_init := pm_X7_init_r1 _ (List.mem_of_getElem? (i := 6) rfl)
theorem kk_X7_init_7 : Cond.instantiable RX3 11 ∈ wsX7_init := pm_X7_init_r1 _ (List.mem_of_getElem? (i := 7) rfl)
theorem kk_X7_init_8 : Cond.initialized RX3 ∈ wsX7_init := pm_X7_init_r1 _ (List.mem_of_getElem? (i := 8) rfl)
theorem kk_X3_init_0 : Cond.methodLink RX3 3 objectInit ∈ wsX3_init := List.mem_cons_of_mem _ (List.mem_append_left _ (List.mem_of_getElem? (i := 0) rfl))
theorem kk_X3_init_1 : Cond.instanceMethod objectInit ∈ wsX3_init := List.mem_cons_of_mem _ (List.mem_append_left _ (List.mem_of_getElem? (i := 1) rfl))
theorem kk_X3_init_2 : Cond.code objectInit ⟨#[0xb1]⟩ 1 none ∈ wsX3_init := List.mem_cons_of_mem _ (List.mem_append_left _ (List.mem_of_getElem? (i := 2) rfl))
theorem kk_X3_init_3 : Cond.arrayClass .int ∈ wsX3_init := List.mem_cons_of_mem _ (List.mem_append_left _ (List.mem_of_getElem? (i := 3) rfl))
theorem kk_X3_init_4 : Cond.fieldLink RX3 9 "PaidBySigns$Hire" "brings" "[I" ∈ wsX3_init := List.mem_cons_of_mem _ (List.mem_append_left _ (List.mem_of_getElem? (i := 4) rfl))
theorem kk_X3_init_5 : Cond.fieldLink RX3 15 "PaidBySigns$Hire" "costs" "[I" ∈ wsX3_init := List.mem_cons_of_mem _ (List.mem_append_left _ (List.mem_of_getElem? (i := 5) rfl))
theorem kk_X3_init_6 : Cond.classLink RX3 18 "[[I" ∈ wsX3_init := List.mem_cons_of_mem _ (List.mem_append_left _ (List.mem_of_getElem? (i := 6) rfl))
theorem kk_X3_init_7 : Cond.fieldLink RX3 20 "PaidBySigns$Hire" "chances" "[[I" ∈ wsX3_init := List.mem_cons_of_mem _ (List.mem_append_left _ (List.mem_of_getElem? (i := 7) rfl))
theorem kk_X3_init_8 : Cond.fieldLink RX3 23 "PaidBySigns$Hire" "rate" "[I" ∈ wsX3_init := List.mem_cons_of_mem _ (List.mem_append_left _ (List.mem_of_getElem? (i := 8) rfl))
theorem kk_X3_init_9 : Cond.fieldLink RX3 26 "PaidBySigns$Hire" "mark" "[I" ∈ wsX3_init := List.mem_cons_of_mem _ (List.mem_append_left _ (List.mem_of_getElem? (i := 9) rfl))
theorem kk_X7_init_9 : Cond.methodLink RX7 23 yX3_init ∈ wsX7_init := pm_X7_init_r1 _ (List.mem_of_getElem? (i := 22) rfl)
theorem kk_X7_init_10 : Cond.instanceMethod yX3_init ∈ wsX7_init := pm_X7_init_r1 _ (List.mem_of_getElem? (i := 23) rfl)
theorem kk_X7_init_11 : Cond.fieldLink RX7 24 "PaidBySigns$Reader" "into" "LPaidBySigns$Hire;" ∈ wsX7_init := pm_X7_init_r1 _ (List.mem_of_getElem? (i := 9) rfl)
theorem kk_X7_init_12 : Cond.arrayClass .byte ∈ wsX7_init := pm_X7_init_r1 _ (List.mem_of_getElem? (i := 10) rfl)
theorem kk_X7_init_13 : Cond.fieldLink RX7 28 "PaidBySigns$Reader" "text" "[B" ∈ wsX7_init := pm_X7_init_r1 _ (List.mem_of_getElem? (i := 11) rfl)
theorem kk_X7_init_14 : Cond.fieldLink RX7 32 "PaidBySigns$Reader" "next" "I" ∈ wsX7_init := pm_X7_init_r1 _ (List.mem_of_getElem? (i := 12) rfl)
theorem kk_X7_init_15 : Cond.fieldLink RX7 35 "PaidBySigns$Reader" "token" "I" ∈ wsX7_init := pm_X7_init_r1 _ (List.mem_of_getElem? (i := 13) rfl)
theorem kk_X7_init_16 : Cond.fieldLink RX7 38 "PaidBySigns$Reader" "start" "I" ∈ wsX7_init := pm_X7_init_r1 _ (List.mem_of_getElem? (i := 14) rfl)
theorem kk_X7_init_17 : Cond.fieldLink RX7 41 "PaidBySigns$Reader" "value" "I" ∈ wsX7_init := pm_X7_init_r1 _ (List.mem_of_getElem? (i := 15) rfl)
theorem kk_X7_init_18 : Cond.arrayClass .int ∈ wsX7_init := pm_X7_init_r1 _ (List.mem_of_getElem? (i := 16) rfl)
theorem kk_X7_init_19 : Cond.fieldLink RX7 44 "PaidBySigns$Reader" "nameStart" "[I" ∈ wsX7_init := pm_X7_init_r1 _ (List.mem_of_getElem? (i := 17) rfl)
theorem kk_X7_init_20 : Cond.fieldLink RX7 48 "PaidBySigns$Reader" "nameEnd" "[I" ∈ wsX7_init := pm_X7_init_r1 _ (List.mem_of_getElem? (i := 18) rfl)
theorem kk_X7_init_21 : Cond.fieldLink RX7 51 "PaidBySigns$Reader" "hasElse" "Z" ∈ wsX7_init := pm_X7_init_r1 _ (List.mem_of_getElem? (i := 19) rfl)
theorem kk_X7_init_22 : Cond.fieldLink RX7 55 "PaidBySigns$Reader" "hasLeast" "Z" ∈ wsX7_init := pm_X7_init_r1 _ (List.mem_of_getElem? (i := 20) rfl)
theorem kk_X7_init_23 : Cond.fieldLink RX7 58 "PaidBySigns$Reader" "hasFeel" "Z" ∈ wsX7_init := pm_X7_init_r1 _ (List.mem_of_getElem? (i := 21) rfl)
theorem kk_X2_init_0 : Cond.methodLink RX2 3 objectInit ∈ wsX2_init := List.mem_cons_of_mem _ (List.mem_append_left _ (List.mem_of_getElem? (i := 0) rfl))
theorem kk_X2_init_1 : Cond.instanceMethod objectInit ∈ wsX2_init := List.mem_cons_of_mem _ (List.mem_append_left _ (List.mem_of_getElem? (i := 1) rfl))
theorem kk_X2_init_2 : Cond.code objectInit ⟨#[0xb1]⟩ 1 none ∈ wsX2_init := List.mem_cons_of_mem _ (List.mem_append_left _ (List.mem_of_getElem? (i := 2) rfl))
theorem kk_X2_init_3 : Cond.constantLong RX2 9 (-2000000000) ∈ wsX2_init := List.mem_cons_of_mem _ (List.mem_append_left _ (List.mem_of_getElem? (i := 3) rfl))
theorem kk_X2_init_4 : Cond.fieldLink RX2 11 "PaidBySigns$Fraction" "upper" "J" ∈ wsX2_init := List.mem_cons_of_mem _ (List.mem_append_left _ (List.mem_of_getElem? (i := 4) rfl))
theorem kk_X2_init_5 : Cond.fieldLink RX2 17 "PaidBySigns$Fraction" "lower" "J" ∈ wsX2_init := List.mem_cons_of_mem _ (List.mem_append_left _ (List.mem_of_getElem? (i := 5) rfl))
theorem kk_X8_init_0 : Cond.methodLink RX8 3 objectInit ∈ wsX8_init := List.mem_cons_of_mem _ (List.mem_append_left _ (List.mem_of_getElem? (i := 0) rfl))
theorem kk_X8_init_1 : Cond.instanceMethod objectInit ∈ wsX8_init := List.mem_cons_of_mem _ (List.mem_append_left _ (List.mem_of_getElem? (i := 1) rfl))
theorem kk_X8_init_2 : Cond.code objectInit ⟨#[0xb1]⟩ 1 none ∈ wsX8_init := List.mem_cons_of_mem _ (List.mem_append_left _ (List.mem_of_getElem? (i := 2) rfl))
theorem kk_X8_init_3 : Cond.classLink RX8 11 "[[J" ∈ wsX8_init := List.mem_cons_of_mem _ (List.mem_append_left _ (List.mem_of_getElem? (i := 3) rfl))
theorem kk_X8_init_4 : Cond.arrayClass .long ∈ wsX8_init := List.mem_cons_of_mem _ (List.mem_append_left _ (List.mem_of_getElem? (i := 4) rfl))
theorem kk_X8_init_5 : Cond.fieldLink RX8 13 "PaidBySigns$Table" "entry" "[[J" ∈ wsX8_init := List.mem_cons_of_mem _ (List.mem_append_left _ (List.mem_of_getElem? (i := 5) rfl))
theorem kk_X8_init_6 : Cond.arrayClass .int ∈ wsX8_init := List.mem_cons_of_mem _ (List.mem_append_left _ (List.mem_of_getElem? (i := 6) rfl))
theorem kk_X8_init_7 : Cond.fieldLink RX8 16 "PaidBySigns$Table" "lineName" "[I" ∈ wsX8_init := List.mem_cons_of_mem _ (List.mem_append_left _ (List.mem_of_getElem? (i := 7) rfl))
theorem kk_X8_init_8 : Cond.fieldLink RX8 20 "PaidBySigns$Table" "columnName" "[I" ∈ wsX8_init := List.mem_cons_of_mem _ (List.mem_append_left _ (List.mem_of_getElem? (i := 8) rfl))
theorem iw_X7_init_X7 : ∀ w ∈ wsX70, w ∈ wsX7_init := pw_X7_init_X7
theorem iw_X7_init_X3 : ∀ w ∈ wsX30, w ∈ wsX7_init := pw_X7_init_X3
theorem iw_X3_init_X3 : ∀ w ∈ wsX30, w ∈ wsX3_init := fun _ h => List.mem_cons_of_mem _ (List.mem_append_right _ h)
theorem iw_X2_init_X2 : ∀ w ∈ wsX20, w ∈ wsX2_init := fun _ h => List.mem_cons_of_mem _ (List.mem_append_right _ h)
theorem iw_X8_init_X8 : ∀ w ∈ wsX80, w ∈ wsX8_init := fun _ h => List.mem_cons_of_mem _ (List.mem_append_right _ h)
