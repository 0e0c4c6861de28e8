abbrev cX0_init : ByteArray := prog_2_method_1_code
def yX0_init : MethodName := ⟨RX0, "<init>", "()V"⟩
abbrev cX4_init : ByteArray := prog_6_method_1_code
def yX4_init : MethodName := ⟨RX4, "<init>", "()V"⟩
abbrev cX5_init : ByteArray := prog_7_method_1_code
def yX5_init : MethodName := ⟨RX5, "<init>", "()V"⟩
abbrev cX6_init : ByteArray := prog_8_method_1_code
def yX6_init : MethodName := ⟨RX6, "<init>", "()V"⟩
def wsX0_init : List Cond := .code yX0_init cX0_init 1 none :: ([.methodLink RX0 3 objectInit, .instanceMethod objectInit, .code objectInit ⟨#[0xb1]⟩ 1 none, .arrayClass .int, .fieldLink RX0 9 "PaidBySigns$CoinSearch" "chosen" "[I", .constant RX0 15 (1000000), .fieldLink RX0 16 "PaidBySigns$CoinSearch" "bestCost" "I", .fieldLink RX0 20 "PaidBySigns$CoinSearch" "felt" "[I", .fieldLink RX0 23 "PaidBySigns$CoinSearch" "own" "[I", .classLink RX0 26 "[[I", .fieldLink RX0 28 "PaidBySigns$CoinSearch" "share" "[[I", .fieldLink RX0 31 "PaidBySigns$CoinSearch" "rest" "[[I", .fieldLink RX0 34 "PaidBySigns$CoinSearch" "left" "[[I", .fieldLink RX0 37 "PaidBySigns$CoinSearch" "tried" "[I"] ++ wsX00)
def wsX4_init_r1 : List Cond := [Cond.methodLink RX4 3 objectInit, Cond.instanceMethod objectInit, Cond.code objectInit ⟨#[0xb1]⟩ 1 none, Cond.arrayClass .long, Cond.fieldLink RX4 9 "PaidBySigns$LeastCost" "above" "[J", Cond.fieldLink RX4 15 "PaidBySigns$LeastCost" "aboveLower" "J", Cond.classLink RX4 19 RX8, Cond.instantiable RX8 7, Cond.initialized RX8, Cond.fieldLink RX4 22 "PaidBySigns$LeastCost" "table" "LPaidBySigns$Table;", Cond.arrayClass .int, Cond.fieldLink RX4 26 "PaidBySigns$LeastCost" "columnSign" "[I", Cond.fieldLink RX4 30 "PaidBySigns$LeastCost" "columnRate" "[I", Cond.fieldLink RX4 33 "PaidBySigns$LeastCost" "columnRoom" "[I", Cond.fieldLink RX4 36 "PaidBySigns$LeastCost" "columns" "I", Cond.fieldLink RX4 40 "PaidBySigns$LeastCost" "rooms" "I", Cond.classLink RX4 43 RX3, Cond.instantiable RX3 11, Cond.initialized RX3, Cond.fieldLink RX4 46 "PaidBySigns$LeastCost" "hire" "LPaidBySigns$Hire;", Cond.fieldLink RX4 50 "PaidBySigns$LeastCost" "work" "I", Cond.fieldLink RX4 53 "PaidBySigns$LeastCost" "keptSign" "I", Cond.fieldLink RX4 56 "PaidBySigns$LeastCost" "joinedSign" "I", Cond.methodLink RX4 21 yX8_init]
def wsX4_init_r2 : List Cond := [Cond.instanceMethod yX8_init, Cond.code yX8_init cX8_init 1 none, Cond.methodLink RX8 3 objectInit, Cond.classLink RX8 11 "[[J", Cond.fieldLink RX8 13 "PaidBySigns$Table" "entry" "[[J", Cond.fieldLink RX8 16 "PaidBySigns$Table" "lineName" "[I", Cond.fieldLink RX8 20 "PaidBySigns$Table" "columnName" "[I", Cond.methodLink RX4 45 yX3_init, Cond.instanceMethod yX3_init, Cond.code yX3_init cX3_init 1 none, Cond.methodLink RX3 3 objectInit, Cond.fieldLink RX3 9 "PaidBySigns$Hire" "brings" "[I", Cond.fieldLink RX3 15 "PaidBySigns$Hire" "costs" "[I", Cond.classLink RX3 18 "[[I", Cond.fieldLink RX3 20 "PaidBySigns$Hire" "chances" "[[I", Cond.fieldLink RX3 23 "PaidBySigns$Hire" "rate" "[I", Cond.fieldLink RX3 26 "PaidBySigns$Hire" "mark" "[I", Cond.methodLink RX3 29 yX3_clear, Cond.instanceMethod yX3_clear, Cond.selects RX3 yX3_clear yX3_clear, Cond.code yX3_clear cX3_clear 1 none, Cond.fieldLink RX3 32 "PaidBySigns$Hire" "signs" "I", Cond.fieldLink RX3 36 "PaidBySigns$Hire" "works" "I", Cond.fieldLink RX3 39 "PaidBySigns$Hire" "whole" "I"]
def wsX4_init_r3 : List Cond := [Cond.fieldLink RX3 42 "PaidBySigns$Hire" "otherwise" "I", Cond.fieldLink RX3 45 "PaidBySigns$Hire" "least" "I", Cond.fieldLink RX3 48 "PaidBySigns$Hire" "rates" "I"]
def wsX4_init : List Cond := .code yX4_init cX4_init 1 none :: ((wsX4_init_r1 ++ (wsX4_init_r2 ++ wsX4_init_r3)) ++ wsX40 ++ wsX80 ++ wsX30)
def wsX5_init : List Cond := .code yX5_init cX5_init 1 none :: ([.methodLink RX5 1 objectInit, .instanceMethod objectInit, .code objectInit ⟨#[0xb1]⟩ 1 none])
def wsX6_init : List Cond := .code yX6_init cX6_init 1 none :: ([.methodLink RX6 3 objectInit, .instanceMethod objectInit, .code objectInit ⟨#[0xb1]⟩ 1 none, .fieldLink RX6 9 "PaidBySigns$Proofs" "lowerNumber" "I", .arrayClass .int, .fieldLink RX6 15 "PaidBySigns$Proofs" "press" "[I", .fieldLink RX6 19 "PaidBySigns$Proofs" "pressOfElse" "I", .fieldLink RX6 22 "PaidBySigns$Proofs" "mixed" "[I"] ++ wsX60)
theorem bX0_init_0 : ((bys cX0_init).drop 0).take 16 = [42, 183, 0, 3, 42, 7, 188, 10, 181, 0, 9, 42, 18, 15, 181, 0] := by decide +kernel
theorem dX0_init_0 : decode cX0_init 0 = .ok (.aload_n 0, 1) := do_42 (byt_at bX0_init_0 (j := 0) rfl)
theorem dX0_init_1 : decode cX0_init 1 = .ok (.invokespecial 3, 3) := do_183 0 3 (byt_at bX0_init_0 (j := 1) rfl) (byt_at bX0_init_0 (j := 2) rfl) (byt_at bX0_init_0 (j := 3) rfl)
theorem dX0_init_4 : decode cX0_init 4 = .ok (.aload_n 0, 1) := do_42 (byt_at bX0_init_0 (j := 4) rfl)
theorem dX0_init_5 : decode cX0_init 5 = .ok (.iconst 4, 1) := do_7 (byt_at bX0_init_0 (j := 5) rfl)
theorem dX0_init_6 : decode cX0_init 6 = .ok (.newarray .int, 2) := by decide +kernel
theorem dX0_init_8 : decode cX0_init 8 = .ok (.putfield 9, 3) := do_181 0 9 (byt_at bX0_init_0 (j := 8) rfl) (byt_at bX0_init_0 (j := 9) rfl) (byt_at bX0_init_0 (j := 10) rfl)
theorem dX0_init_11 : decode cX0_init 11 = .ok (.aload_n 0, 1) := do_42 (byt_at bX0_init_0 (j := 11) rfl)
theorem dX0_init_12 : decode cX0_init 12 = .ok (.ldc 15, 2) := do_18 15 (byt_at bX0_init_0 (j := 12) rfl) (byt_at bX0_init_0 (j := 13) rfl)
theorem bX0_init_1 : ((bys cX0_init).drop 16).take 16 = [16, 42, 16, 21, 188, 10, 181, 0, 20, 42, 7, 188, 10, 181, 0, 23] := by decide +kernel
theorem dX0_init_14 : decode cX0_init 14 = .ok (.putfield 16, 3) := do_181 0 16 (byt_at bX0_init_0 (j := 14) rfl) (byt_at bX0_init_0 (j := 15) rfl) (byt_at bX0_init_1 (j := 0) rfl)
theorem dX0_init_17 : decode cX0_init 17 = .ok (.aload_n 0, 1) := do_42 (byt_at bX0_init_1 (j := 1) rfl)
theorem dX0_init_18 : decode cX0_init 18 = .ok (.bipush 21, 2) := do_16 21 (byt_at bX0_init_1 (j := 2) rfl) (byt_at bX0_init_1 (j := 3) rfl) (by decide)
theorem dX0_init_20 : decode cX0_init 20 = .ok (.newarray .int, 2) := by decide +kernel
theorem dX0_init_22 : decode cX0_init 22 = .ok (.putfield 20, 3) := do_181 0 20 (byt_at bX0_init_1 (j := 6) rfl) (byt_at bX0_init_1 (j := 7) rfl) (byt_at bX0_init_1 (j := 8) rfl)
theorem dX0_init_25 : decode cX0_init 25 = .ok (.aload_n 0, 1) := do_42 (byt_at bX0_init_1 (j := 9) rfl)
theorem dX0_init_26 : decode cX0_init 26 = .ok (.iconst 4, 1) := do_7 (byt_at bX0_init_1 (j := 10) rfl)
theorem dX0_init_27 : decode cX0_init 27 = .ok (.newarray .int, 2) := by decide +kernel
theorem dX0_init_29 : decode cX0_init 29 = .ok (.putfield 23, 3) := do_181 0 23 (byt_at bX0_init_1 (j := 13) rfl) (byt_at bX0_init_1 (j := 14) rfl) (byt_at bX0_init_1 (j := 15) rfl)
theorem bX0_init_2 : ((bys cX0_init).drop 32).take 16 = [42, 8, 7, 197, 0, 26, 2, 181, 0, 28, 42, 8, 8, 197, 0, 26] := by decide +kernel
theorem dX0_init_32 : decode cX0_init 32 = .ok (.aload_n 0, 1) := do_42 (byt_at bX0_init_2 (j := 0) rfl)
theorem dX0_init_33 : decode cX0_init 33 = .ok (.iconst 5, 1) := do_8 (byt_at bX0_init_2 (j := 1) rfl)
theorem dX0_init_34 : decode cX0_init 34 = .ok (.iconst 4, 1) := do_7 (byt_at bX0_init_2 (j := 2) rfl)
theorem dX0_init_35 : decode cX0_init 35 = .ok (.multianewarray 26 2, 4) := by decide +kernel
theorem dX0_init_39 : decode cX0_init 39 = .ok (.putfield 28, 3) := do_181 0 28 (byt_at bX0_init_2 (j := 7) rfl) (byt_at bX0_init_2 (j := 8) rfl) (byt_at bX0_init_2 (j := 9) rfl)
theorem dX0_init_42 : decode cX0_init 42 = .ok (.aload_n 0, 1) := do_42 (byt_at bX0_init_2 (j := 10) rfl)
theorem dX0_init_43 : decode cX0_init 43 = .ok (.iconst 5, 1) := do_8 (byt_at bX0_init_2 (j := 11) rfl)
theorem dX0_init_44 : decode cX0_init 44 = .ok (.iconst 5, 1) := do_8 (byt_at bX0_init_2 (j := 12) rfl)
theorem dX0_init_45 : decode cX0_init 45 = .ok (.multianewarray 26 2, 4) := by decide +kernel
theorem bX0_init_3 : ((bys cX0_init).drop 48).take 16 = [2, 181, 0, 31, 42, 8, 8, 197, 0, 26, 2, 181, 0, 34, 42, 7] := by decide +kernel
theorem dX0_init_49 : decode cX0_init 49 = .ok (.putfield 31, 3) := do_181 0 31 (byt_at bX0_init_3 (j := 1) rfl) (byt_at bX0_init_3 (j := 2) rfl) (byt_at bX0_init_3 (j := 3) rfl)
theorem dX0_init_52 : decode cX0_init 52 = .ok (.aload_n 0, 1) := do_42 (byt_at bX0_init_3 (j := 4) rfl)
theorem dX0_init_53 : decode cX0_init 53 = .ok (.iconst 5, 1) := do_8 (byt_at bX0_init_3 (j := 5) rfl)
theorem dX0_init_54 : decode cX0_init 54 = .ok (.iconst 5, 1) := do_8 (byt_at bX0_init_3 (j := 6) rfl)
theorem dX0_init_55 : decode cX0_init 55 = .ok (.multianewarray 26 2, 4) := by decide +kernel
theorem dX0_init_59 : decode cX0_init 59 = .ok (.putfield 34, 3) := do_181 0 34 (byt_at bX0_init_3 (j := 11) rfl) (byt_at bX0_init_3 (j := 12) rfl) (byt_at bX0_init_3 (j := 13) rfl)
theorem dX0_init_62 : decode cX0_init 62 = .ok (.aload_n 0, 1) := do_42 (byt_at bX0_init_3 (j := 14) rfl)
theorem dX0_init_63 : decode cX0_init 63 = .ok (.iconst 4, 1) := do_7 (byt_at bX0_init_3 (j := 15) rfl)
theorem dX0_init_64 : decode cX0_init 64 = .ok (.newarray .int, 2) := by decide +kernel
theorem bX0_init_4 : ((bys cX0_init).drop 64).take 16 = [188, 10, 181, 0, 37, 177] := by decide +kernel
theorem dX0_init_66 : decode cX0_init 66 = .ok (.putfield 37, 3) := do_181 0 37 (byt_at bX0_init_4 (j := 2) rfl) (byt_at bX0_init_4 (j := 3) rfl) (byt_at bX0_init_4 (j := 4) rfl)
theorem dX0_init_69 : decode cX0_init 69 = .ok (.return_, 1) := do_177 (byt_at bX0_init_4 (j := 5) rfl)
theorem pm_X4_init_r1 : ∀ w ∈ wsX4_init_r1, w ∈ wsX4_init := fun _ h => List.mem_cons_of_mem _ (List.mem_append_left _ (List.mem_append_left _ (List.mem_append_left _ (List.mem_append_left _ h))))
theorem pm_X4_init_r2 : ∀ w ∈ wsX4_init_r2, w ∈ wsX4_init := fun _ h => List.mem_cons_of_mem _ (List.mem_append_left _ (List.mem_append_left _ (List.mem_append_left _ (List.mem_append_right _ (List.mem_append_left _ h)))))
theorem pm_X4_init_r3 : ∀ w ∈ wsX4_init_r3, w ∈ wsX4_init := fun _ h => List.mem_cons_of_mem _ (List.mem_append_left _ (List.mem_append_left _ (List.mem_append_left _ (List.mem_append_right _ (List.mem_append_right _ (h))))))
theorem pw_X4_init_X4 : ∀ w ∈ wsX40, w ∈ wsX4_init := fun _ h => List.mem_cons_of_mem _ (List.mem_append_left _ (List.mem_append_left _ (List.mem_append_right _ h)))
theorem pw_X4_init_X8 : ∀ w ∈ wsX80, w ∈ wsX4_init := fun _ h => List.mem_cons_of_mem _ (List.mem_append_left _ (List.mem_append_right _ h))
theorem pw_X4_init_X3 : ∀ w ∈ wsX30, w ∈ wsX4_init := fun _ h => List.mem_cons_of_mem _ (List.mem_append_right _ h)
set_option maxRecDepth 20000 in
theorem ggX4_init_X8_init : GoodIn wsX4_init wsX8_init := goodIn_sub (List.forall_mem_cons.mpr ⟨pm_X4_init_r2 _ (List.mem_of_getElem? (i := 1) rfl), List.forall_mem_append.mpr ⟨List.forall_mem_cons.mpr ⟨pm_X4_init_r2 _ (List.mem_of_getElem? (i := 2) rfl), List.forall_mem_cons.mpr ⟨pm_X4_init_r1 _ (List.mem_of_getElem? (i := 1) rfl), List.forall_mem_cons.mpr ⟨pm_X4_init_r1 _ (List.mem_of_getElem? (i := 2) rfl), List.forall_mem_cons.mpr ⟨pm_X4_init_r2 _ (List.mem_of_getElem? (i := 3) rfl), List.forall_mem_cons.mpr ⟨pm_X4_init_r1 _ (List.mem_of_getElem? (i := 3) rfl), List.forall_mem_cons.mpr ⟨pm_X4_init_r2 _ (List.mem_of_getElem? (i := 4) rfl), List.forall_mem_cons.mpr ⟨pm_X4_init_r1 _ (List.mem_of_getElem? (i := 10) rfl), List.forall_mem_cons.mpr ⟨pm_X4_init_r2 _ (List.mem_of_getElem? (i := 5) rfl), List.forall_mem_cons.mpr ⟨pm_X4_init_r2 _ (List.mem_of_getElem? (i := 6) rfl), fun _ h => absurd h List.not_mem_nil⟩⟩⟩⟩⟩⟩⟩⟩⟩, pw_X4_init_X8⟩⟩) (by decide +kernel)
set_option maxRecDepth 20000 in
theorem gX4_init_X8_init : GoodIn wsX4_init (wsX8_init) := ggX4_init_X8_init
set_option maxRecDepth 20000 in
theorem ggX4_init_X3_init : GoodIn wsX4_init wsX3_init := goodIn_sub (List.forall_mem_cons.mpr ⟨pm_X4_init_r2 _ (List.mem_of_getElem? (i := 9) rfl), List.forall_mem_append.mpr ⟨List.forall_mem_cons.mpr ⟨pm_X4_init_r2 _ (List.mem_of_getElem? (i := 10) rfl), List.forall_mem_cons.mpr ⟨pm_X4_init_r1 _ (List.mem_of_getElem? (i := 1) rfl), List.forall_mem_cons.mpr ⟨pm_X4_init_r1 _ (List.mem_of_getElem? (i := 2) rfl), List.forall_mem_cons.mpr ⟨pm_X4_init_r1 _ (List.mem_of_getElem? (i := 10) rfl), List.forall_mem_cons.mpr ⟨pm_X4_init_r2 _ (List.mem_of_getElem? (i := 11) rfl), List.forall_mem_cons.mpr ⟨pm_X4_init_r2 _ (List.mem_of_getElem? (i := 12) rfl), List.forall_mem_cons.mpr ⟨pm_X4_init_r2 _ (List.mem_of_getElem? (i := 13) rfl), List.forall_mem_cons.mpr ⟨pm_X4_init_r2 _ (List.mem_of_getElem? (i := 14) rfl), List.forall_mem_cons.mpr ⟨pm_X4_init_r2 _ (List.mem_of_getElem? (i := 15) rfl), List.forall_mem_cons.mpr ⟨pm_X4_init_r2 _ (List.mem_of_getElem? (i := 16) rfl), List.forall_mem_cons.mpr ⟨pm_X4_init_r2 _ (List.mem_of_getElem? (i := 17) rfl), List.forall_mem_cons.mpr ⟨pm_X4_init_r2 _ (List.mem_of_getElem? (i := 18) rfl), List.forall_mem_cons.mpr ⟨pm_X4_init_r2 _ (List.mem_of_getElem? (i := 19) rfl), List.forall_mem_cons.mpr ⟨pm_X4_init_r1 _ (List.mem_of_getElem? (i := 18) rfl), List.forall_mem_cons.mpr ⟨pm_X4_init_r2 _ (List.mem_of_getElem? (i := 20) rfl), List.forall_mem_cons.mpr ⟨pm_X4_init_r2 _ (List.mem_of_getElem? (i := 21) rfl), List.forall_mem_cons.mpr ⟨pm_X4_init_r2 _ (List.mem_of_getElem? (i := 22) rfl), List.forall_mem_cons.mpr ⟨pm_X4_init_r2 _ (List.mem_of_getElem? (i := 23) rfl), List.forall_mem_cons.mpr ⟨pm_X4_init_r3 _ (List.mem_of_getElem? (i := 0) rfl), List.forall_mem_cons.mpr ⟨pm_X4_init_r3 _ (List.mem_of_getElem? (i := 1) rfl), List.forall_mem_cons.mpr ⟨pm_X4_init_r3 _ (List.mem_of_getElem? (i := 2) rfl), fun _ h => absurd h List.not_mem_nil⟩⟩⟩⟩⟩⟩⟩⟩⟩⟩⟩⟩⟩⟩⟩⟩⟩⟩⟩⟩⟩, pw_X4_init_X3⟩⟩) (by decide +kernel)
set_option maxRecDepth 20000 in
theorem gX4_init_X3_init : GoodIn wsX4_init (wsX3_init) := ggX4_init_X3_init
theorem bX4_init_0 : ((bys cX4_init).drop 0).take 16 = [42, 183, 0, 3, 42, 7, 188, 11, 181, 0, 9, 42, 10, 181, 0, 15] := by decide +kernel
theorem dX4_init_0 : decode cX4_init 0 = .ok (.aload_n 0, 1) := do_42 (byt_at bX4_init_0 (j := 0) rfl)
theorem dX4_init_1 : decode cX4_init 1 = .ok (.invokespecial 3, 3) := do_183 0 3 (byt_at bX4_init_0 (j := 1) rfl) (byt_at bX4_init_0 (j := 2) rfl) (byt_at bX4_init_0 (j := 3) rfl)
theorem dX4_init_4 : decode cX4_init 4 = .ok (.aload_n 0, 1) := do_42 (byt_at bX4_init_0 (j := 4) rfl)
theorem dX4_init_5 : decode cX4_init 5 = .ok (.iconst 4, 1) := do_7 (byt_at bX4_init_0 (j := 5) rfl)
theorem dX4_init_6 : decode cX4_init 6 = .ok (.newarray .long, 2) := by decide +kernel
theorem dX4_init_8 : decode cX4_init 8 = .ok (.putfield 9, 3) := do_181 0 9 (byt_at bX4_init_0 (j := 8) rfl) (byt_at bX4_init_0 (j := 9) rfl) (byt_at bX4_init_0 (j := 10) rfl)
theorem dX4_init_11 : decode cX4_init 11 = .ok (.aload_n 0, 1) := do_42 (byt_at bX4_init_0 (j := 11) rfl)
theorem dX4_init_12 : decode cX4_init 12 = .ok (.lconst 1, 1) := do_10 (byt_at bX4_init_0 (j := 12) rfl)
theorem dX4_init_13 : decode cX4_init 13 = .ok (.putfield 15, 3) := do_181 0 15 (byt_at bX4_init_0 (j := 13) rfl) (byt_at bX4_init_0 (j := 14) rfl) (byt_at bX4_init_0 (j := 15) rfl)
theorem bX4_init_1 : ((bys cX4_init).drop 16).take 16 = [42, 187, 0, 19, 89, 183, 0, 21, 181, 0, 22, 42, 16, 12, 188, 10] := by decide +kernel
theorem dX4_init_16 : decode cX4_init 16 = .ok (.aload_n 0, 1) := do_42 (byt_at bX4_init_1 (j := 0) rfl)
theorem dX4_init_17 : decode cX4_init 17 = .ok (.new 19, 3) := do_187 0 19 (byt_at bX4_init_1 (j := 1) rfl) (byt_at bX4_init_1 (j := 2) rfl) (byt_at bX4_init_1 (j := 3) rfl)
theorem dX4_init_20 : decode cX4_init 20 = .ok (.dup, 1) := do_89 (byt_at bX4_init_1 (j := 4) rfl)
theorem dX4_init_21 : decode cX4_init 21 = .ok (.invokespecial 21, 3) := do_183 0 21 (byt_at bX4_init_1 (j := 5) rfl) (byt_at bX4_init_1 (j := 6) rfl) (byt_at bX4_init_1 (j := 7) rfl)
theorem dX4_init_24 : decode cX4_init 24 = .ok (.putfield 22, 3) := do_181 0 22 (byt_at bX4_init_1 (j := 8) rfl) (byt_at bX4_init_1 (j := 9) rfl) (byt_at bX4_init_1 (j := 10) rfl)
theorem dX4_init_27 : decode cX4_init 27 = .ok (.aload_n 0, 1) := do_42 (byt_at bX4_init_1 (j := 11) rfl)
theorem dX4_init_28 : decode cX4_init 28 = .ok (.bipush 12, 2) := do_16 12 (byt_at bX4_init_1 (j := 12) rfl) (byt_at bX4_init_1 (j := 13) rfl) (by decide)
theorem dX4_init_30 : decode cX4_init 30 = .ok (.newarray .int, 2) := by decide +kernel
theorem bX4_init_2 : ((bys cX4_init).drop 32).take 16 = [181, 0, 26, 42, 16, 12, 188, 10, 181, 0, 30, 42, 16, 12, 188, 10] := by decide +kernel
theorem dX4_init_32 : decode cX4_init 32 = .ok (.putfield 26, 3) := do_181 0 26 (byt_at bX4_init_2 (j := 0) rfl) (byt_at bX4_init_2 (j := 1) rfl) (byt_at bX4_init_2 (j := 2) rfl)
theorem dX4_init_35 : decode cX4_init 35 = .ok (.aload_n 0, 1) := do_42 (byt_at bX4_init_2 (j := 3) rfl)
theorem dX4_init_36 : decode cX4_init 36 = .ok (.bipush 12, 2) := do_16 12 (byt_at bX4_init_2 (j := 4) rfl) (byt_at bX4_init_2 (j := 5) rfl) (by decide)
theorem dX4_init_38 : decode cX4_init 38 = .ok (.newarray .int, 2) := by decide +kernel
theorem dX4_init_40 : decode cX4_init 40 = .ok (.putfield 30, 3) := do_181 0 30 (byt_at bX4_init_2 (j := 8) rfl) (byt_at bX4_init_2 (j := 9) rfl) (byt_at bX4_init_2 (j := 10) rfl)
theorem dX4_init_43 : decode cX4_init 43 = .ok (.aload_n 0, 1) := do_42 (byt_at bX4_init_2 (j := 11) rfl)
theorem dX4_init_44 : decode cX4_init 44 = .ok (.bipush 12, 2) := do_16 12 (byt_at bX4_init_2 (j := 12) rfl) (byt_at bX4_init_2 (j := 13) rfl) (by decide)
theorem dX4_init_46 : decode cX4_init 46 = .ok (.newarray .int, 2) := by decide +kernel
theorem bX4_init_3 : ((bys cX4_init).drop 48).take 16 = [181, 0, 33, 42, 3, 181, 0, 36, 42, 3, 181, 0, 40, 42, 187, 0] := by decide +kernel
theorem dX4_init_48 : decode cX4_init 48 = .ok (.putfield 33, 3) := do_181 0 33 (byt_at bX4_init_3 (j := 0) rfl) (byt_at bX4_init_3 (j := 1) rfl) (byt_at bX4_init_3 (j := 2) rfl)
theorem dX4_init_51 : decode cX4_init 51 = .ok (.aload_n 0, 1) := do_42 (byt_at bX4_init_3 (j := 3) rfl)
theorem dX4_init_52 : decode cX4_init 52 = .ok (.iconst 0, 1) := do_3 (byt_at bX4_init_3 (j := 4) rfl)
theorem dX4_init_53 : decode cX4_init 53 = .ok (.putfield 36, 3) := do_181 0 36 (byt_at bX4_init_3 (j := 5) rfl) (byt_at bX4_init_3 (j := 6) rfl) (byt_at bX4_init_3 (j := 7) rfl)
theorem dX4_init_56 : decode cX4_init 56 = .ok (.aload_n 0, 1) := do_42 (byt_at bX4_init_3 (j := 8) rfl)
theorem dX4_init_57 : decode cX4_init 57 = .ok (.iconst 0, 1) := do_3 (byt_at bX4_init_3 (j := 9) rfl)
theorem dX4_init_58 : decode cX4_init 58 = .ok (.putfield 40, 3) := do_181 0 40 (byt_at bX4_init_3 (j := 10) rfl) (byt_at bX4_init_3 (j := 11) rfl) (byt_at bX4_init_3 (j := 12) rfl)
theorem dX4_init_61 : decode cX4_init 61 = .ok (.aload_n 0, 1) := do_42 (byt_at bX4_init_3 (j := 13) rfl)
theorem bX4_init_4 : ((bys cX4_init).drop 64).take 16 = [43, 89, 183, 0, 45, 181, 0, 46, 42, 3, 181, 0, 50, 42, 2, 181] := by decide +kernel
theorem dX4_init_62 : decode cX4_init 62 = .ok (.new 43, 3) := do_187 0 43 (byt_at bX4_init_3 (j := 14) rfl) (byt_at bX4_init_3 (j := 15) rfl) (byt_at bX4_init_4 (j := 0) rfl)
theorem dX4_init_65 : decode cX4_init 65 = .ok (.dup, 1) := do_89 (byt_at bX4_init_4 (j := 1) rfl)
theorem dX4_init_66 : decode cX4_init 66 = .ok (.invokespecial 45, 3) := do_183 0 45 (byt_at bX4_init_4 (j := 2) rfl) (byt_at bX4_init_4 (j := 3) rfl) (byt_at bX4_init_4 (j := 4) rfl)
theorem dX4_init_69 : decode cX4_init 69 = .ok (.putfield 46, 3) := do_181 0 46 (byt_at bX4_init_4 (j := 5) rfl) (byt_at bX4_init_4 (j := 6) rfl) (byt_at bX4_init_4 (j := 7) rfl)
theorem dX4_init_72 : decode cX4_init 72 = .ok (.aload_n 0, 1) := do_42 (byt_at bX4_init_4 (j := 8) rfl)
theorem dX4_init_73 : decode cX4_init 73 = .ok (.iconst 0, 1) := do_3 (byt_at bX4_init_4 (j := 9) rfl)
theorem dX4_init_74 : decode cX4_init 74 = .ok (.putfield 50, 3) := do_181 0 50 (byt_at bX4_init_4 (j := 10) rfl) (byt_at bX4_init_4 (j := 11) rfl) (byt_at bX4_init_4 (j := 12) rfl)
theorem dX4_init_77 : decode cX4_init 77 = .ok (.aload_n 0, 1) := do_42 (byt_at bX4_init_4 (j := 13) rfl)
theorem dX4_init_78 : decode cX4_init 78 = .ok (.iconst (-1), 1) := do_2 (byt_at bX4_init_4 (j := 14) rfl)
theorem bX4_init_5 : ((bys cX4_init).drop 80).take 16 = [0, 53, 42, 2, 181, 0, 56, 177] := by decide +kernel
theorem dX4_init_79 : decode cX4_init 79 = .ok (.putfield 53, 3) := do_181 0 53 (byt_at bX4_init_4 (j := 15) rfl) (byt_at bX4_init_5 (j := 0) rfl) (byt_at bX4_init_5 (j := 1) rfl)
theorem dX4_init_82 : decode cX4_init 82 = .ok (.aload_n 0, 1) := do_42 (byt_at bX4_init_5 (j := 2) rfl)
theorem dX4_init_83 : decode cX4_init 83 = .ok (.iconst (-1), 1) := do_2 (byt_at bX4_init_5 (j := 3) rfl)
theorem dX4_init_84 : decode cX4_init 84 = .ok (.putfield 56, 3) := do_181 0 56 (byt_at bX4_init_5 (j := 4) rfl) (byt_at bX4_init_5 (j := 5) rfl) (byt_at bX4_init_5 (j := 6) rfl)
theorem dX4_init_87 : decode cX4_init 87 = .ok (.return_, 1) := do_177 (byt_at bX4_init_5 (j := 7) rfl)
theorem bX5_init_0 : ((bys cX5_init).drop 0).take 16 = [42, 183, 0, 1, 177] := by decide +kernel
theorem dX5_init_0 : decode cX5_init 0 = .ok (.aload_n 0, 1) := do_42 (byt_at bX5_init_0 (j := 0) rfl)
theorem dX5_init_1 : decode cX5_init 1 = .ok (.invokespecial 1, 3) := do_183 0 1 (byt_at bX5_init_0 (j := 1) rfl) (byt_at bX5_init_0 (j := 2) rfl) (byt_at bX5_init_0 (j := 3) rfl)
theorem dX5_init_4 : decode cX5_init 4 = .ok (.return_, 1) := do_177 (byt_at bX5_init_0 (j := 4) rfl)
theorem bX6_init_0 : ((bys cX6_init).drop 0).take 16 = [42, 183, 0, 3, 42, 4, 181, 0, 9, 42, 8, 188, 10, 181, 0, 15] := by decide +kernel
theorem dX6_init_0 : decode cX6_init 0 = .ok (.aload_n 0, 1) := do_42 (byt_at bX6_init_0 (j := 0) rfl)
theorem dX6_init_1 : decode cX6_init 1 = .ok (.invokespecial 3, 3) := do_183 0 3 (byt_at bX6_init_0 (j := 1) rfl) (byt_at bX6_init_0 (j := 2) rfl) (byt_at bX6_init_0 (j := 3) rfl)
theorem dX6_init_4 : decode cX6_init 4 = .ok (.aload_n 0, 1) := do_42 (byt_at bX6_init_0 (j := 4) rfl)
theorem dX6_init_5 : decode cX6_init 5 = .ok (.iconst 1, 1) := do_4 (byt_at bX6_init_0 (j := 5) rfl)
theorem dX6_init_6 : decode cX6_init 6 = .ok (.putfield 9, 3) := do_181 0 9 (byt_at bX6_init_0 (j := 6) rfl) (byt_at bX6_init_0 (j := 7) rfl) (byt_at bX6_init_0 (j := 8) rfl)
theorem dX6_init_9 : decode cX6_init 9 = .ok (.aload_n 0, 1) := do_42 (byt_at bX6_init_0 (j := 9) rfl)
theorem dX6_init_10 : decode cX6_init 10 = .ok (.iconst 5, 1) := do_8 (byt_at bX6_init_0 (j := 10) rfl)
theorem dX6_init_11 : decode cX6_init 11 = .ok (.newarray .int, 2) := by decide +kernel
theorem dX6_init_13 : decode cX6_init 13 = .ok (.putfield 15, 3) := do_181 0 15 (byt_at bX6_init_0 (j := 13) rfl) (byt_at bX6_init_0 (j := 14) rfl) (byt_at bX6_init_0 (j := 15) rfl)
theorem bX6_init_1 : ((bys cX6_init).drop 16).take 16 = [42, 3, 181, 0, 19, 42, 8, 188, 10, 181, 0, 22, 177] := by decide +kernel
theorem dX6_init_16 : decode cX6_init 16 = .ok (.aload_n 0, 1) := do_42 (byt_at bX6_init_1 (j := 0) rfl)
theorem dX6_init_17 : decode cX6_init 17 = .ok (.iconst 0, 1) := do_3 (byt_at bX6_init_1 (j := 1) rfl)
theorem dX6_init_18 : decode cX6_init 18 = .ok (.putfield 19, 3) := do_181 0 19 (byt_at bX6_init_1 (j := 2) rfl) (byt_at bX6_init_1 (j := 3) rfl) (byt_at bX6_init_1 (j := 4) rfl)
theorem dX6_init_21 : decode cX6_init 21 = .ok (.aload_n 0, 1) := do_42 (byt_at bX6_init_1 (j := 5) rfl)
theorem dX6_init_22 : decode cX6_init 22 = .ok (.iconst 5, 1) := do_8 (byt_at bX6_init_1 (j := 6) rfl)
theorem dX6_init_23 : decode cX6_init 23 = .ok (.newarray .int, 2) := by decide +kernel
theorem dX6_init_25 : decode cX6_init 25 = .ok (.putfield 22, 3) := do_181 0 22 (byt_at bX6_init_1 (j := 9) rfl) (byt_at bX6_init_1 (j := 10) rfl) (byt_at bX6_init_1 (j := 11) rfl)
theorem dX6_init_28 : decode cX6_init 28 = .ok (.return_, 1) := do_177 (byt_at bX6_init_1 (j := 12) rfl)
theorem kk_X4_init_0 : Cond.methodLink RX4 3 objectInit ∈ wsX4_init := pm_X4_init_r1 _ (List.mem_of_getElem? (i := 0) rfl)
theorem kk_X4_init_1 : Cond.instanceMethod objectInit ∈ wsX4_init := pm_X4_init_r1 _ (List.mem_of_getElem? (i := 1) rfl)
theorem kk_X4_init_2 : Cond.code objectInit ⟨#[0xb1]⟩ 1 none ∈ wsX4_init := pm_X4_init_r1 _ (List.mem_of_getElem? (i := 2) rfl)
theorem kk_X4_init_3 : Cond.arrayClass .long ∈ wsX4_init := pm_X4_init_r1 _ (List.mem_of_getElem? (i := 3) rfl)
theorem kk_X4_init_4 : Cond.fieldLink RX4 9 "PaidBySigns$LeastCost" "above" "[J" ∈ wsX4_init := pm_X4_init_r1 _ (List.mem_of_getElem? (i := 4) rfl)
theorem kk_X4_init_5 : Cond.fieldLink RX4 15 "PaidBySigns$LeastCost" "aboveLower" "J" ∈ wsX4_init := pm_X4_init_r1 _ (List.mem_of_getElem? (i := 5) rfl)
theorem kk_X4_init_6 : Cond.classLink RX4 19 RX8 ∈ wsX4_init := pm_X4_init_r1 _ (List.mem_of_getElem? (i := 6) rfl)
theorem kk_X4_init_7 : Cond.instantiable RX8 7 ∈ wsX4_init := pm_X4_init_r1 _ (List.mem_of_getElem? (i := 7) rfl)
theorem kk_X4_init_8 : Cond.initialized RX8 ∈ wsX4_init := pm_X4_init_r1 _ (List.mem_of_getElem? (i := 8) rfl)
theorem kk_X4_init_9 : Cond.methodLink RX4 21 yX8_init ∈ wsX4_init := pm_X4_init_r1 _ (List.mem_of_getElem? (i := 23) rfl)
theorem kk_X4_init_10 : Cond.instanceMethod yX8_init ∈ wsX4_init := pm_X4_init_r2 _ (List.mem_of_getElem? (i := 0) rfl)
theorem kk_X4_init_11 : Cond.fieldLink RX4 22 "PaidBySigns$LeastCost" "table" "LPaidBySigns$Table;" ∈ wsX4_init := pm_X4_init_r1 _ (List.mem_of_getElem? (i := 9) rfl)
theorem kk_X4_init_12 : Cond.arrayClass .int ∈ wsX4_init := pm_X4_init_r1 _ (List.mem_of_getElem? (i := 10) rfl)
theorem kk_X4_init_13 : Cond.fieldLink RX4 26 "PaidBySigns$LeastCost" "columnSign" "[I" ∈ wsX4_init := pm_X4_init_r1 _ (List.mem_of_getElem? (i := 11) rfl)
theorem kk_X4_init_14 : Cond.fieldLink RX4 30 "PaidBySigns$LeastCost" "columnRate" "[I" ∈ wsX4_init := pm_X4_init_r1 _ (List.mem_of_getElem? (i := 12) rfl)
theorem kk_X4_init_15 : Cond.fieldLink RX4 33 "PaidBySigns$LeastCost" "columnRoom" "[I" ∈ wsX4_init := pm_X4_init_r1 _ (List.mem_of_getElem? (i := 13) rfl)
theorem kk_X4_init_16 : Cond.fieldLink RX4 36 "PaidBySigns$LeastCost" "columns" "I" ∈ wsX4_init := pm_X4_init_r1 _ (List.mem_of_getElem? (i := 14) rfl)
theorem kk_X4_init_17 : Cond.fieldLink RX4 40 "PaidBySigns$LeastCost" "rooms" "I" ∈ wsX4_init := pm_X4_init_r1 _ (List.mem_of_getElem? (i := 15) rfl)
theorem kk_X4_init_18 : Cond.classLink RX4 43 RX3 ∈ wsX4_init := pm_X4_init_r1 _ (List.mem_of_getElem? (i := 16) rfl)
theorem kk_X4_init_19 : Cond.instantiable RX3 11 ∈ wsX4_init := pm_X4_init_r1 _ (List.mem_of_getElem? (i := 17) rfl)
theorem kk_X4_init_20 : Cond.initialized RX3 ∈ wsX4_init := pm_X4_init_r1 _ (List.mem_of_getElem? (i := 18) rfl)
theorem kk_X4_init_21 : Cond.methodLink RX4 45 yX3_init ∈ wsX4_init := pm_X4_init_r2 _ (List.mem_of_getElem? (i := 7) rfl)
theorem kk_X4_init_22 : Cond.instanceMethod yX3_init ∈ wsX4_init := pm_X4_init_r2 _ (List.mem_of_getElem? (i := 8) rfl)
theorem kk_X4_init_23 : Cond.fieldLink RX4 46 "PaidBySigns$LeastCost" "hire" "LPaidBySigns$Hire;" ∈ wsX4_init := pm_X4_init_r1 _ (List.mem_of_getElem? (i := 19) rfl)
theorem kk_X4_init_24 : Cond.fieldLink RX4 50 "PaidBySigns$LeastCost" "work" "I" ∈ wsX4_init := pm_X4_init_r1 _ (List.mem_of_getElem? (i := 20) rfl)
theorem kk_X4_init_25 : Cond.fieldLink RX4 53 "PaidBySigns$LeastCost" "keptSign" "I" ∈ wsX4_init := pm_X4_init_r1 _ (List.mem_of_getElem? (i := 21) rfl)
theorem kk_X4_init_26 : Cond.fieldLink RX4 56 "PaidBySigns$LeastCost" "joinedSign" "I" ∈ wsX4_init := pm_X4_init_r1 _ (List.mem_of_getElem? (i := 22) rfl)
theorem kk_X5_init_0 : Cond.methodLink RX5 1 objectInit ∈ wsX5_init := List.mem_cons_of_mem _ (List.mem_of_getElem? (i := 0) rfl)
theorem kk_X5_init_1 : Cond.instanceMethod objectInit ∈ wsX5_init := List.mem_cons_of_mem _ (List.mem_of_getElem? (i := 1) rfl)
theorem kk_X5_init_2 : Cond.code objectInit ⟨#[0xb1]⟩ 1 none ∈ wsX5_init := List.mem_cons_of_mem _ (List.mem_of_getElem? (i := 2) rfl)
theorem kk_X0_init_0 : Cond.methodLink RX0 3 objectInit ∈ wsX0_init := List.mem_cons_of_mem _ (List.mem_append_left _ (List.mem_of_getElem? (i := 0) rfl))
theorem kk_X0_init_1 : Cond.instanceMethod objectInit ∈ wsX0_init := List.mem_cons_of_mem _ (List.mem_append_left _ (List.mem_of_getElem? (i := 1) rfl))
theorem kk_X0_init_2 : Cond.code objectInit ⟨#[0xb1]⟩ 1 none ∈ wsX0_init := List.mem_cons_of_mem _ (List.mem_append_left _ (List.mem_of_getElem? (i := 2) rfl))
theorem kk_X0_init_3 : Cond.arrayClass .int ∈ wsX0_init := List.mem_cons_of_mem _ (List.mem_append_left _ (List.mem_of_getElem? (i := 3) rfl))
theorem kk_X0_init_4 : Cond.fieldLink RX0 9 "PaidBySigns$CoinSearch" "chosen" "[I" ∈ wsX0_init := List.mem_cons_of_mem _ (List.mem_append_left _ (List.mem_of_getElem? (i := 4) rfl))
theorem kk_X0_init_5 : Cond.constant RX0 15 (1000000) ∈ wsX0_init := List.mem_cons_of_mem _ (List.mem_append_left _ (List.mem_of_getElem? (i := 5) rfl))
theorem kk_X0_init_6 : Cond.fieldLink RX0 16 "PaidBySigns$CoinSearch" "bestCost" "I" ∈ wsX0_init := List.mem_cons_of_mem _ (List.mem_append_left _ (List.mem_of_getElem? (i := 6) rfl))
theorem kk_X0_init_7 : Cond.fieldLink RX0 20 "PaidBySigns$CoinSearch" "felt" "[I" ∈ wsX0_init := List.mem_cons_of_mem _ (List.mem_append_left _ (List.mem_of_getElem? (i := 7) rfl))
theorem kk_X0_init_8 : Cond.fieldLink RX0 23 "PaidBySigns$CoinSearch" "own" "[I" ∈ wsX0_init := List.mem_cons_of_mem _ (List.mem_append_left _ (List.mem_of_getElem? (i := 8) rfl))
theorem kk_X0_init_9 : Cond.classLink RX0 26 "[[I" ∈ wsX0_init := List.mem_cons_of_mem _ (List.mem_append_left _ (List.mem_of_getElem? (i := 9) rfl))
theorem kk_X0_init_10 : Cond.fieldLink RX0 28 "PaidBySigns$CoinSearch" "share" "[[I" ∈ wsX0_init := List.mem_cons_of_mem _ (List.mem_append_left _ (List.mem_of_getElem? (i := 10) rfl))
theorem kk_X0_init_11 : Cond.fieldLink RX0 31 "PaidBySigns$CoinSearch" "rest" "[[I" ∈ wsX0_init := List.mem_cons_of_mem _ (List.mem_append_left _ (List.mem_of_getElem? (i := 11) rfl))
theorem kk_X0_init_12 : Cond.fieldLink RX0 34 "PaidBySigns$CoinSearch" "left" "[[I" ∈ wsX0_init := List.mem_cons_of_mem _ (List.mem_append_left _ (List.mem_of_getElem? (i := 12) rfl))
theorem kk_X0_init_13 : Cond.fieldLink RX0 37 "PaidBySigns$CoinSearch" "tried" "[I" ∈ wsX0_init := List.mem_cons_of_mem _ (List.mem_append_left _ (List.mem_of_getElem? (i := 13) rfl))
theorem kk_X6_init_0 : Cond.methodLink RX6 3 objectInit ∈ wsX6_init := List.mem_cons_of_mem _ (List.mem_append_left _ (List.mem_of_getElem? (i := 0) rfl))
theorem kk_X6_init_1 : Cond.instanceMethod objectInit ∈ wsX6_init := List.mem_cons_of_mem _ (List.mem_append_left _ (List.mem_of_getElem? (i := 1) rfl))
theorem kk_X6_init_2 : Cond.code objectInit ⟨#[0xb1]⟩ 1 none ∈ wsX6_init := List.mem_cons_of_mem _ (List.mem_append_left _ (List.mem_of_getElem? (i := 2) rfl))
theorem kk_X6_init_3 : Cond.fieldLink RX6 9 "PaidBySigns$Proofs" "lowerNumber" "I" ∈ wsX6_init := List.mem_cons_of_mem _ (List.mem_append_left _ (List.mem_of_getElem? (i := 3) rfl))
theorem kk_X6_init_4 : Cond.arrayClass .int ∈ wsX6_init := List.mem_cons_of_mem _ (List.mem_append_left _ (List.mem_of_getElem? (i := 4) rfl))
theorem kk_X6_init_5 : Cond.fieldLink RX6 15 "PaidBySigns$Proofs" "press" "[I" ∈ wsX6_init := List.mem_cons_of_mem _ (List.mem_append_left _ (List.mem_of_getElem? (i := 5) rfl))
theorem kk_X6_init_6 : Cond.fieldLink RX6 19 "PaidBySigns$Proofs" "pressOfElse" "I" ∈ wsX6_init := List.mem_cons_of_mem _ (List.mem_append_left _ (List.mem_of_getElem? (i := 6) rfl))
theorem kk_X6_init_7 : Cond.fieldLink RX6 22 "PaidBySigns$Proofs" "mixed" "[I" ∈ wsX6_init := List.mem_cons_of_mem _ (List.mem_append_left _ (List.mem_of_getElem? (i := 7) rfl))
theorem iw_X4_init_X4 : ∀ w ∈ wsX40, w ∈ wsX4_init := pw_X4_init_X4
theorem iw_X4_init_X8 : ∀ w ∈ wsX80, w ∈ wsX4_init := pw_X4_init_X8
theorem iw_X4_init_X3 : ∀ w ∈ wsX30, w ∈ wsX4_init := pw_X4_init_X3
theorem iw_X0_init_X0 : ∀ w ∈ wsX00, w ∈ wsX0_init := fun _ h => List.mem_cons_of_mem _ (List.mem_append_right _ h)
theorem iw_X6_init_X6 : ∀ w ∈ wsX60, w ∈ wsX6_init := fun _ h => List.mem_cons_of_mem _ (List.mem_append_right _ h)
