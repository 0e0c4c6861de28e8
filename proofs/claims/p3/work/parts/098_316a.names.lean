abbrev cX10_atWage : ByteArray := prog_12_method_73_code
def yX10_atWage : MethodName := ⟨RX10, "atWage", "(JJI)J"⟩
abbrev cX10_proves : ByteArray := prog_12_method_74_code
def yX10_proves : MethodName := ⟨RX10, "proves", "(I)I"⟩
abbrev cX10_mix : ByteArray := prog_12_method_75_code
def yX10_mix : MethodName := ⟨RX10, "mix", "(II)I"⟩
abbrev cX10_same : ByteArray := prog_12_method_76_code
def yX10_same : MethodName := ⟨RX10, "same", "(I)I"⟩
abbrev cX10_edge : ByteArray := prog_12_method_77_code
def yX10_edge : MethodName := ⟨RX10, "edge", "(III)I"⟩
def wsX10_atWage : List Cond := .code yX10_atWage cX10_atWage 6 (some .long) :: ([.fieldLink RX10 190 "PaidBySignsModel" "lowerPress" "I", .methodLink RX10 264 yX10_feel, .instanceMethod yX10_feel, .selects RX10 yX10_feel yX10_feel, .initialized RX10, .code yX10_feel cX10_feel 6 (some .int), .fieldLink RX10 17 "PaidBySignsModel" "num" "[I", .fieldLink RX10 40 "PaidBySignsModel" "marks" "[I", .fieldLink RX10 37 "PaidBySignsModel" "rates" "[I"] ++ wsX100)
def wsX10_proves_r1 : List Cond := [Cond.fieldLink RX10 17 "PaidBySignsModel" "num" "[I", Cond.fieldLink RX10 85 "PaidBySignsModel" "presses" "[I", Cond.fieldLink RX10 31 "PaidBySignsModel" "costs" "[I", Cond.fieldLink RX10 190 "PaidBySignsModel" "lowerPress" "I", Cond.fieldLink RX10 37 "PaidBySignsModel" "rates" "[I", Cond.fieldLink RX10 40 "PaidBySignsModel" "marks" "[I", Cond.methodLink RX10 253 yX10_isWork, Cond.instanceMethod yX10_isWork, Cond.selects RX10 yX10_isWork yX10_isWork, Cond.initialized RX10, Cond.code yX10_isWork cX10_isWork 2 (some .boolean), Cond.methodLink RX10 174 yX10_in, Cond.static yX10_in, Cond.code yX10_in cX10_in 6 (some .boolean), Cond.methodLink RX10 259 yX10_chanceOf, Cond.instanceMethod yX10_chanceOf, Cond.selects RX10 yX10_chanceOf yX10_chanceOf, Cond.code yX10_chanceOf cX10_chanceOf 3 (some .int), Cond.fieldLink RX10 34 "PaidBySignsModel" "chances" "[I", Cond.methodLink RX10 401 yX10_atWage, Cond.instanceMethod yX10_atWage, Cond.selects RX10 yX10_atWage yX10_atWage, Cond.code yX10_atWage cX10_atWage 6 (some .long), Cond.methodLink RX10 264 yX10_feel]
def wsX10_proves_r2 : List Cond := [Cond.instanceMethod yX10_feel, Cond.selects RX10 yX10_feel yX10_feel, Cond.code yX10_feel cX10_feel 6 (some .int), Cond.methodLink RX10 355 yX10_tell, Cond.instanceMethod yX10_tell, Cond.selects RX10 yX10_tell yX10_tell, Cond.code yX10_tell cX10_tell 7 none, Cond.fieldLink RX10 281 "PaidBySignsModel" "upper" "J", Cond.fieldLink RX10 284 "PaidBySignsModel" "lower" "J", Cond.fieldLink RX10 202 "PaidBySignsModel" "hasFraction" "Z", Cond.methodLink RX10 277 yX10_common, Cond.static yX10_common, Cond.code yX10_common cX10_common 10 (some .long)]
def wsX10_proves : List Cond := .code yX10_proves cX10_proves 16 (some .int) :: ((wsX10_proves_r1 ++ wsX10_proves_r2) ++ wsX100)
def wsX10_mix : List Cond := .code yX10_mix cX10_mix 4 (some .int) :: ([.constantLong RX10 405 (1000), .fieldLink RX10 88 "PaidBySignsModel" "mixes" "[I", .methodLink RX10 253 yX10_isWork, .instanceMethod yX10_isWork, .selects RX10 yX10_isWork yX10_isWork, .initialized RX10, .code yX10_isWork cX10_isWork 2 (some .boolean), .fieldLink RX10 17 "PaidBySignsModel" "num" "[I", .methodLink RX10 174 yX10_in, .static yX10_in, .code yX10_in cX10_in 6 (some .boolean)] ++ wsX100)
def wsX10_same : List Cond := .code yX10_same cX10_same 10 (some .int) :: ([.fieldLink RX10 17 "PaidBySignsModel" "num" "[I", .fieldLink RX10 88 "PaidBySignsModel" "mixes" "[I", .fieldLink RX10 31 "PaidBySignsModel" "costs" "[I", .methodLink RX10 253 yX10_isWork, .instanceMethod yX10_isWork, .selects RX10 yX10_isWork yX10_isWork, .initialized RX10, .code yX10_isWork cX10_isWork 2 (some .boolean), .methodLink RX10 174 yX10_in, .static yX10_in, .code yX10_in cX10_in 6 (some .boolean), .methodLink RX10 259 yX10_chanceOf, .instanceMethod yX10_chanceOf, .selects RX10 yX10_chanceOf yX10_chanceOf, .code yX10_chanceOf cX10_chanceOf 3 (some .int), .fieldLink RX10 34 "PaidBySignsModel" "chances" "[I"] ++ wsX100)
def wsX10_edge_r1 : List Cond := [Cond.fieldLink RX10 34 "PaidBySignsModel" "chances" "[I", Cond.methodLink RX10 253 yX10_isWork, Cond.instanceMethod yX10_isWork, Cond.selects RX10 yX10_isWork yX10_isWork, Cond.initialized RX10, Cond.code yX10_isWork cX10_isWork 2 (some .boolean), Cond.fieldLink RX10 17 "PaidBySignsModel" "num" "[I", Cond.methodLink RX10 174 yX10_in, Cond.static yX10_in, Cond.code yX10_in cX10_in 6 (some .boolean), Cond.methodLink RX10 256 yX10_isSign, Cond.instanceMethod yX10_isSign, Cond.selects RX10 yX10_isSign yX10_isSign, Cond.code yX10_isSign cX10_isSign 2 (some .boolean), Cond.methodLink RX10 368 yX10_bestWork, Cond.instanceMethod yX10_bestWork, Cond.selects RX10 yX10_bestWork yX10_bestWork, Cond.code yX10_bestWork cX10_bestWork 11 (some .int), Cond.fieldLink RX10 28 "PaidBySignsModel" "brings" "[I", Cond.fieldLink RX10 328 "PaidBySignsModel" "costLow" "J", Cond.fieldLink RX10 325 "PaidBySignsModel" "costUp" "J", Cond.fieldLink RX10 362 "PaidBySignsModel" "bestLeftUp" "J", Cond.fieldLink RX10 365 "PaidBySignsModel" "bestLeftLow" "J", Cond.methodLink RX10 349 yX10_eachAlone]
def wsX10_edge_r2 : List Cond := [Cond.instanceMethod yX10_eachAlone, Cond.selects RX10 yX10_eachAlone yX10_eachAlone, Cond.code yX10_eachAlone cX10_eachAlone 2 none, Cond.fieldLink RX10 289 "PaidBySignsModel" "groups" "I", Cond.fieldLink RX10 46 "PaidBySignsModel" "groupOf" "[I", Cond.methodLink RX10 352 yX10_isHad, Cond.instanceMethod yX10_isHad, Cond.selects RX10 yX10_isHad yX10_isHad, Cond.code yX10_isHad cX10_isHad 2 (some .boolean), Cond.fieldLink RX10 322 "PaidBySignsModel" "isFound" "Z", Cond.methodLink RX10 343 yX10_makeBounds, Cond.instanceMethod yX10_makeBounds, Cond.selects RX10 yX10_makeBounds yX10_makeBounds, Cond.code yX10_makeBounds cX10_makeBounds 5 none, Cond.fieldLink RX10 292 "PaidBySignsModel" "bounds" "I", Cond.fieldLink RX10 31 "PaidBySignsModel" "costs" "[I", Cond.fieldLink RX10 49 "PaidBySignsModel" "row" "[J", Cond.fieldLink RX10 299 "PaidBySignsModel" "asked" "I", Cond.fieldLink RX10 40 "PaidBySignsModel" "marks" "[I", Cond.methodLink RX10 295 yX10_addBound, Cond.instanceMethod yX10_addBound, Cond.selects RX10 yX10_addBound yX10_addBound, Cond.code yX10_addBound cX10_addBound 4 (some .int), Cond.fieldLink RX10 52 "PaidBySignsModel" "least" "[J"]
def wsX10_edge_r3 : List Cond := [Cond.methodLink RX10 259 yX10_chanceOf, Cond.instanceMethod yX10_chanceOf, Cond.selects RX10 yX10_chanceOf yX10_chanceOf, Cond.code yX10_chanceOf cX10_chanceOf 3 (some .int), Cond.methodLink RX10 264 yX10_feel, Cond.instanceMethod yX10_feel, Cond.selects RX10 yX10_feel yX10_feel, Cond.code yX10_feel cX10_feel 6 (some .int), Cond.fieldLink RX10 37 "PaidBySignsModel" "rates" "[I", Cond.methodLink RX10 339 yX10_choose, Cond.instanceMethod yX10_choose, Cond.selects RX10 yX10_choose yX10_choose, Cond.code yX10_choose cX10_choose 5 none, Cond.fieldLink RX10 55 "PaidBySignsModel" "chosen" "[I", Cond.methodLink RX10 335 yX10_look, Cond.instanceMethod yX10_look, Cond.selects RX10 yX10_look yX10_look, Cond.code yX10_look cX10_look 10 none, Cond.fieldLink RX10 61 "PaidBySignsModel" "x" "[J", Cond.fieldLink RX10 310 "PaidBySignsModel" "det" "J", Cond.fieldLink RX10 67 "PaidBySignsModel" "wageLow" "[J", Cond.fieldLink RX10 64 "PaidBySignsModel" "wageUp" "[J", Cond.constantLong RX10 313 (-1), Cond.fieldLink RX10 70 "PaidBySignsModel" "bestUp" "[J"]
def wsX10_edge_r4 : List Cond := [Cond.fieldLink RX10 73 "PaidBySignsModel" "bestLow" "[J", Cond.methodLink RX10 315 yX10_isCorner, Cond.instanceMethod yX10_isCorner, Cond.selects RX10 yX10_isCorner yX10_isCorner, Cond.code yX10_isCorner cX10_isCorner 7 (some .boolean), Cond.methodLink RX10 306 yX10_determinant, Cond.instanceMethod yX10_determinant, Cond.selects RX10 yX10_determinant yX10_determinant, Cond.code yX10_determinant cX10_determinant 4 (some .long), Cond.fieldLink RX10 58 "PaidBySignsModel" "matrix" "[J", Cond.methodLink RX10 302 yX10_minor, Cond.instanceMethod yX10_minor, Cond.selects RX10 yX10_minor yX10_minor, Cond.code yX10_minor cX10_minor 7 (some .long), Cond.methodLink RX10 318 yX10_wageOf, Cond.instanceMethod yX10_wageOf, Cond.selects RX10 yX10_wageOf yX10_wageOf, Cond.code yX10_wageOf cX10_wageOf 13 none, Cond.methodLink RX10 277 yX10_common, Cond.static yX10_common, Cond.code yX10_common cX10_common 10 (some .long), Cond.methodLink RX10 331 yX10_apart, Cond.static yX10_apart, Cond.code yX10_apart cX10_apart 8 (some .long)]
def wsX10_edge : List Cond := .code yX10_edge cX10_edge 10 (some .int) :: ((wsX10_edge_r1 ++ (wsX10_edge_r2 ++ (wsX10_edge_r3 ++ wsX10_edge_r4))) ++ wsX100)
set_option maxRecDepth 20000 in
theorem ggX10_atWage_X10_feel : GoodIn wsX10_atWage wsX10_feel := goodIn_r _ [6, 7, 8, 9, 10, 11, 12, 13, 14, 15, 16, 17, 18, 19, 20, 21, 22, 23, 24, 25, 26, 27, 28, 29, 30, 31, 32, 33, 34, 35, 36, 37, 38, 39, 40, 41, 42, 43, 44, 45, 46, 47, 48, 49, 50, 51, 52, 53, 54, 55, 56, 57, 58, 59, 60, 61, 62, 63, 64, 65, 66, 67, 68, 69, 70, 71, 72, 73, 74] (by decide +kernel) (by decide +kernel)
set_option maxRecDepth 20000 in
theorem gX10_atWage_X10_feel : GoodIn wsX10_atWage (wsV RX10 264 RX10 yX10_feel wsX10_feel) := goodIn_app (goodIn_of _ (by decide +kernel)) ggX10_atWage_X10_feel
theorem dX10_atWage_0 : decode cX10_atWage 0 = .ok (.lload_n 1, 1) := by decide +kernel
theorem dX10_atWage_1 : decode cX10_atWage 1 = .ok (.aload_n 0, 1) := by decide +kernel
theorem dX10_atWage_2 : decode cX10_atWage 2 = .ok (.getfield 190, 3) := by decide +kernel
theorem dX10_atWage_5 : decode cX10_atWage 5 = .ok (.i2l, 1) := by decide +kernel
theorem dX10_atWage_6 : decode cX10_atWage 6 = .ok (.lmul, 1) := by decide +kernel
theorem dX10_atWage_7 : decode cX10_atWage 7 = .ok (.iload 5, 2) := by decide +kernel
theorem dX10_atWage_9 : decode cX10_atWage 9 = .ok (.i2l, 1) := by decide +kernel
theorem dX10_atWage_10 : decode cX10_atWage 10 = .ok (.lmul, 1) := by decide +kernel
theorem dX10_atWage_11 : decode cX10_atWage 11 = .ok (.lload_n 3, 1) := by decide +kernel
theorem dX10_atWage_12 : decode cX10_atWage 12 = .ok (.aload_n 0, 1) := by decide +kernel
theorem dX10_atWage_13 : decode cX10_atWage 13 = .ok (.iload 5, 2) := by decide +kernel
theorem dX10_atWage_15 : decode cX10_atWage 15 = .ok (.invokevirtual 264, 3) := by decide +kernel
theorem dX10_atWage_18 : decode cX10_atWage 18 = .ok (.i2l, 1) := by decide +kernel
theorem dX10_atWage_19 : decode cX10_atWage 19 = .ok (.lmul, 1) := by decide +kernel
theorem dX10_atWage_20 : decode cX10_atWage 20 = .ok (.lsub, 1) := by decide +kernel
theorem dX10_atWage_21 : decode cX10_atWage 21 = .ok (.lreturn, 1) := by decide +kernel
theorem pm_X10_proves_r1 : ∀ w ∈ wsX10_proves_r1, w ∈ wsX10_proves := fun _ h => List.mem_cons_of_mem _ (List.mem_append_left _ (List.mem_append_left _ h))
theorem pm_X10_proves_r2 : ∀ w ∈ wsX10_proves_r2, w ∈ wsX10_proves := fun _ h => List.mem_cons_of_mem _ (List.mem_append_left _ (List.mem_append_right _ (h)))
theorem pw_X10_proves_X10 : ∀ w ∈ wsX100, w ∈ wsX10_proves := fun _ h => List.mem_cons_of_mem _ (List.mem_append_right _ h)
set_option maxRecDepth 20000 in
theorem ggX10_proves_X10_isWork : GoodIn wsX10_proves wsX10_isWork := goodIn_sub (List.forall_mem_cons.mpr ⟨pm_X10_proves_r1 _ (List.mem_of_getElem? (i := 10) rfl), List.forall_mem_append.mpr ⟨List.forall_mem_cons.mpr ⟨pm_X10_proves_r1 _ (List.mem_of_getElem? (i := 0) rfl), List.forall_mem_cons.mpr ⟨pm_X10_proves_r1 _ (List.mem_of_getElem? (i := 11) rfl), List.forall_mem_cons.mpr ⟨pm_X10_proves_r1 _ (List.mem_of_getElem? (i := 12) rfl), List.forall_mem_cons.mpr ⟨pm_X10_proves_r1 _ (List.mem_of_getElem? (i := 9) rfl), List.forall_mem_cons.mpr ⟨pm_X10_proves_r1 _ (List.mem_of_getElem? (i := 13) rfl), fun _ h => absurd h List.not_mem_nil⟩⟩⟩⟩⟩, pw_X10_proves_X10⟩⟩) (by decide +kernel)
set_option maxRecDepth 20000 in
theorem gX10_proves_X10_isWork : GoodIn wsX10_proves (wsV RX10 253 RX10 yX10_isWork wsX10_isWork) := goodIn_app (goodIn_of _ (by decide +kernel)) ggX10_proves_X10_isWork
set_option maxRecDepth 20000 in
theorem ggX10_proves_X10_chanceOf : GoodIn wsX10_proves wsX10_chanceOf := goodIn_sub (List.forall_mem_cons.mpr ⟨pm_X10_proves_r1 _ (List.mem_of_getElem? (i := 17) rfl), List.forall_mem_append.mpr ⟨List.forall_mem_cons.mpr ⟨pm_X10_proves_r1 _ (List.mem_of_getElem? (i := 18) rfl), fun _ h => absurd h List.not_mem_nil⟩, pw_X10_proves_X10⟩⟩) (by decide +kernel)
set_option maxRecDepth 20000 in
theorem gX10_proves_X10_chanceOf : GoodIn wsX10_proves (wsV RX10 259 RX10 yX10_chanceOf wsX10_chanceOf) := goodIn_app (goodIn_of _ (by decide +kernel)) ggX10_proves_X10_chanceOf
set_option maxRecDepth 20000 in
theorem ggX10_proves_X10_atWage : GoodIn wsX10_proves wsX10_atWage := goodIn_sub (List.forall_mem_cons.mpr ⟨pm_X10_proves_r1 _ (List.mem_of_getElem? (i := 22) rfl), List.forall_mem_append.mpr ⟨List.forall_mem_cons.mpr ⟨pm_X10_proves_r1 _ (List.mem_of_getElem? (i := 3) rfl), List.forall_mem_cons.mpr ⟨pm_X10_proves_r1 _ (List.mem_of_getElem? (i := 23) rfl), List.forall_mem_cons.mpr ⟨pm_X10_proves_r2 _ (List.mem_of_getElem? (i := 0) rfl), List.forall_mem_cons.mpr ⟨pm_X10_proves_r2 _ (List.mem_of_getElem? (i := 1) rfl), List.forall_mem_cons.mpr ⟨pm_X10_proves_r1 _ (List.mem_of_getElem? (i := 9) rfl), List.forall_mem_cons.mpr ⟨pm_X10_proves_r2 _ (List.mem_of_getElem? (i := 2) rfl), List.forall_mem_cons.mpr ⟨pm_X10_proves_r1 _ (List.mem_of_getElem? (i := 0) rfl), List.forall_mem_cons.mpr ⟨pm_X10_proves_r1 _ (List.mem_of_getElem? (i := 5) rfl), List.forall_mem_cons.mpr ⟨pm_X10_proves_r1 _ (List.mem_of_getElem? (i := 4) rfl), fun _ h => absurd h List.not_mem_nil⟩⟩⟩⟩⟩⟩⟩⟩⟩, pw_X10_proves_X10⟩⟩) (by decide +kernel)
set_option maxRecDepth 20000 in
theorem gX10_proves_X10_atWage : GoodIn wsX10_proves (wsV RX10 401 RX10 yX10_atWage wsX10_atWage) := goodIn_app (goodIn_of _ (by decide +kernel)) ggX10_proves_X10_atWage
set_option maxRecDepth 20000 in
theorem ggX10_proves_X10_tell : GoodIn wsX10_proves wsX10_tell := goodIn_sub (List.forall_mem_cons.mpr ⟨pm_X10_proves_r2 _ (List.mem_of_getElem? (i := 6) rfl), List.forall_mem_append.mpr ⟨List.forall_mem_cons.mpr ⟨pm_X10_proves_r2 _ (List.mem_of_getElem? (i := 7) rfl), List.forall_mem_cons.mpr ⟨pm_X10_proves_r2 _ (List.mem_of_getElem? (i := 8) rfl), List.forall_mem_cons.mpr ⟨pm_X10_proves_r2 _ (List.mem_of_getElem? (i := 9) rfl), List.forall_mem_cons.mpr ⟨pm_X10_proves_r2 _ (List.mem_of_getElem? (i := 10) rfl), List.forall_mem_cons.mpr ⟨pm_X10_proves_r2 _ (List.mem_of_getElem? (i := 11) rfl), List.forall_mem_cons.mpr ⟨pm_X10_proves_r1 _ (List.mem_of_getElem? (i := 9) rfl), List.forall_mem_cons.mpr ⟨pm_X10_proves_r2 _ (List.mem_of_getElem? (i := 12) rfl), fun _ h => absurd h List.not_mem_nil⟩⟩⟩⟩⟩⟩⟩, pw_X10_proves_X10⟩⟩) (by decide +kernel)
set_option maxRecDepth 20000 in
theorem gX10_proves_X10_tell : GoodIn wsX10_proves (wsV RX10 355 RX10 yX10_tell wsX10_tell) := goodIn_app (goodIn_of _ (by decide +kernel)) ggX10_proves_X10_tell
theorem dX10_proves_0 : decode cX10_proves 0 = .ok (.aload_n 0, 1) := by decide +kernel
theorem dX10_proves_1 : decode cX10_proves 1 = .ok (.iload_n 1, 1) := by decide +kernel
theorem dX10_proves_2 : decode cX10_proves 2 = .ok (.invokevirtual 253, 3) := by decide +kernel
theorem dX10_proves_5 : decode cX10_proves 5 = .ok (.ifCond .ne 6, 3) := by decide +kernel
theorem dX10_proves_8 : decode cX10_proves 8 = .ok (.bipush (-2), 2) := by decide +kernel
theorem dX10_proves_10 : decode cX10_proves 10 = .ok (.ireturn, 1) := by decide +kernel
theorem dX10_proves_11 : decode cX10_proves 11 = .ok (.aload_n 0, 1) := by decide +kernel
theorem dX10_proves_12 : decode cX10_proves 12 = .ok (.getfield 17, 3) := by decide +kernel
theorem dX10_proves_15 : decode cX10_proves 15 = .ok (.iconst 0, 1) := by decide +kernel
theorem dX10_proves_16 : decode cX10_proves 16 = .ok (.iaload, 1) := by decide +kernel
theorem dX10_proves_17 : decode cX10_proves 17 = .ok (.i2l, 1) := by decide +kernel
theorem dX10_proves_18 : decode cX10_proves 18 = .ok (.lstore_n 2, 1) := by decide +kernel
theorem dX10_proves_19 : decode cX10_proves 19 = .ok (.lload_n 2, 1) := by decide +kernel
theorem dX10_proves_20 : decode cX10_proves 20 = .ok (.aload_n 0, 1) := by decide +kernel
theorem dX10_proves_21 : decode cX10_proves 21 = .ok (.getfield 85, 3) := by decide +kernel
theorem dX10_proves_24 : decode cX10_proves 24 = .ok (.iconst 5, 1) := by decide +kernel
theorem dX10_proves_25 : decode cX10_proves 25 = .ok (.iaload, 1) := by decide +kernel
theorem dX10_proves_26 : decode cX10_proves 26 = .ok (.i2l, 1) := by decide +kernel
theorem dX10_proves_27 : decode cX10_proves 27 = .ok (.lmul, 1) := by decide +kernel
theorem dX10_proves_28 : decode cX10_proves 28 = .ok (.aload_n 0, 1) := by decide +kernel
theorem dX10_proves_29 : decode cX10_proves 29 = .ok (.getfield 31, 3) := by decide +kernel
theorem dX10_proves_32 : decode cX10_proves 32 = .ok (.iload_n 1, 1) := by decide +kernel
theorem dX10_proves_33 : decode cX10_proves 33 = .ok (.iaload, 1) := by decide +kernel
theorem dX10_proves_34 : decode cX10_proves 34 = .ok (.aload_n 0, 1) := by decide +kernel
theorem dX10_proves_35 : decode cX10_proves 35 = .ok (.getfield 17, 3) := by decide +kernel
theorem dX10_proves_38 : decode cX10_proves 38 = .ok (.iconst 1, 1) := by decide +kernel
theorem dX10_proves_39 : decode cX10_proves 39 = .ok (.iaload, 1) := by decide +kernel
theorem dX10_proves_40 : decode cX10_proves 40 = .ok (.iadd, 1) := by decide +kernel
theorem dX10_proves_41 : decode cX10_proves 41 = .ok (.i2l, 1) := by decide +kernel
theorem dX10_proves_42 : decode cX10_proves 42 = .ok (.lmul, 1) := by decide +kernel
theorem dX10_proves_43 : decode cX10_proves 43 = .ok (.lstore 4, 2) := by decide +kernel
theorem dX10_proves_45 : decode cX10_proves 45 = .ok (.iconst 0, 1) := by decide +kernel
theorem dX10_proves_46 : decode cX10_proves 46 = .ok (.istore 6, 2) := by decide +kernel
theorem dX10_proves_48 : decode cX10_proves 48 = .ok (.iload 6, 2) := by decide +kernel
theorem dX10_proves_50 : decode cX10_proves 50 = .ok (.aload_n 0, 1) := by decide +kernel
theorem dX10_proves_51 : decode cX10_proves 51 = .ok (.getfield 17, 3) := by decide +kernel
theorem dX10_proves_54 : decode cX10_proves 54 = .ok (.iconst 4, 1) := by decide +kernel
theorem dX10_proves_55 : decode cX10_proves 55 = .ok (.iaload, 1) := by decide +kernel
theorem dX10_proves_56 : decode cX10_proves 56 = .ok (.if_icmp .ge 40, 3) := by decide +kernel
theorem dX10_proves_59 : decode cX10_proves 59 = .ok (.lload 4, 2) := by decide +kernel
theorem dX10_proves_61 : decode cX10_proves 61 = .ok (.lload_n 2, 1) := by decide +kernel
theorem dX10_proves_62 : decode cX10_proves 62 = .ok (.aload_n 0, 1) := by decide +kernel
theorem dX10_proves_63 : decode cX10_proves 63 = .ok (.getfield 85, 3) := by decide +kernel
theorem dX10_proves_66 : decode cX10_proves 66 = .ok (.iload 6, 2) := by decide +kernel
theorem dX10_proves_68 : decode cX10_proves 68 = .ok (.iaload, 1) := by decide +kernel
theorem dX10_proves_69 : decode cX10_proves 69 = .ok (.i2l, 1) := by decide +kernel
theorem dX10_proves_70 : decode cX10_proves 70 = .ok (.lmul, 1) := by decide +kernel
theorem dX10_proves_71 : decode cX10_proves 71 = .ok (.aload_n 0, 1) := by decide +kernel
theorem dX10_proves_72 : decode cX10_proves 72 = .ok (.getfield 31, 3) := by decide +kernel
theorem dX10_proves_75 : decode cX10_proves 75 = .ok (.iload_n 1, 1) := by decide +kernel
theorem dX10_proves_76 : decode cX10_proves 76 = .ok (.iaload, 1) := by decide +kernel
theorem dX10_proves_77 : decode cX10_proves 77 = .ok (.aload_n 0, 1) := by decide +kernel
theorem dX10_proves_78 : decode cX10_proves 78 = .ok (.getfield 31, 3) := by decide +kernel
theorem dX10_proves_81 : decode cX10_proves 81 = .ok (.iload 6, 2) := by decide +kernel
theorem dX10_proves_83 : decode cX10_proves 83 = .ok (.iaload, 1) := by decide +kernel
theorem dX10_proves_84 : decode cX10_proves 84 = .ok (.isub, 1) := by decide +kernel
theorem dX10_proves_85 : decode cX10_proves 85 = .ok (.i2l, 1) := by decide +kernel
theorem dX10_proves_86 : decode cX10_proves 86 = .ok (.lmul, 1) := by decide +kernel
theorem dX10_proves_87 : decode cX10_proves 87 = .ok (.ladd, 1) := by decide +kernel
theorem dX10_proves_88 : decode cX10_proves 88 = .ok (.lstore 4, 2) := by decide +kernel
theorem dX10_proves_90 : decode cX10_proves 90 = .ok (.iinc 6 1, 3) := by decide +kernel
theorem dX10_proves_93 : decode cX10_proves 93 = .ok (.goto (-45), 3) := by decide +kernel
theorem dX10_proves_96 : decode cX10_proves 96 = .ok (.iconst 0, 1) := by decide +kernel
theorem dX10_proves_97 : decode cX10_proves 97 = .ok (.istore 6, 2) := by decide +kernel
theorem dX10_proves_99 : decode cX10_proves 99 = .ok (.iload 6, 2) := by decide +kernel
theorem dX10_proves_101 : decode cX10_proves 101 = .ok (.aload_n 0, 1) := by decide +kernel
theorem dX10_proves_102 : decode cX10_proves 102 = .ok (.getfield 17, 3) := by decide +kernel
theorem dX10_proves_105 : decode cX10_proves 105 = .ok (.iconst 3, 1) := by decide +kernel
theorem dX10_proves_106 : decode cX10_proves 106 = .ok (.iaload, 1) := by decide +kernel
theorem dX10_proves_107 : decode cX10_proves 107 = .ok (.if_icmp .ge 206, 3) := by decide +kernel
theorem dX10_proves_110 : decode cX10_proves 110 = .ok (.aload_n 0, 1) := by decide +kernel
theorem dX10_proves_111 : decode cX10_proves 111 = .ok (.iload_n 1, 1) := by decide +kernel
theorem dX10_proves_112 : decode cX10_proves 112 = .ok (.iload 6, 2) := by decide +kernel
theorem dX10_proves_114 : decode cX10_proves 114 = .ok (.invokevirtual 259, 3) := by decide +kernel
theorem dX10_proves_117 : decode cX10_proves 117 = .ok (.i2l, 1) := by decide +kernel
theorem dX10_proves_118 : decode cX10_proves 118 = .ok (.lstore 7, 2) := by decide +kernel
theorem dX10_proves_120 : decode cX10_proves 120 = .ok (.aload_n 0, 1) := by decide +kernel
theorem dX10_proves_121 : decode cX10_proves 121 = .ok (.getfield 85, 3) := by decide +kernel
theorem dX10_proves_124 : decode cX10_proves 124 = .ok (.iconst 5, 1) := by decide +kernel
theorem dX10_proves_125 : decode cX10_proves 125 = .ok (.iaload, 1) := by decide +kernel
theorem dX10_proves_126 : decode cX10_proves 126 = .ok (.i2l, 1) := by decide +kernel
theorem dX10_proves_127 : decode cX10_proves 127 = .ok (.lload 7, 2) := by decide +kernel
theorem dX10_proves_129 : decode cX10_proves 129 = .ok (.lmul, 1) := by decide +kernel
theorem dX10_proves_130 : decode cX10_proves 130 = .ok (.lstore 9, 2) := by decide +kernel
theorem dX10_proves_132 : decode cX10_proves 132 = .ok (.iconst 0, 1) := by decide +kernel
theorem dX10_proves_133 : decode cX10_proves 133 = .ok (.istore 11, 2) := by decide +kernel
theorem dX10_proves_135 : decode cX10_proves 135 = .ok (.iload 11, 2) := by decide +kernel
theorem dX10_proves_137 : decode cX10_proves 137 = .ok (.aload_n 0, 1) := by decide +kernel
theorem dX10_proves_138 : decode cX10_proves 138 = .ok (.getfield 17, 3) := by decide +kernel
theorem dX10_proves_141 : decode cX10_proves 141 = .ok (.iconst 4, 1) := by decide +kernel
theorem dX10_proves_142 : decode cX10_proves 142 = .ok (.iaload, 1) := by decide +kernel
theorem dX10_proves_143 : decode cX10_proves 143 = .ok (.if_icmp .ge 35, 3) := by decide +kernel
theorem dX10_proves_146 : decode cX10_proves 146 = .ok (.lload 9, 2) := by decide +kernel
theorem dX10_proves_148 : decode cX10_proves 148 = .ok (.aload_n 0, 1) := by decide +kernel
theorem dX10_proves_149 : decode cX10_proves 149 = .ok (.getfield 85, 3) := by decide +kernel
theorem dX10_proves_152 : decode cX10_proves 152 = .ok (.iload 11, 2) := by decide +kernel
theorem dX10_proves_154 : decode cX10_proves 154 = .ok (.iaload, 1) := by decide +kernel
theorem dX10_proves_155 : decode cX10_proves 155 = .ok (.i2l, 1) := by decide +kernel
theorem dX10_proves_156 : decode cX10_proves 156 = .ok (.lload 7, 2) := by decide +kernel
theorem dX10_proves_158 : decode cX10_proves 158 = .ok (.aload_n 0, 1) := by decide +kernel
theorem dX10_proves_159 : decode cX10_proves 159 = .ok (.iload 11, 2) := by decide +kernel
theorem dX10_proves_161 : decode cX10_proves 161 = .ok (.iload 6, 2) := by decide +kernel
theorem dX10_proves_163 : decode cX10_proves 163 = .ok (.invokevirtual 259, 3) := by decide +kernel
theorem dX10_proves_166 : decode cX10_proves 166 = .ok (.i2l, 1) := by decide +kernel
theorem dX10_proves_167 : decode cX10_proves 167 = .ok (.lsub, 1) := by decide +kernel
theorem dX10_proves_168 : decode cX10_proves 168 = .ok (.lmul, 1) := by decide +kernel
theorem dX10_proves_169 : decode cX10_proves 169 = .ok (.ladd, 1) := by decide +kernel
theorem dX10_proves_170 : decode cX10_proves 170 = .ok (.lstore 9, 2) := by decide +kernel
theorem dX10_proves_172 : decode cX10_proves 172 = .ok (.iinc 11 1, 3) := by decide +kernel
theorem dX10_proves_175 : decode cX10_proves 175 = .ok (.goto (-40), 3) := by decide +kernel
theorem dX10_proves_178 : decode cX10_proves 178 = .ok (.lload 7, 2) := by decide +kernel
theorem dX10_proves_180 : decode cX10_proves 180 = .ok (.aload_n 0, 1) := by decide +kernel
theorem dX10_proves_181 : decode cX10_proves 181 = .ok (.getfield 190, 3) := by decide +kernel
theorem dX10_proves_184 : decode cX10_proves 184 = .ok (.i2l, 1) := by decide +kernel
theorem dX10_proves_185 : decode cX10_proves 185 = .ok (.lmul, 1) := by decide +kernel
theorem dX10_proves_186 : decode cX10_proves 186 = .ok (.lload 9, 2) := by decide +kernel
theorem dX10_proves_188 : decode cX10_proves 188 = .ok (.aload_n 0, 1) := by decide +kernel
theorem dX10_proves_189 : decode cX10_proves 189 = .ok (.getfield 37, 3) := by decide +kernel
theorem dX10_proves_192 : decode cX10_proves 192 = .ok (.aload_n 0, 1) := by decide +kernel
theorem dX10_proves_193 : decode cX10_proves 193 = .ok (.getfield 17, 3) := by decide +kernel
theorem dX10_proves_196 : decode cX10_proves 196 = .ok (.iconst 5, 1) := by decide +kernel
theorem dX10_proves_197 : decode cX10_proves 197 = .ok (.iaload, 1) := by decide +kernel
theorem dX10_proves_198 : decode cX10_proves 198 = .ok (.iconst 1, 1) := by decide +kernel
theorem dX10_proves_199 : decode cX10_proves 199 = .ok (.isub, 1) := by decide +kernel
theorem dX10_proves_200 : decode cX10_proves 200 = .ok (.iaload, 1) := by decide +kernel
theorem dX10_proves_201 : decode cX10_proves 201 = .ok (.i2l, 1) := by decide +kernel
theorem dX10_proves_202 : decode cX10_proves 202 = .ok (.lmul, 1) := by decide +kernel
theorem dX10_proves_203 : decode cX10_proves 203 = .ok (.lcmp, 1) := by decide +kernel
theorem dX10_proves_204 : decode cX10_proves 204 = .ok (.ifCond .ge 5, 3) := by decide +kernel
theorem dX10_proves_207 : decode cX10_proves 207 = .ok (.iconst (-1), 1) := by decide +kernel
theorem dX10_proves_208 : decode cX10_proves 208 = .ok (.ireturn, 1) := by decide +kernel
theorem dX10_proves_209 : decode cX10_proves 209 = .ok (.aload_n 0, 1) := by decide +kernel
theorem dX10_proves_210 : decode cX10_proves 210 = .ok (.lload 7, 2) := by decide +kernel
theorem dX10_proves_212 : decode cX10_proves 212 = .ok (.lload 9, 2) := by decide +kernel
theorem dX10_proves_214 : decode cX10_proves 214 = .ok (.aload_n 0, 1) := by decide +kernel
theorem dX10_proves_215 : decode cX10_proves 215 = .ok (.getfield 17, 3) := by decide +kernel
theorem dX10_proves_218 : decode cX10_proves 218 = .ok (.iconst 2, 1) := by decide +kernel
theorem dX10_proves_219 : decode cX10_proves 219 = .ok (.iaload, 1) := by decide +kernel
theorem dX10_proves_220 : decode cX10_proves 220 = .ok (.invokevirtual 401, 3) := by decide +kernel
theorem dX10_proves_223 : decode cX10_proves 223 = .ok (.lstore 11, 2) := by decide +kernel
theorem dX10_proves_225 : decode cX10_proves 225 = .ok (.iconst 0, 1) := by decide +kernel
theorem dX10_proves_226 : decode cX10_proves 226 = .ok (.istore 13, 2) := by decide +kernel
theorem dX10_proves_228 : decode cX10_proves 228 = .ok (.iload 13, 2) := by decide +kernel
theorem dX10_proves_230 : decode cX10_proves 230 = .ok (.iconst 1, 1) := by decide +kernel
theorem dX10_proves_231 : decode cX10_proves 231 = .ok (.iadd, 1) := by decide +kernel
theorem dX10_proves_232 : decode cX10_proves 232 = .ok (.aload_n 0, 1) := by decide +kernel
theorem dX10_proves_233 : decode cX10_proves 233 = .ok (.getfield 17, 3) := by decide +kernel
theorem dX10_proves_236 : decode cX10_proves 236 = .ok (.iconst 5, 1) := by decide +kernel
theorem dX10_proves_237 : decode cX10_proves 237 = .ok (.iaload, 1) := by decide +kernel
theorem dX10_proves_238 : decode cX10_proves 238 = .ok (.if_icmp .ge 62, 3) := by decide +kernel
theorem dX10_proves_241 : decode cX10_proves 241 = .ok (.aload_n 0, 1) := by decide +kernel
theorem dX10_proves_242 : decode cX10_proves 242 = .ok (.getfield 40, 3) := by decide +kernel
theorem dX10_proves_245 : decode cX10_proves 245 = .ok (.iload 13, 2) := by decide +kernel
theorem dX10_proves_247 : decode cX10_proves 247 = .ok (.iaload, 1) := by decide +kernel
theorem dX10_proves_248 : decode cX10_proves 248 = .ok (.aload_n 0, 1) := by decide +kernel
theorem dX10_proves_249 : decode cX10_proves 249 = .ok (.getfield 17, 3) := by decide +kernel
theorem dX10_proves_252 : decode cX10_proves 252 = .ok (.iconst 2, 1) := by decide +kernel
theorem dX10_proves_253 : decode cX10_proves 253 = .ok (.iaload, 1) := by decide +kernel
theorem dX10_proves_254 : decode cX10_proves 254 = .ok (.if_icmp .gt 6, 3) := by decide +kernel
theorem dX10_proves_257 : decode cX10_proves 257 = .ok (.goto 37, 3) := by decide +kernel
theorem dX10_proves_260 : decode cX10_proves 260 = .ok (.aload_n 0, 1) := by decide +kernel
theorem dX10_proves_261 : decode cX10_proves 261 = .ok (.lload 7, 2) := by decide +kernel
theorem dX10_proves_263 : decode cX10_proves 263 = .ok (.lload 9, 2) := by decide +kernel
theorem dX10_proves_265 : decode cX10_proves 265 = .ok (.aload_n 0, 1) := by decide +kernel
theorem dX10_proves_266 : decode cX10_proves 266 = .ok (.getfield 40, 3) := by decide +kernel
theorem dX10_proves_269 : decode cX10_proves 269 = .ok (.iload 13, 2) := by decide +kernel
theorem dX10_proves_271 : decode cX10_proves 271 = .ok (.iaload, 1) := by decide +kernel
theorem dX10_proves_272 : decode cX10_proves 272 = .ok (.invokevirtual 401, 3) := by decide +kernel
theorem dX10_proves_275 : decode cX10_proves 275 = .ok (.lstore 14, 2) := by decide +kernel
theorem dX10_proves_277 : decode cX10_proves 277 = .ok (.lload 14, 2) := by decide +kernel
theorem dX10_proves_279 : decode cX10_proves 279 = .ok (.lload 11, 2) := by decide +kernel
theorem dX10_proves_281 : decode cX10_proves 281 = .ok (.lcmp, 1) := by decide +kernel
theorem dX10_proves_282 : decode cX10_proves 282 = .ok (.ifCond .ge 8, 3) := by decide +kernel
theorem dX10_proves_285 : decode cX10_proves 285 = .ok (.lload 14, 2) := by decide +kernel
theorem dX10_proves_287 : decode cX10_proves 287 = .ok (.goto 5, 3) := by decide +kernel
theorem dX10_proves_290 : decode cX10_proves 290 = .ok (.lload 11, 2) := by decide +kernel
theorem dX10_proves_292 : decode cX10_proves 292 = .ok (.lstore 11, 2) := by decide +kernel
theorem dX10_proves_294 : decode cX10_proves 294 = .ok (.iinc 13 1, 3) := by decide +kernel
theorem dX10_proves_297 : decode cX10_proves 297 = .ok (.goto (-69), 3) := by decide +kernel
theorem dX10_proves_300 : decode cX10_proves 300 = .ok (.lload 4, 2) := by decide +kernel
theorem dX10_proves_302 : decode cX10_proves 302 = .ok (.lload 11, 2) := by decide +kernel
theorem dX10_proves_304 : decode cX10_proves 304 = .ok (.ladd, 1) := by decide +kernel
theorem dX10_proves_305 : decode cX10_proves 305 = .ok (.lstore 4, 2) := by decide +kernel
theorem dX10_proves_307 : decode cX10_proves 307 = .ok (.iinc 6 1, 3) := by decide +kernel
theorem dX10_proves_310 : decode cX10_proves 310 = .ok (.goto (-211), 3) := by decide +kernel
theorem dX10_proves_313 : decode cX10_proves 313 = .ok (.aload_n 0, 1) := by decide +kernel
theorem dX10_proves_314 : decode cX10_proves 314 = .ok (.lload 4, 2) := by decide +kernel
theorem dX10_proves_316 : decode cX10_proves 316 = .ok (.lload_n 2, 1) := by decide +kernel
theorem dX10_proves_317 : decode cX10_proves 317 = .ok (.aload_n 0, 1) := by decide +kernel
theorem dX10_proves_318 : decode cX10_proves 318 = .ok (.getfield 190, 3) := by decide +kernel
theorem dX10_proves_321 : decode cX10_proves 321 = .ok (.i2l, 1) := by decide +kernel
theorem dX10_proves_322 : decode cX10_proves 322 = .ok (.lmul, 1) := by decide +kernel
theorem dX10_proves_323 : decode cX10_proves 323 = .ok (.invokevirtual 355, 3) := by decide +kernel
theorem dX10_proves_326 : decode cX10_proves 326 = .ok (.iconst 1, 1) := by decide +kernel
theorem dX10_proves_327 : decode cX10_proves 327 = .ok (.ireturn, 1) := by decide +kernel
set_option maxRecDepth 20000 in
theorem ggX10_mix_X10_isWork : GoodIn wsX10_mix wsX10_isWork := goodIn_r _ [7, 8, 9, 10, 6, 11, 12, 13, 14, 15, 16, 17, 18, 19, 20, 21, 22, 23, 24, 25, 26, 27, 28, 29, 30, 31, 32, 33, 34, 35, 36, 37, 38, 39, 40, 41, 42, 43, 44, 45, 46, 47, 48, 49, 50, 51, 52, 53, 54, 55, 56, 57, 58, 59, 60, 61, 62, 63, 64, 65, 66, 67, 68, 69, 70, 71, 72, 73, 74, 75, 76] (by decide +kernel) (by decide +kernel)
set_option maxRecDepth 20000 in
theorem gX10_mix_X10_isWork : GoodIn wsX10_mix (wsV RX10 253 RX10 yX10_isWork wsX10_isWork) := goodIn_app (goodIn_of _ (by decide +kernel)) ggX10_mix_X10_isWork
set_option maxRecDepth 20000 in
theorem ggX10_mix_X10_in : GoodIn wsX10_mix wsX10_in := goodIn_r _ [11] (by decide +kernel) (by decide +kernel)
set_option maxRecDepth 20000 in
theorem gX10_mix_X10_in : GoodIn wsX10_mix (va_wsS RX10 174 yX10_in wsX10_in) := goodIn_app (goodIn_of _ (by decide +kernel)) ggX10_mix_X10_in
theorem dX10_mix_0 : decode cX10_mix 0 = .ok (.aload_n 0, 1) := by decide +kernel
theorem dX10_mix_1 : decode cX10_mix 1 = .ok (.iload_n 1, 1) := by decide +kernel
theorem dX10_mix_2 : decode cX10_mix 2 = .ok (.invokevirtual 253, 3) := by decide +kernel
theorem dX10_mix_5 : decode cX10_mix 5 = .ok (.ifCond .eq 15, 3) := by decide +kernel
theorem dX10_mix_8 : decode cX10_mix 8 = .ok (.iload_n 2, 1) := by decide +kernel
theorem dX10_mix_9 : decode cX10_mix 9 = .ok (.i2l, 1) := by decide +kernel
theorem dX10_mix_10 : decode cX10_mix 10 = .ok (.lconst 0, 1) := by decide +kernel
theorem dX10_mix_11 : decode cX10_mix 11 = .ok (.ldc2_w 405, 3) := by decide +kernel
theorem dX10_mix_14 : decode cX10_mix 14 = .ok (.invokestatic 174, 3) := by decide +kernel
theorem dX10_mix_17 : decode cX10_mix 17 = .ok (.ifCond .ne 6, 3) := by decide +kernel
theorem dX10_mix_20 : decode cX10_mix 20 = .ok (.bipush (-2), 2) := by decide +kernel
theorem dX10_mix_22 : decode cX10_mix 22 = .ok (.ireturn, 1) := by decide +kernel
theorem dX10_mix_23 : decode cX10_mix 23 = .ok (.aload_n 0, 1) := by decide +kernel
theorem dX10_mix_24 : decode cX10_mix 24 = .ok (.getfield 88, 3) := by decide +kernel
theorem dX10_mix_27 : decode cX10_mix 27 = .ok (.iload_n 1, 1) := by decide +kernel
theorem dX10_mix_28 : decode cX10_mix 28 = .ok (.iaload, 1) := by decide +kernel
theorem dX10_mix_29 : decode cX10_mix 29 = .ok (.istore_n 3, 1) := by decide +kernel
theorem dX10_mix_30 : decode cX10_mix 30 = .ok (.aload_n 0, 1) := by decide +kernel
theorem dX10_mix_31 : decode cX10_mix 31 = .ok (.getfield 88, 3) := by decide +kernel
theorem dX10_mix_34 : decode cX10_mix 34 = .ok (.iload_n 1, 1) := by decide +kernel
theorem dX10_mix_35 : decode cX10_mix 35 = .ok (.iload_n 2, 1) := by decide +kernel
theorem dX10_mix_36 : decode cX10_mix 36 = .ok (.iastore, 1) := by decide +kernel
theorem dX10_mix_37 : decode cX10_mix 37 = .ok (.iload_n 3, 1) := by decide +kernel
theorem dX10_mix_38 : decode cX10_mix 38 = .ok (.ireturn, 1) := by decide +kernel
set_option maxRecDepth 20000 in
theorem ggX10_same_X10_isWork : GoodIn wsX10_same wsX10_isWork := goodIn_r _ [8, 1, 9, 10, 7, 11, 17, 18, 19, 20, 21, 22, 23, 24, 25, 26, 27, 28, 29, 30, 31, 32, 33, 34, 35, 36, 37, 38, 39, 40, 41, 42, 43, 44, 45, 46, 47, 48, 49, 50, 51, 52, 53, 54, 55, 56, 57, 58, 59, 60, 61, 62, 63, 64, 65, 66, 67, 68, 69, 70, 71, 72, 73, 74, 75, 76, 77, 78, 79, 80, 81] (by decide +kernel) (by decide +kernel)
set_option maxRecDepth 20000 in
theorem gX10_same_X10_isWork : GoodIn wsX10_same (wsV RX10 253 RX10 yX10_isWork wsX10_isWork) := goodIn_app (goodIn_of _ (by decide +kernel)) ggX10_same_X10_isWork
set_option maxRecDepth 20000 in
theorem ggX10_same_X10_chanceOf : GoodIn wsX10_same wsX10_chanceOf := goodIn_r _ [15, 16, 17, 18, 19, 20, 21, 22, 23, 24, 25, 26, 27, 28, 29, 30, 31, 32, 33, 34, 35, 36, 37, 38, 39, 40, 41, 42, 43, 44, 45, 46, 47, 48, 49, 50, 51, 52, 53, 54, 55, 56, 57, 58, 59, 60, 61, 62, 63, 64, 65, 66, 67, 68, 69, 70, 71, 72, 73, 74, 75, 76, 77, 78, 79, 80, 81] (by decide +kernel) (by decide +kernel)
set_option maxRecDepth 20000 in
theorem gX10_same_X10_chanceOf : GoodIn wsX10_same (wsV RX10 259 RX10 yX10_chanceOf wsX10_chanceOf) := goodIn_app (goodIn_of _ (by decide +kernel)) ggX10_same_X10_chanceOf
theorem dX10_same_0 : decode cX10_same 0 = .ok (.aload_n 0, 1) := by decide +kernel
theorem dX10_same_1 : decode cX10_same 1 = .ok (.iload_n 1, 1) := by decide +kernel
theorem dX10_same_2 : decode cX10_same 2 = .ok (.invokevirtual 253, 3) := by decide +kernel
theorem dX10_same_5 : decode cX10_same 5 = .ok (.ifCond .ne 6, 3) := by decide +kernel
theorem dX10_same_8 : decode cX10_same 8 = .ok (.bipush (-2), 2) := by decide +kernel
theorem dX10_same_10 : decode cX10_same 10 = .ok (.ireturn, 1) := by decide +kernel
theorem dX10_same_11 : decode cX10_same 11 = .ok (.lconst 0, 1) := by decide +kernel
theorem dX10_same_12 : decode cX10_same 12 = .ok (.lstore_n 2, 1) := by decide +kernel
theorem dX10_same_13 : decode cX10_same 13 = .ok (.lconst 0, 1) := by decide +kernel
theorem dX10_same_14 : decode cX10_same 14 = .ok (.lstore 4, 2) := by decide +kernel
theorem dX10_same_16 : decode cX10_same 16 = .ok (.iconst 0, 1) := by decide +kernel
theorem dX10_same_17 : decode cX10_same 17 = .ok (.istore 6, 2) := by decide +kernel
theorem dX10_same_19 : decode cX10_same 19 = .ok (.iload 6, 2) := by decide +kernel
theorem dX10_same_21 : decode cX10_same 21 = .ok (.aload_n 0, 1) := by decide +kernel
theorem dX10_same_22 : decode cX10_same 22 = .ok (.getfield 17, 3) := by decide +kernel
theorem dX10_same_25 : decode cX10_same 25 = .ok (.iconst 4, 1) := by decide +kernel
theorem dX10_same_26 : decode cX10_same 26 = .ok (.iaload, 1) := by decide +kernel
theorem dX10_same_27 : decode cX10_same 27 = .ok (.if_icmp .ge 51, 3) := by decide +kernel
theorem dX10_same_30 : decode cX10_same 30 = .ok (.iload 6, 2) := by decide +kernel
theorem dX10_same_32 : decode cX10_same 32 = .ok (.iload_n 1, 1) := by decide +kernel
theorem dX10_same_33 : decode cX10_same 33 = .ok (.if_icmp .ne 6, 3) := by decide +kernel
theorem dX10_same_36 : decode cX10_same 36 = .ok (.goto 36, 3) := by decide +kernel
theorem dX10_same_39 : decode cX10_same 39 = .ok (.lload_n 2, 1) := by decide +kernel
theorem dX10_same_40 : decode cX10_same 40 = .ok (.aload_n 0, 1) := by decide +kernel
theorem dX10_same_41 : decode cX10_same 41 = .ok (.getfield 88, 3) := by decide +kernel
theorem dX10_same_44 : decode cX10_same 44 = .ok (.iload 6, 2) := by decide +kernel
theorem dX10_same_46 : decode cX10_same 46 = .ok (.iaload, 1) := by decide +kernel
theorem dX10_same_47 : decode cX10_same 47 = .ok (.i2l, 1) := by decide +kernel
theorem dX10_same_48 : decode cX10_same 48 = .ok (.ladd, 1) := by decide +kernel
theorem dX10_same_49 : decode cX10_same 49 = .ok (.lstore_n 2, 1) := by decide +kernel
theorem dX10_same_50 : decode cX10_same 50 = .ok (.lload 4, 2) := by decide +kernel
theorem dX10_same_52 : decode cX10_same 52 = .ok (.aload_n 0, 1) := by decide +kernel
theorem dX10_same_53 : decode cX10_same 53 = .ok (.getfield 88, 3) := by decide +kernel
theorem dX10_same_56 : decode cX10_same 56 = .ok (.iload 6, 2) := by decide +kernel
theorem dX10_same_58 : decode cX10_same 58 = .ok (.iaload, 1) := by decide +kernel
theorem dX10_same_59 : decode cX10_same 59 = .ok (.i2l, 1) := by decide +kernel
theorem dX10_same_60 : decode cX10_same 60 = .ok (.aload_n 0, 1) := by decide +kernel
theorem dX10_same_61 : decode cX10_same 61 = .ok (.getfield 31, 3) := by decide +kernel
theorem dX10_same_64 : decode cX10_same 64 = .ok (.iload 6, 2) := by decide +kernel
theorem dX10_same_66 : decode cX10_same 66 = .ok (.iaload, 1) := by decide +kernel
theorem dX10_same_67 : decode cX10_same 67 = .ok (.i2l, 1) := by decide +kernel
theorem dX10_same_68 : decode cX10_same 68 = .ok (.lmul, 1) := by decide +kernel
theorem dX10_same_69 : decode cX10_same 69 = .ok (.ladd, 1) := by decide +kernel
theorem dX10_same_70 : decode cX10_same 70 = .ok (.lstore 4, 2) := by decide +kernel
theorem dX10_same_72 : decode cX10_same 72 = .ok (.iinc 6 1, 3) := by decide +kernel
theorem dX10_same_75 : decode cX10_same 75 = .ok (.goto (-56), 3) := by decide +kernel
theorem dX10_same_78 : decode cX10_same 78 = .ok (.iconst 0, 1) := by decide +kernel
theorem dX10_same_79 : decode cX10_same 79 = .ok (.istore 6, 2) := by decide +kernel
theorem dX10_same_81 : decode cX10_same 81 = .ok (.iload 6, 2) := by decide +kernel
theorem dX10_same_83 : decode cX10_same 83 = .ok (.aload_n 0, 1) := by decide +kernel
theorem dX10_same_84 : decode cX10_same 84 = .ok (.getfield 17, 3) := by decide +kernel
theorem dX10_same_87 : decode cX10_same 87 = .ok (.iconst 3, 1) := by decide +kernel
theorem dX10_same_88 : decode cX10_same 88 = .ok (.iaload, 1) := by decide +kernel
theorem dX10_same_89 : decode cX10_same 89 = .ok (.if_icmp .ge 83, 3) := by decide +kernel
theorem dX10_same_92 : decode cX10_same 92 = .ok (.lconst 0, 1) := by decide +kernel
theorem dX10_same_93 : decode cX10_same 93 = .ok (.lstore 7, 2) := by decide +kernel
theorem dX10_same_95 : decode cX10_same 95 = .ok (.iconst 0, 1) := by decide +kernel
theorem dX10_same_96 : decode cX10_same 96 = .ok (.istore 9, 2) := by decide +kernel
theorem dX10_same_98 : decode cX10_same 98 = .ok (.iload 9, 2) := by decide +kernel
theorem dX10_same_100 : decode cX10_same 100 = .ok (.aload_n 0, 1) := by decide +kernel
theorem dX10_same_101 : decode cX10_same 101 = .ok (.getfield 17, 3) := by decide +kernel
theorem dX10_same_104 : decode cX10_same 104 = .ok (.iconst 4, 1) := by decide +kernel
theorem dX10_same_105 : decode cX10_same 105 = .ok (.iaload, 1) := by decide +kernel
theorem dX10_same_106 : decode cX10_same 106 = .ok (.if_icmp .ge 42, 3) := by decide +kernel
theorem dX10_same_109 : decode cX10_same 109 = .ok (.lload 7, 2) := by decide +kernel
theorem dX10_same_111 : decode cX10_same 111 = .ok (.iload 9, 2) := by decide +kernel
theorem dX10_same_113 : decode cX10_same 113 = .ok (.iload_n 1, 1) := by decide +kernel
theorem dX10_same_114 : decode cX10_same 114 = .ok (.if_icmp .ne 7, 3) := by decide +kernel
theorem dX10_same_117 : decode cX10_same 117 = .ok (.lconst 0, 1) := by decide +kernel
theorem dX10_same_118 : decode cX10_same 118 = .ok (.goto 21, 3) := by decide +kernel
theorem dX10_same_121 : decode cX10_same 121 = .ok (.aload_n 0, 1) := by decide +kernel
theorem dX10_same_122 : decode cX10_same 122 = .ok (.getfield 88, 3) := by decide +kernel
theorem dX10_same_125 : decode cX10_same 125 = .ok (.iload 9, 2) := by decide +kernel
theorem dX10_same_127 : decode cX10_same 127 = .ok (.iaload, 1) := by decide +kernel
theorem dX10_same_128 : decode cX10_same 128 = .ok (.i2l, 1) := by decide +kernel
theorem dX10_same_129 : decode cX10_same 129 = .ok (.aload_n 0, 1) := by decide +kernel
theorem dX10_same_130 : decode cX10_same 130 = .ok (.iload 9, 2) := by decide +kernel
theorem dX10_same_132 : decode cX10_same 132 = .ok (.iload 6, 2) := by decide +kernel
theorem dX10_same_134 : decode cX10_same 134 = .ok (.invokevirtual 259, 3) := by decide +kernel
theorem dX10_same_137 : decode cX10_same 137 = .ok (.i2l, 1) := by decide +kernel
theorem dX10_same_138 : decode cX10_same 138 = .ok (.lmul, 1) := by decide +kernel
theorem dX10_same_139 : decode cX10_same 139 = .ok (.ladd, 1) := by decide +kernel
theorem dX10_same_140 : decode cX10_same 140 = .ok (.lstore 7, 2) := by decide +kernel
theorem dX10_same_142 : decode cX10_same 142 = .ok (.iinc 9 1, 3) := by decide +kernel
theorem dX10_same_145 : decode cX10_same 145 = .ok (.goto (-47), 3) := by decide +kernel
theorem dX10_same_148 : decode cX10_same 148 = .ok (.lload 7, 2) := by decide +kernel
theorem dX10_same_150 : decode cX10_same 150 = .ok (.lload_n 2, 1) := by decide +kernel
theorem dX10_same_151 : decode cX10_same 151 = .ok (.aload_n 0, 1) := by decide +kernel
theorem dX10_same_152 : decode cX10_same 152 = .ok (.iload_n 1, 1) := by decide +kernel
theorem dX10_same_153 : decode cX10_same 153 = .ok (.iload 6, 2) := by decide +kernel
theorem dX10_same_155 : decode cX10_same 155 = .ok (.invokevirtual 259, 3) := by decide +kernel
theorem dX10_same_158 : decode cX10_same 158 = .ok (.i2l, 1) := by decide +kernel
theorem dX10_same_159 : decode cX10_same 159 = .ok (.lmul, 1) := by decide +kernel
theorem dX10_same_160 : decode cX10_same 160 = .ok (.lcmp, 1) := by decide +kernel
theorem dX10_same_161 : decode cX10_same 161 = .ok (.ifCond .eq 5, 3) := by decide +kernel
theorem dX10_same_164 : decode cX10_same 164 = .ok (.iconst 0, 1) := by decide +kernel
theorem dX10_same_165 : decode cX10_same 165 = .ok (.ireturn, 1) := by decide +kernel
theorem dX10_same_166 : decode cX10_same 166 = .ok (.iinc 6 1, 3) := by decide +kernel
theorem dX10_same_169 : decode cX10_same 169 = .ok (.goto (-88), 3) := by decide +kernel
theorem dX10_same_172 : decode cX10_same 172 = .ok (.lload 4, 2) := by decide +kernel
theorem dX10_same_174 : decode cX10_same 174 = .ok (.lload_n 2, 1) := by decide +kernel
theorem dX10_same_175 : decode cX10_same 175 = .ok (.aload_n 0, 1) := by decide +kernel
theorem dX10_same_176 : decode cX10_same 176 = .ok (.getfield 31, 3) := by decide +kernel
theorem dX10_same_179 : decode cX10_same 179 = .ok (.iload_n 1, 1) := by decide +kernel
theorem dX10_same_180 : decode cX10_same 180 = .ok (.iaload, 1) := by decide +kernel
theorem dX10_same_181 : decode cX10_same 181 = .ok (.i2l, 1) := by decide +kernel
theorem dX10_same_182 : decode cX10_same 182 = .ok (.lmul, 1) := by decide +kernel
theorem dX10_same_183 : decode cX10_same 183 = .ok (.lcmp, 1) := by decide +kernel
theorem dX10_same_184 : decode cX10_same 184 = .ok (.ifCond .ge 7, 3) := by decide +kernel
theorem dX10_same_187 : decode cX10_same 187 = .ok (.iconst 1, 1) := by decide +kernel
theorem dX10_same_188 : decode cX10_same 188 = .ok (.goto 4, 3) := by decide +kernel
theorem dX10_same_191 : decode cX10_same 191 = .ok (.iconst 0, 1) := by decide +kernel
theorem dX10_same_192 : decode cX10_same 192 = .ok (.ireturn, 1) := by decide +kernel
theorem pm_X10_edge_r1 : ∀ w ∈ wsX10_edge_r1, w ∈ wsX10_edge := fun _ h => List.mem_cons_of_mem _ (List.mem_append_left _ (List.mem_append_left _ h))
theorem pm_X10_edge_r2 : ∀ w ∈ wsX10_edge_r2, w ∈ wsX10_edge := fun _ h => List.mem_cons_of_mem _ (List.mem_append_left _ (List.mem_append_right _ (List.mem_append_left _ h)))
theorem pm_X10_edge_r3 : ∀ w ∈ wsX10_edge_r3, w ∈ wsX10_edge := fun _ h => List.mem_cons_of_mem _ (List.mem_append_left _ (List.mem_append_right _ (List.mem_append_right _ (List.mem_append_left _ h))))
theorem pm_X10_edge_r4 : ∀ w ∈ wsX10_edge_r4, w ∈ wsX10_edge := fun _ h => List.mem_cons_of_mem _ (List.mem_append_left _ (List.mem_append_right _ (List.mem_append_right _ (List.mem_append_right _ (h)))))
theorem pw_X10_edge_X10 : ∀ w ∈ wsX100, w ∈ wsX10_edge := fun _ h => List.mem_cons_of_mem _ (List.mem_append_right _ h)
set_option maxRecDepth 20000 in
theorem ggX10_edge_X10_isWork : GoodIn wsX10_edge wsX10_isWork := goodIn_sub (List.forall_mem_cons.mpr ⟨pm_X10_edge_r1 _ (List.mem_of_getElem? (i := 5) rfl), List.forall_mem_append.mpr ⟨List.forall_mem_cons.mpr ⟨pm_X10_edge_r1 _ (List.mem_of_getElem? (i := 6) rfl), List.forall_mem_cons.mpr ⟨pm_X10_edge_r1 _ (List.mem_of_getElem? (i := 7) rfl), List.forall_mem_cons.mpr ⟨pm_X10_edge_r1 _ (List.mem_of_getElem? (i := 8) rfl), List.forall_mem_cons.mpr ⟨pm_X10_edge_r1 _ (List.mem_of_getElem? (i := 4) rfl), List.forall_mem_cons.mpr ⟨pm_X10_edge_r1 _ (List.mem_of_getElem? (i := 9) rfl), fun _ h => absurd h List.not_mem_nil⟩⟩⟩⟩⟩, pw_X10_edge_X10⟩⟩) (by decide +kernel)
set_option maxRecDepth 20000 in
theorem gX10_edge_X10_isWork : GoodIn wsX10_edge (wsV RX10 253 RX10 yX10_isWork wsX10_isWork) := goodIn_app (goodIn_of _ (by decide +kernel)) ggX10_edge_X10_isWork
set_option maxRecDepth 20000 in
theorem ggX10_edge_X10_isSign : GoodIn wsX10_edge wsX10_isSign := goodIn_sub (List.forall_mem_cons.mpr ⟨pm_X10_edge_r1 _ (List.mem_of_getElem? (i := 13) rfl), List.forall_mem_append.mpr ⟨List.forall_mem_cons.mpr ⟨pm_X10_edge_r1 _ (List.mem_of_getElem? (i := 6) rfl), List.forall_mem_cons.mpr ⟨pm_X10_edge_r1 _ (List.mem_of_getElem? (i := 7) rfl), List.forall_mem_cons.mpr ⟨pm_X10_edge_r1 _ (List.mem_of_getElem? (i := 8) rfl), List.forall_mem_cons.mpr ⟨pm_X10_edge_r1 _ (List.mem_of_getElem? (i := 4) rfl), List.forall_mem_cons.mpr ⟨pm_X10_edge_r1 _ (List.mem_of_getElem? (i := 9) rfl), fun _ h => absurd h List.not_mem_nil⟩⟩⟩⟩⟩, pw_X10_edge_X10⟩⟩) (by decide +kernel)
set_option maxRecDepth 20000 in
theorem gX10_edge_X10_isSign : GoodIn wsX10_edge (wsV RX10 256 RX10 yX10_isSign wsX10_isSign) := goodIn_app (goodIn_of _ (by decide +kernel)) ggX10_edge_X10_isSign
set_option maxRecDepth 20000 in
theorem pq_X10_edge_X10_bestWork_r1 : ∀ w ∈ wsX10_bestWork_r1, w ∈ wsX10_edge := List.forall_mem_cons.mpr ⟨pm_X10_edge_r1 _ (List.mem_of_getElem? (i := 6) rfl), List.forall_mem_cons.mpr ⟨pm_X10_edge_r1 _ (List.mem_of_getElem? (i := 18) rfl), List.forall_mem_cons.mpr ⟨pm_X10_edge_r1 _ (List.mem_of_getElem? (i := 19) rfl), List.forall_mem_cons.mpr ⟨pm_X10_edge_r1 _ (List.mem_of_getElem? (i := 20) rfl), List.forall_mem_cons.mpr ⟨pm_X10_edge_r1 _ (List.mem_of_getElem? (i := 21) rfl), List.forall_mem_cons.mpr ⟨pm_X10_edge_r1 _ (List.mem_of_getElem? (i := 22) rfl), List.forall_mem_cons.mpr ⟨pm_X10_edge_r1 _ (List.mem_of_getElem? (i := 23) rfl), List.forall_mem_cons.mpr ⟨pm_X10_edge_r2 _ (List.mem_of_getElem? (i := 0) rfl), List.forall_mem_cons.mpr ⟨pm_X10_edge_r2 _ (List.mem_of_getElem? (i := 1) rfl), List.forall_mem_cons.mpr ⟨pm_X10_edge_r1 _ (List.mem_of_getElem? (i := 4) rfl), List.forall_mem_cons.mpr ⟨pm_X10_edge_r2 _ (List.mem_of_getElem? (i := 2) rfl), List.forall_mem_cons.mpr ⟨pm_X10_edge_r2 _ (List.mem_of_getElem? (i := 3) rfl), List.forall_mem_cons.mpr ⟨pm_X10_edge_r2 _ (List.mem_of_getElem? (i := 4) rfl), List.forall_mem_cons.mpr ⟨pm_X10_edge_r2 _ (List.mem_of_getElem? (i := 5) rfl), List.forall_mem_cons.mpr ⟨pm_X10_edge_r2 _ (List.mem_of_getElem? (i := 6) rfl), List.forall_mem_cons.mpr ⟨pm_X10_edge_r2 _ (List.mem_of_getElem? (i := 7) rfl), List.forall_mem_cons.mpr ⟨pm_X10_edge_r2 _ (List.mem_of_getElem? (i := 8) rfl), List.forall_mem_cons.mpr ⟨pm_X10_edge_r2 _ (List.mem_of_getElem? (i := 9) rfl), List.forall_mem_cons.mpr ⟨pm_X10_edge_r2 _ (List.mem_of_getElem? (i := 10) rfl), List.forall_mem_cons.mpr ⟨pm_X10_edge_r2 _ (List.mem_of_getElem? (i := 11) rfl), List.forall_mem_cons.mpr ⟨pm_X10_edge_r2 _ (List.mem_of_getElem? (i := 12) rfl), List.forall_mem_cons.mpr ⟨pm_X10_edge_r2 _ (List.mem_of_getElem? (i := 13) rfl), List.forall_mem_cons.mpr ⟨pm_X10_edge_r2 _ (List.mem_of_getElem? (i := 14) rfl), List.forall_mem_cons.mpr ⟨pm_X10_edge_r2 _ (List.mem_of_getElem? (i := 15) rfl), fun _ h => absurd h List.not_mem_nil⟩⟩⟩⟩⟩⟩⟩⟩⟩⟩⟩⟩⟩⟩⟩⟩⟩⟩⟩⟩⟩⟩⟩⟩
set_option maxRecDepth 20000 in
theorem pq_X10_edge_X10_bestWork_r2 : ∀ w ∈ wsX10_bestWork_r2, w ∈ wsX10_edge := List.forall_mem_cons.mpr ⟨pm_X10_edge_r2 _ (List.mem_of_getElem? (i := 16) rfl), List.forall_mem_cons.mpr ⟨pm_X10_edge_r2 _ (List.mem_of_getElem? (i := 17) rfl), List.forall_mem_cons.mpr ⟨pm_X10_edge_r2 _ (List.mem_of_getElem? (i := 18) rfl), List.forall_mem_cons.mpr ⟨pm_X10_edge_r2 _ (List.mem_of_getElem? (i := 19) rfl), List.forall_mem_cons.mpr ⟨pm_X10_edge_r2 _ (List.mem_of_getElem? (i := 20) rfl), List.forall_mem_cons.mpr ⟨pm_X10_edge_r2 _ (List.mem_of_getElem? (i := 21) rfl), List.forall_mem_cons.mpr ⟨pm_X10_edge_r2 _ (List.mem_of_getElem? (i := 22) rfl), List.forall_mem_cons.mpr ⟨pm_X10_edge_r2 _ (List.mem_of_getElem? (i := 23) rfl), List.forall_mem_cons.mpr ⟨pm_X10_edge_r3 _ (List.mem_of_getElem? (i := 0) rfl), List.forall_mem_cons.mpr ⟨pm_X10_edge_r3 _ (List.mem_of_getElem? (i := 1) rfl), List.forall_mem_cons.mpr ⟨pm_X10_edge_r3 _ (List.mem_of_getElem? (i := 2) rfl), List.forall_mem_cons.mpr ⟨pm_X10_edge_r3 _ (List.mem_of_getElem? (i := 3) rfl), List.forall_mem_cons.mpr ⟨pm_X10_edge_r1 _ (List.mem_of_getElem? (i := 0) rfl), List.forall_mem_cons.mpr ⟨pm_X10_edge_r3 _ (List.mem_of_getElem? (i := 4) rfl), List.forall_mem_cons.mpr ⟨pm_X10_edge_r3 _ (List.mem_of_getElem? (i := 5) rfl), List.forall_mem_cons.mpr ⟨pm_X10_edge_r3 _ (List.mem_of_getElem? (i := 6) rfl), List.forall_mem_cons.mpr ⟨pm_X10_edge_r3 _ (List.mem_of_getElem? (i := 7) rfl), List.forall_mem_cons.mpr ⟨pm_X10_edge_r3 _ (List.mem_of_getElem? (i := 8) rfl), List.forall_mem_cons.mpr ⟨pm_X10_edge_r3 _ (List.mem_of_getElem? (i := 9) rfl), List.forall_mem_cons.mpr ⟨pm_X10_edge_r3 _ (List.mem_of_getElem? (i := 10) rfl), List.forall_mem_cons.mpr ⟨pm_X10_edge_r3 _ (List.mem_of_getElem? (i := 11) rfl), List.forall_mem_cons.mpr ⟨pm_X10_edge_r3 _ (List.mem_of_getElem? (i := 12) rfl), List.forall_mem_cons.mpr ⟨pm_X10_edge_r3 _ (List.mem_of_getElem? (i := 13) rfl), List.forall_mem_cons.mpr ⟨pm_X10_edge_r3 _ (List.mem_of_getElem? (i := 14) rfl), fun _ h => absurd h List.not_mem_nil⟩⟩⟩⟩⟩⟩⟩⟩⟩⟩⟩⟩⟩⟩⟩⟩⟩⟩⟩⟩⟩⟩⟩⟩
set_option maxRecDepth 20000 in
theorem pq_X10_edge_X10_bestWork_r3 : ∀ w ∈ wsX10_bestWork_r3, w ∈ wsX10_edge := List.forall_mem_cons.mpr ⟨pm_X10_edge_r3 _ (List.mem_of_getElem? (i := 15) rfl), List.forall_mem_cons.mpr ⟨pm_X10_edge_r3 _ (List.mem_of_getElem? (i := 16) rfl), List.forall_mem_cons.mpr ⟨pm_X10_edge_r3 _ (List.mem_of_getElem? (i := 17) rfl), List.forall_mem_cons.mpr ⟨pm_X10_edge_r3 _ (List.mem_of_getElem? (i := 18) rfl), List.forall_mem_cons.mpr ⟨pm_X10_edge_r3 _ (List.mem_of_getElem? (i := 19) rfl), List.forall_mem_cons.mpr ⟨pm_X10_edge_r3 _ (List.mem_of_getElem? (i := 20) rfl), List.forall_mem_cons.mpr ⟨pm_X10_edge_r3 _ (List.mem_of_getElem? (i := 21) rfl), List.forall_mem_cons.mpr ⟨pm_X10_edge_r3 _ (List.mem_of_getElem? (i := 22) rfl), List.forall_mem_cons.mpr ⟨pm_X10_edge_r3 _ (List.mem_of_getElem? (i := 23) rfl), List.forall_mem_cons.mpr ⟨pm_X10_edge_r4 _ (List.mem_of_getElem? (i := 0) rfl), List.forall_mem_cons.mpr ⟨pm_X10_edge_r4 _ (List.mem_of_getElem? (i := 1) rfl), List.forall_mem_cons.mpr ⟨pm_X10_edge_r4 _ (List.mem_of_getElem? (i := 2) rfl), List.forall_mem_cons.mpr ⟨pm_X10_edge_r4 _ (List.mem_of_getElem? (i := 3) rfl), List.forall_mem_cons.mpr ⟨pm_X10_edge_r4 _ (List.mem_of_getElem? (i := 4) rfl), List.forall_mem_cons.mpr ⟨pm_X10_edge_r4 _ (List.mem_of_getElem? (i := 5) rfl), List.forall_mem_cons.mpr ⟨pm_X10_edge_r4 _ (List.mem_of_getElem? (i := 6) rfl), List.forall_mem_cons.mpr ⟨pm_X10_edge_r4 _ (List.mem_of_getElem? (i := 7) rfl), List.forall_mem_cons.mpr ⟨pm_X10_edge_r4 _ (List.mem_of_getElem? (i := 8) rfl), List.forall_mem_cons.mpr ⟨pm_X10_edge_r4 _ (List.mem_of_getElem? (i := 9) rfl), List.forall_mem_cons.mpr ⟨pm_X10_edge_r4 _ (List.mem_of_getElem? (i := 10) rfl), List.forall_mem_cons.mpr ⟨pm_X10_edge_r4 _ (List.mem_of_getElem? (i := 11) rfl), List.forall_mem_cons.mpr ⟨pm_X10_edge_r4 _ (List.mem_of_getElem? (i := 12) rfl), List.forall_mem_cons.mpr ⟨pm_X10_edge_r4 _ (List.mem_of_getElem? (i := 13) rfl), List.forall_mem_cons.mpr ⟨pm_X10_edge_r4 _ (List.mem_of_getElem? (i := 14) rfl), fun _ h => absurd h List.not_mem_nil⟩⟩⟩⟩⟩⟩⟩⟩⟩⟩⟩⟩⟩⟩⟩⟩⟩⟩⟩⟩⟩⟩⟩⟩
set_option maxRecDepth 20000 in
theorem pq_X10_edge_X10_bestWork_r4 : ∀ w ∈ wsX10_bestWork_r4, w ∈ wsX10_edge := List.forall_mem_cons.mpr ⟨pm_X10_edge_r4 _ (List.mem_of_getElem? (i := 15) rfl), List.forall_mem_cons.mpr ⟨pm_X10_edge_r4 _ (List.mem_of_getElem? (i := 16) rfl), List.forall_mem_cons.mpr ⟨pm_X10_edge_r4 _ (List.mem_of_getElem? (i := 17) rfl), List.forall_mem_cons.mpr ⟨pm_X10_edge_r4 _ (List.mem_of_getElem? (i := 18) rfl), List.forall_mem_cons.mpr ⟨pm_X10_edge_r4 _ (List.mem_of_getElem? (i := 19) rfl), List.forall_mem_cons.mpr ⟨pm_X10_edge_r4 _ (List.mem_of_getElem? (i := 20) rfl), List.forall_mem_cons.mpr ⟨pm_X10_edge_r4 _ (List.mem_of_getElem? (i := 21) rfl), List.forall_mem_cons.mpr ⟨pm_X10_edge_r4 _ (List.mem_of_getElem? (i := 22) rfl), List.forall_mem_cons.mpr ⟨pm_X10_edge_r4 _ (List.mem_of_getElem? (i := 23) rfl), fun _ h => absurd h List.not_mem_nil⟩⟩⟩⟩⟩⟩⟩⟩⟩
set_option maxRecDepth 20000 in
theorem ggX10_edge_X10_bestWork : GoodIn wsX10_edge wsX10_bestWork := goodIn_sub (List.forall_mem_cons.mpr ⟨pm_X10_edge_r1 _ (List.mem_of_getElem? (i := 17) rfl), List.forall_mem_append.mpr ⟨List.forall_mem_append.mpr ⟨pq_X10_edge_X10_bestWork_r1, List.forall_mem_append.mpr ⟨pq_X10_edge_X10_bestWork_r2, List.forall_mem_append.mpr ⟨pq_X10_edge_X10_bestWork_r3, pq_X10_edge_X10_bestWork_r4⟩⟩⟩, pw_X10_edge_X10⟩⟩) (by decide +kernel)
set_option maxRecDepth 20000 in
theorem gX10_edge_X10_bestWork : GoodIn wsX10_edge (wsV RX10 368 RX10 yX10_bestWork wsX10_bestWork) := goodIn_app (goodIn_of _ (by decide +kernel)) ggX10_edge_X10_bestWork
theorem dX10_edge_0 : decode cX10_edge 0 = .ok (.aload_n 0, 1) := by decide +kernel
theorem dX10_edge_1 : decode cX10_edge 1 = .ok (.iload_n 1, 1) := by decide +kernel
theorem dX10_edge_2 : decode cX10_edge 2 = .ok (.invokevirtual 253, 3) := by decide +kernel
theorem dX10_edge_5 : decode cX10_edge 5 = .ok (.ifCond .eq 24, 3) := by decide +kernel
theorem dX10_edge_8 : decode cX10_edge 8 = .ok (.aload_n 0, 1) := by decide +kernel
theorem dX10_edge_9 : decode cX10_edge 9 = .ok (.iload_n 2, 1) := by decide +kernel
theorem dX10_edge_10 : decode cX10_edge 10 = .ok (.invokevirtual 256, 3) := by decide +kernel
theorem dX10_edge_13 : decode cX10_edge 13 = .ok (.ifCond .eq 16, 3) := by decide +kernel
theorem dX10_edge_16 : decode cX10_edge 16 = .ok (.aload_n 0, 1) := by decide +kernel
theorem dX10_edge_17 : decode cX10_edge 17 = .ok (.iload_n 3, 1) := by decide +kernel
theorem dX10_edge_18 : decode cX10_edge 18 = .ok (.invokevirtual 256, 3) := by decide +kernel
theorem dX10_edge_21 : decode cX10_edge 21 = .ok (.ifCond .eq 8, 3) := by decide +kernel
theorem dX10_edge_24 : decode cX10_edge 24 = .ok (.iload_n 2, 1) := by decide +kernel
theorem dX10_edge_25 : decode cX10_edge 25 = .ok (.iload_n 3, 1) := by decide +kernel
theorem dX10_edge_26 : decode cX10_edge 26 = .ok (.if_icmp .ne 6, 3) := by decide +kernel
theorem dX10_edge_29 : decode cX10_edge 29 = .ok (.bipush (-2), 2) := by decide +kernel
theorem dX10_edge_31 : decode cX10_edge 31 = .ok (.ireturn, 1) := by decide +kernel
theorem dX10_edge_32 : decode cX10_edge 32 = .ok (.aload_n 0, 1) := by decide +kernel
theorem dX10_edge_33 : decode cX10_edge 33 = .ok (.invokevirtual 368, 3) := by decide +kernel
theorem dX10_edge_36 : decode cX10_edge 36 = .ok (.istore 4, 2) := by decide +kernel
theorem dX10_edge_38 : decode cX10_edge 38 = .ok (.iconst 4, 1) := by decide +kernel
theorem dX10_edge_39 : decode cX10_edge 39 = .ok (.iload_n 1, 1) := by decide +kernel
theorem dX10_edge_40 : decode cX10_edge 40 = .ok (.imul, 1) := by decide +kernel
theorem dX10_edge_41 : decode cX10_edge 41 = .ok (.iload_n 2, 1) := by decide +kernel
theorem dX10_edge_42 : decode cX10_edge 42 = .ok (.iadd, 1) := by decide +kernel
theorem dX10_edge_43 : decode cX10_edge 43 = .ok (.istore 5, 2) := by decide +kernel
theorem dX10_edge_45 : decode cX10_edge 45 = .ok (.iconst 4, 1) := by decide +kernel
theorem dX10_edge_46 : decode cX10_edge 46 = .ok (.iload_n 1, 1) := by decide +kernel
theorem dX10_edge_47 : decode cX10_edge 47 = .ok (.imul, 1) := by decide +kernel
theorem dX10_edge_48 : decode cX10_edge 48 = .ok (.iload_n 3, 1) := by decide +kernel
theorem dX10_edge_49 : decode cX10_edge 49 = .ok (.iadd, 1) := by decide +kernel
theorem dX10_edge_50 : decode cX10_edge 50 = .ok (.istore 6, 2) := by decide +kernel
theorem dX10_edge_52 : decode cX10_edge 52 = .ok (.aload_n 0, 1) := by decide +kernel
theorem dX10_edge_53 : decode cX10_edge 53 = .ok (.getfield 34, 3) := by decide +kernel
theorem dX10_edge_56 : decode cX10_edge 56 = .ok (.iload 5, 2) := by decide +kernel
theorem dX10_edge_58 : decode cX10_edge 58 = .ok (.iaload, 1) := by decide +kernel
theorem dX10_edge_59 : decode cX10_edge 59 = .ok (.istore 7, 2) := by decide +kernel
theorem dX10_edge_61 : decode cX10_edge 61 = .ok (.iconst (-1), 1) := by decide +kernel
theorem dX10_edge_62 : decode cX10_edge 62 = .ok (.istore 8, 2) := by decide +kernel
theorem dX10_edge_64 : decode cX10_edge 64 = .ok (.iconst 1, 1) := by decide +kernel
theorem dX10_edge_65 : decode cX10_edge 65 = .ok (.istore 9, 2) := by decide +kernel
theorem dX10_edge_67 : decode cX10_edge 67 = .ok (.iload 9, 2) := by decide +kernel
theorem dX10_edge_69 : decode cX10_edge 69 = .ok (.iload 7, 2) := by decide +kernel
theorem dX10_edge_71 : decode cX10_edge 71 = .ok (.if_icmp .gt 50, 3) := by decide +kernel
theorem dX10_edge_74 : decode cX10_edge 74 = .ok (.iload 8, 2) := by decide +kernel
theorem dX10_edge_76 : decode cX10_edge 76 = .ok (.iconst (-1), 1) := by decide +kernel
theorem dX10_edge_77 : decode cX10_edge 77 = .ok (.if_icmp .ne 44, 3) := by decide +kernel
theorem dX10_edge_80 : decode cX10_edge 80 = .ok (.aload_n 0, 1) := by decide +kernel
theorem dX10_edge_81 : decode cX10_edge 81 = .ok (.getfield 34, 3) := by decide +kernel
theorem dX10_edge_84 : decode cX10_edge 84 = .ok (.iload 5, 2) := by decide +kernel
theorem dX10_edge_86 : decode cX10_edge 86 = .ok (.dup2, 1) := by decide +kernel
theorem dX10_edge_87 : decode cX10_edge 87 = .ok (.iaload, 1) := by decide +kernel
theorem dX10_edge_88 : decode cX10_edge 88 = .ok (.iconst 1, 1) := by decide +kernel
theorem dX10_edge_89 : decode cX10_edge 89 = .ok (.isub, 1) := by decide +kernel
theorem dX10_edge_90 : decode cX10_edge 90 = .ok (.iastore, 1) := by decide +kernel
theorem dX10_edge_91 : decode cX10_edge 91 = .ok (.aload_n 0, 1) := by decide +kernel
theorem dX10_edge_92 : decode cX10_edge 92 = .ok (.getfield 34, 3) := by decide +kernel
theorem dX10_edge_95 : decode cX10_edge 95 = .ok (.iload 6, 2) := by decide +kernel
theorem dX10_edge_97 : decode cX10_edge 97 = .ok (.dup2, 1) := by decide +kernel
theorem dX10_edge_98 : decode cX10_edge 98 = .ok (.iaload, 1) := by decide +kernel
theorem dX10_edge_99 : decode cX10_edge 99 = .ok (.iconst 1, 1) := by decide +kernel
theorem dX10_edge_100 : decode cX10_edge 100 = .ok (.iadd, 1) := by decide +kernel
theorem dX10_edge_101 : decode cX10_edge 101 = .ok (.iastore, 1) := by decide +kernel
theorem dX10_edge_102 : decode cX10_edge 102 = .ok (.aload_n 0, 1) := by decide +kernel
theorem dX10_edge_103 : decode cX10_edge 103 = .ok (.invokevirtual 368, 3) := by decide +kernel
theorem dX10_edge_106 : decode cX10_edge 106 = .ok (.iload 4, 2) := by decide +kernel
theorem dX10_edge_108 : decode cX10_edge 108 = .ok (.if_icmp .eq 7, 3) := by decide +kernel
theorem dX10_edge_111 : decode cX10_edge 111 = .ok (.iload 9, 2) := by decide +kernel
theorem dX10_edge_113 : decode cX10_edge 113 = .ok (.istore 8, 2) := by decide +kernel
theorem dX10_edge_115 : decode cX10_edge 115 = .ok (.iinc 9 1, 3) := by decide +kernel
theorem dX10_edge_118 : decode cX10_edge 118 = .ok (.goto (-51), 3) := by decide +kernel
theorem dX10_edge_121 : decode cX10_edge 121 = .ok (.aload_n 0, 1) := by decide +kernel
theorem dX10_edge_122 : decode cX10_edge 122 = .ok (.getfield 34, 3) := by decide +kernel
theorem dX10_edge_125 : decode cX10_edge 125 = .ok (.iload 6, 2) := by decide +kernel
theorem dX10_edge_127 : decode cX10_edge 127 = .ok (.dup2, 1) := by decide +kernel
theorem dX10_edge_128 : decode cX10_edge 128 = .ok (.iaload, 1) := by decide +kernel
theorem dX10_edge_129 : decode cX10_edge 129 = .ok (.iload 7, 2) := by decide +kernel
theorem dX10_edge_131 : decode cX10_edge 131 = .ok (.aload_n 0, 1) := by decide +kernel
theorem dX10_edge_132 : decode cX10_edge 132 = .ok (.getfield 34, 3) := by decide +kernel
theorem dX10_edge_135 : decode cX10_edge 135 = .ok (.iload 5, 2) := by decide +kernel
theorem dX10_edge_137 : decode cX10_edge 137 = .ok (.iaload, 1) := by decide +kernel
theorem dX10_edge_138 : decode cX10_edge 138 = .ok (.isub, 1) := by decide +kernel
theorem dX10_edge_139 : decode cX10_edge 139 = .ok (.isub, 1) := by decide +kernel
theorem dX10_edge_140 : decode cX10_edge 140 = .ok (.iastore, 1) := by decide +kernel
theorem dX10_edge_141 : decode cX10_edge 141 = .ok (.aload_n 0, 1) := by decide +kernel
theorem dX10_edge_142 : decode cX10_edge 142 = .ok (.getfield 34, 3) := by decide +kernel
theorem dX10_edge_145 : decode cX10_edge 145 = .ok (.iload 5, 2) := by decide +kernel
theorem dX10_edge_147 : decode cX10_edge 147 = .ok (.iload 7, 2) := by decide +kernel
theorem dX10_edge_149 : decode cX10_edge 149 = .ok (.iastore, 1) := by decide +kernel
theorem dX10_edge_150 : decode cX10_edge 150 = .ok (.iload 8, 2) := by decide +kernel
theorem dX10_edge_152 : decode cX10_edge 152 = .ok (.ireturn, 1) := by decide +kernel
theorem kk_X10_atWage_0 : Cond.fieldLink RX10 190 "PaidBySignsModel" "lowerPress" "I" ∈ wsX10_atWage := by decide +kernel
theorem kk_X10_proves_0 : Cond.fieldLink RX10 17 "PaidBySignsModel" "num" "[I" ∈ wsX10_proves := pm_X10_proves_r1 _ (List.mem_of_getElem? (i := 0) rfl)
theorem kk_X10_proves_1 : Cond.fieldLink RX10 85 "PaidBySignsModel" "presses" "[I" ∈ wsX10_proves := pm_X10_proves_r1 _ (List.mem_of_getElem? (i := 1) rfl)
theorem kk_X10_proves_2 : Cond.fieldLink RX10 31 "PaidBySignsModel" "costs" "[I" ∈ wsX10_proves := pm_X10_proves_r1 _ (List.mem_of_getElem? (i := 2) rfl)
theorem kk_X10_proves_3 : Cond.fieldLink RX10 190 "PaidBySignsModel" "lowerPress" "I" ∈ wsX10_proves := pm_X10_proves_r1 _ (List.mem_of_getElem? (i := 3) rfl)
theorem kk_X10_proves_4 : Cond.fieldLink RX10 37 "PaidBySignsModel" "rates" "[I" ∈ wsX10_proves := pm_X10_proves_r1 _ (List.mem_of_getElem? (i := 4) rfl)
theorem kk_X10_proves_5 : Cond.fieldLink RX10 40 "PaidBySignsModel" "marks" "[I" ∈ wsX10_proves := pm_X10_proves_r1 _ (List.mem_of_getElem? (i := 5) rfl)
theorem kk_X10_mix_0 : Cond.constantLong RX10 405 (1000) ∈ wsX10_mix := by decide +kernel
theorem kk_X10_mix_1 : Cond.fieldLink RX10 88 "PaidBySignsModel" "mixes" "[I" ∈ wsX10_mix := by decide +kernel
theorem kk_X10_same_0 : Cond.fieldLink RX10 17 "PaidBySignsModel" "num" "[I" ∈ wsX10_same := by decide +kernel
theorem kk_X10_same_1 : Cond.fieldLink RX10 31 "PaidBySignsModel" "costs" "[I" ∈ wsX10_same := by decide +kernel
theorem kk_X10_same_2 : Cond.fieldLink RX10 88 "PaidBySignsModel" "mixes" "[I" ∈ wsX10_same := by decide +kernel
theorem kk_X10_edge_0 : Cond.fieldLink RX10 34 "PaidBySignsModel" "chances" "[I" ∈ wsX10_edge := pm_X10_edge_r1 _ (List.mem_of_getElem? (i := 0) rfl)
theorem iw_X10_atWage_X10 : ∀ w ∈ wsX100, w ∈ wsX10_atWage := by decide +kernel
theorem iw_X10_proves_X10 : ∀ w ∈ wsX100, w ∈ wsX10_proves := pw_X10_proves_X10
theorem iw_X10_mix_X10 : ∀ w ∈ wsX100, w ∈ wsX10_mix := by decide +kernel
theorem iw_X10_same_X10 : ∀ w ∈ wsX100, w ∈ wsX10_same := by decide +kernel
theorem iw_X10_edge_X10 : ∀ w ∈ wsX100, w ∈ wsX10_edge := pw_X10_edge_X10

abbrev cX10_ratio : ByteArray := prog_12_method_78_code
def yX10_ratio : MethodName := ⟨RX10, "ratio", "(II)I"⟩
abbrev cX10_rises : ByteArray := prog_12_method_79_code
def yX10_rises : MethodName := ⟨RX10, "rises", "(I)I"⟩
abbrev cX10_see : ByteArray := prog_12_method_80_code
def yX10_see : MethodName := ⟨RX10, "see", "(II)I"⟩
abbrev cX10_right : ByteArray := prog_12_method_81_code
def yX10_right : MethodName := ⟨RX10, "right", "(III)I"⟩
abbrev cX10_product : ByteArray := prog_12_method_82_code
def yX10_product : MethodName := ⟨RX10, "product", "(II)J"⟩
def wsX10_ratio : List Cond := .code yX10_ratio cX10_ratio 5 (some .int) :: ([.fieldLink RX10 17 "PaidBySignsModel" "num" "[I", .fieldLink RX10 28 "PaidBySignsModel" "brings" "[I", .methodLink RX10 253 yX10_isWork, .instanceMethod yX10_isWork, .selects RX10 yX10_isWork yX10_isWork, .initialized RX10, .code yX10_isWork cX10_isWork 2 (some .boolean), .methodLink RX10 174 yX10_in, .static yX10_in, .code yX10_in cX10_in 6 (some .boolean), .methodLink RX10 259 yX10_chanceOf, .instanceMethod yX10_chanceOf, .selects RX10 yX10_chanceOf yX10_chanceOf, .code yX10_chanceOf cX10_chanceOf 3 (some .int), .fieldLink RX10 34 "PaidBySignsModel" "chances" "[I"] ++ wsX100)
def wsX10_rises_r1 : List Cond := [Cond.fieldLink RX10 17 "PaidBySignsModel" "num" "[I", Cond.fieldLink RX10 28 "PaidBySignsModel" "brings" "[I", Cond.fieldLink RX10 70 "PaidBySignsModel" "bestUp" "[J", Cond.fieldLink RX10 73 "PaidBySignsModel" "bestLow" "[J", Cond.methodLink RX10 253 yX10_isWork, Cond.instanceMethod yX10_isWork, Cond.selects RX10 yX10_isWork yX10_isWork, Cond.initialized RX10, Cond.code yX10_isWork cX10_isWork 2 (some .boolean), Cond.methodLink RX10 174 yX10_in, Cond.static yX10_in, Cond.code yX10_in cX10_in 6 (some .boolean), Cond.methodLink RX10 349 yX10_eachAlone, Cond.instanceMethod yX10_eachAlone, Cond.selects RX10 yX10_eachAlone yX10_eachAlone, Cond.code yX10_eachAlone cX10_eachAlone 2 none, Cond.fieldLink RX10 289 "PaidBySignsModel" "groups" "I", Cond.fieldLink RX10 46 "PaidBySignsModel" "groupOf" "[I", Cond.methodLink RX10 352 yX10_isHad, Cond.instanceMethod yX10_isHad, Cond.selects RX10 yX10_isHad yX10_isHad, Cond.code yX10_isHad cX10_isHad 2 (some .boolean), Cond.fieldLink RX10 322 "PaidBySignsModel" "isFound" "Z", Cond.methodLink RX10 343 yX10_makeBounds]
def wsX10_rises_r2 : List Cond := [Cond.instanceMethod yX10_makeBounds, Cond.selects RX10 yX10_makeBounds yX10_makeBounds, Cond.code yX10_makeBounds cX10_makeBounds 5 none, Cond.fieldLink RX10 292 "PaidBySignsModel" "bounds" "I", Cond.fieldLink RX10 31 "PaidBySignsModel" "costs" "[I", Cond.fieldLink RX10 49 "PaidBySignsModel" "row" "[J", Cond.fieldLink RX10 299 "PaidBySignsModel" "asked" "I", Cond.fieldLink RX10 40 "PaidBySignsModel" "marks" "[I", Cond.methodLink RX10 295 yX10_addBound, Cond.instanceMethod yX10_addBound, Cond.selects RX10 yX10_addBound yX10_addBound, Cond.code yX10_addBound cX10_addBound 4 (some .int), Cond.fieldLink RX10 52 "PaidBySignsModel" "least" "[J", Cond.methodLink RX10 259 yX10_chanceOf, Cond.instanceMethod yX10_chanceOf, Cond.selects RX10 yX10_chanceOf yX10_chanceOf, Cond.code yX10_chanceOf cX10_chanceOf 3 (some .int), Cond.fieldLink RX10 34 "PaidBySignsModel" "chances" "[I", Cond.methodLink RX10 264 yX10_feel, Cond.instanceMethod yX10_feel, Cond.selects RX10 yX10_feel yX10_feel, Cond.code yX10_feel cX10_feel 6 (some .int), Cond.fieldLink RX10 37 "PaidBySignsModel" "rates" "[I", Cond.methodLink RX10 339 yX10_choose]
def wsX10_rises_r3 : List Cond := [Cond.instanceMethod yX10_choose, Cond.selects RX10 yX10_choose yX10_choose, Cond.code yX10_choose cX10_choose 5 none, Cond.fieldLink RX10 55 "PaidBySignsModel" "chosen" "[I", Cond.methodLink RX10 335 yX10_look, Cond.instanceMethod yX10_look, Cond.selects RX10 yX10_look yX10_look, Cond.code yX10_look cX10_look 10 none, Cond.fieldLink RX10 61 "PaidBySignsModel" "x" "[J", Cond.fieldLink RX10 310 "PaidBySignsModel" "det" "J", Cond.fieldLink RX10 67 "PaidBySignsModel" "wageLow" "[J", Cond.fieldLink RX10 64 "PaidBySignsModel" "wageUp" "[J", Cond.fieldLink RX10 325 "PaidBySignsModel" "costUp" "J", Cond.fieldLink RX10 328 "PaidBySignsModel" "costLow" "J", Cond.constantLong RX10 313 (-1), Cond.methodLink RX10 315 yX10_isCorner, Cond.instanceMethod yX10_isCorner, Cond.selects RX10 yX10_isCorner yX10_isCorner, Cond.code yX10_isCorner cX10_isCorner 7 (some .boolean), Cond.methodLink RX10 306 yX10_determinant, Cond.instanceMethod yX10_determinant, Cond.selects RX10 yX10_determinant yX10_determinant, Cond.code yX10_determinant cX10_determinant 4 (some .long), Cond.fieldLink RX10 58 "PaidBySignsModel" "matrix" "[J"]
def wsX10_rises_r4 : List Cond := [Cond.methodLink RX10 302 yX10_minor, Cond.instanceMethod yX10_minor, Cond.selects RX10 yX10_minor yX10_minor, Cond.code yX10_minor cX10_minor 7 (some .long), Cond.methodLink RX10 318 yX10_wageOf, Cond.instanceMethod yX10_wageOf, Cond.selects RX10 yX10_wageOf yX10_wageOf, Cond.code yX10_wageOf cX10_wageOf 13 none, Cond.methodLink RX10 277 yX10_common, Cond.static yX10_common, Cond.code yX10_common cX10_common 10 (some .long), Cond.methodLink RX10 331 yX10_apart, Cond.static yX10_apart, Cond.code yX10_apart cX10_apart 8 (some .long)]
def wsX10_rises : List Cond := .code yX10_rises cX10_rises 4 (some .int) :: ((wsX10_rises_r1 ++ (wsX10_rises_r2 ++ (wsX10_rises_r3 ++ wsX10_rises_r4))) ++ wsX100)
def wsX10_see : List Cond := .code yX10_see cX10_see 3 (some .int) :: ([.fieldLink RX10 199 "PaidBySignsModel" "lastTold" "I", .constantLong RX10 407 (999), .fieldLink RX10 193 "PaidBySignsModel" "seenMany" "I", .fieldLink RX10 91 "PaidBySignsModel" "sTold" "[I", .fieldLink RX10 94 "PaidBySignsModel" "sSign" "[I", .methodLink RX10 174 yX10_in, .static yX10_in, .initialized RX10, .code yX10_in cX10_in 6 (some .boolean), .methodLink RX10 256 yX10_isSign, .instanceMethod yX10_isSign, .selects RX10 yX10_isSign yX10_isSign, .code yX10_isSign cX10_isSign 2 (some .boolean), .fieldLink RX10 17 "PaidBySignsModel" "num" "[I"] ++ wsX100)
def wsX10_right : List Cond := .code yX10_right cX10_right 6 (some .int) :: ([.fieldLink RX10 199 "PaidBySignsModel" "lastTold" "I", .constantLong RX10 407 (999), .fieldLink RX10 193 "PaidBySignsModel" "seenMany" "I", .fieldLink RX10 196 "PaidBySignsModel" "rightMany" "I", .fieldLink RX10 97 "PaidBySignsModel" "rOf" "[I", .fieldLink RX10 100 "PaidBySignsModel" "rTold" "[I", .fieldLink RX10 103 "PaidBySignsModel" "rSign" "[I", .methodLink RX10 174 yX10_in, .static yX10_in, .initialized RX10, .code yX10_in cX10_in 6 (some .boolean), .methodLink RX10 256 yX10_isSign, .instanceMethod yX10_isSign, .selects RX10 yX10_isSign yX10_isSign, .code yX10_isSign cX10_isSign 2 (some .boolean), .fieldLink RX10 17 "PaidBySignsModel" "num" "[I"] ++ wsX100)
def wsX10_product : List Cond := .code yX10_product cX10_product 8 (some .long) :: ([.fieldLink RX10 193 "PaidBySignsModel" "seenMany" "I", .fieldLink RX10 91 "PaidBySignsModel" "sTold" "[I", .fieldLink RX10 94 "PaidBySignsModel" "sSign" "[I", .fieldLink RX10 196 "PaidBySignsModel" "rightMany" "I", .fieldLink RX10 97 "PaidBySignsModel" "rOf" "[I", .fieldLink RX10 100 "PaidBySignsModel" "rTold" "[I", .fieldLink RX10 103 "PaidBySignsModel" "rSign" "[I", .methodLink RX10 259 yX10_chanceOf, .instanceMethod yX10_chanceOf, .selects RX10 yX10_chanceOf yX10_chanceOf, .initialized RX10, .code yX10_chanceOf cX10_chanceOf 3 (some .int), .fieldLink RX10 34 "PaidBySignsModel" "chances" "[I"] ++ wsX100)
set_option maxRecDepth 20000 in
theorem ggX10_ratio_X10_isWork : GoodIn wsX10_ratio wsX10_isWork := goodIn_r _ [7, 1, 8, 9, 6, 10, 16, 17, 18, 19, 20, 21, 22, 23, 24, 25, 26, 27, 28, 29, 30, 31, 32, 33, 34, 35, 36, 37, 38, 39, 40, 41, 42, 43, 44, 45, 46, 47, 48, 49, 50, 51, 52, 53, 54, 55, 56, 57, 58, 59, 60, 61, 62, 63, 64, 65, 66, 67, 68, 69, 70, 71, 72, 73, 74, 75, 76, 77, 78, 79, 80] (by decide +kernel) (by decide +kernel)
set_option maxRecDepth 20000 in
theorem gX10_ratio_X10_isWork : GoodIn wsX10_ratio (wsV RX10 253 RX10 yX10_isWork wsX10_isWork) := goodIn_app (goodIn_of _ (by decide +kernel)) ggX10_ratio_X10_isWork
set_option maxRecDepth 20000 in
theorem ggX10_ratio_X10_chanceOf : GoodIn wsX10_ratio wsX10_chanceOf := goodIn_r _ [14, 15, 16, 17, 18, 19, 20, 21, 22, 23, 24, 25, 26, 27, 28, 29, 30, 31, 32, 33, 34, 35, 36, 37, 38, 39, 40, 41, 42, 43, 44, 45, 46, 47, 48, 49, 50, 51, 52, 53, 54, 55, 56, 57, 58, 59, 60, 61, 62, 63, 64, 65, 66, 67, 68, 69, 70, 71, 72, 73, 74, 75, 76, 77, 78, 79, 80] (by decide +kernel) (by decide +kernel)
set_option maxRecDepth 20000 in
theorem gX10_ratio_X10_chanceOf : GoodIn wsX10_ratio (wsV RX10 259 RX10 yX10_chanceOf wsX10_chanceOf) := goodIn_app (goodIn_of _ (by decide +kernel)) ggX10_ratio_X10_chanceOf
theorem dX10_ratio_0 : decode cX10_ratio 0 = .ok (.aload_n 0, 1) := by decide +kernel
theorem dX10_ratio_1 : decode cX10_ratio 1 = .ok (.iload_n 1, 1) := by decide +kernel
theorem dX10_ratio_2 : decode cX10_ratio 2 = .ok (.invokevirtual 253, 3) := by decide +kernel
theorem dX10_ratio_5 : decode cX10_ratio 5 = .ok (.ifCond .eq 11, 3) := by decide +kernel
theorem dX10_ratio_8 : decode cX10_ratio 8 = .ok (.aload_n 0, 1) := by decide +kernel
theorem dX10_ratio_9 : decode cX10_ratio 9 = .ok (.iload_n 2, 1) := by decide +kernel
theorem dX10_ratio_10 : decode cX10_ratio 10 = .ok (.invokevirtual 253, 3) := by decide +kernel
theorem dX10_ratio_13 : decode cX10_ratio 13 = .ok (.ifCond .ne 6, 3) := by decide +kernel
theorem dX10_ratio_16 : decode cX10_ratio 16 = .ok (.bipush (-2), 2) := by decide +kernel
theorem dX10_ratio_18 : decode cX10_ratio 18 = .ok (.ireturn, 1) := by decide +kernel
theorem dX10_ratio_19 : decode cX10_ratio 19 = .ok (.iconst 0, 1) := by decide +kernel
theorem dX10_ratio_20 : decode cX10_ratio 20 = .ok (.istore_n 3, 1) := by decide +kernel
theorem dX10_ratio_21 : decode cX10_ratio 21 = .ok (.iload_n 3, 1) := by decide +kernel
theorem dX10_ratio_22 : decode cX10_ratio 22 = .ok (.aload_n 0, 1) := by decide +kernel
theorem dX10_ratio_23 : decode cX10_ratio 23 = .ok (.getfield 17, 3) := by decide +kernel
theorem dX10_ratio_26 : decode cX10_ratio 26 = .ok (.iconst 3, 1) := by decide +kernel
theorem dX10_ratio_27 : decode cX10_ratio 27 = .ok (.iaload, 1) := by decide +kernel
theorem dX10_ratio_28 : decode cX10_ratio 28 = .ok (.if_icmp .ge 78, 3) := by decide +kernel
theorem dX10_ratio_31 : decode cX10_ratio 31 = .ok (.iconst 0, 1) := by decide +kernel
theorem dX10_ratio_32 : decode cX10_ratio 32 = .ok (.istore 4, 2) := by decide +kernel
theorem dX10_ratio_34 : decode cX10_ratio 34 = .ok (.iload 4, 2) := by decide +kernel
theorem dX10_ratio_36 : decode cX10_ratio 36 = .ok (.aload_n 0, 1) := by decide +kernel
theorem dX10_ratio_37 : decode cX10_ratio 37 = .ok (.getfield 17, 3) := by decide +kernel
theorem dX10_ratio_40 : decode cX10_ratio 40 = .ok (.iconst 3, 1) := by decide +kernel
theorem dX10_ratio_41 : decode cX10_ratio 41 = .ok (.iaload, 1) := by decide +kernel
theorem dX10_ratio_42 : decode cX10_ratio 42 = .ok (.if_icmp .ge 58, 3) := by decide +kernel
theorem dX10_ratio_45 : decode cX10_ratio 45 = .ok (.aload_n 0, 1) := by decide +kernel
theorem dX10_ratio_46 : decode cX10_ratio 46 = .ok (.getfield 28, 3) := by decide +kernel
theorem dX10_ratio_49 : decode cX10_ratio 49 = .ok (.iload 4, 2) := by decide +kernel
theorem dX10_ratio_51 : decode cX10_ratio 51 = .ok (.iaload, 1) := by decide +kernel
theorem dX10_ratio_52 : decode cX10_ratio 52 = .ok (.aload_n 0, 1) := by decide +kernel
theorem dX10_ratio_53 : decode cX10_ratio 53 = .ok (.getfield 28, 3) := by decide +kernel
theorem dX10_ratio_56 : decode cX10_ratio 56 = .ok (.iload_n 3, 1) := by decide +kernel
theorem dX10_ratio_57 : decode cX10_ratio 57 = .ok (.iaload, 1) := by decide +kernel
theorem dX10_ratio_58 : decode cX10_ratio 58 = .ok (.if_icmp .le 36, 3) := by decide +kernel
theorem dX10_ratio_61 : decode cX10_ratio 61 = .ok (.aload_n 0, 1) := by decide +kernel
theorem dX10_ratio_62 : decode cX10_ratio 62 = .ok (.iload_n 1, 1) := by decide +kernel
theorem dX10_ratio_63 : decode cX10_ratio 63 = .ok (.iload 4, 2) := by decide +kernel
theorem dX10_ratio_65 : decode cX10_ratio 65 = .ok (.invokevirtual 259, 3) := by decide +kernel
theorem dX10_ratio_68 : decode cX10_ratio 68 = .ok (.aload_n 0, 1) := by decide +kernel
theorem dX10_ratio_69 : decode cX10_ratio 69 = .ok (.iload_n 2, 1) := by decide +kernel
theorem dX10_ratio_70 : decode cX10_ratio 70 = .ok (.iload_n 3, 1) := by decide +kernel
theorem dX10_ratio_71 : decode cX10_ratio 71 = .ok (.invokevirtual 259, 3) := by decide +kernel
theorem dX10_ratio_74 : decode cX10_ratio 74 = .ok (.imul, 1) := by decide +kernel
theorem dX10_ratio_75 : decode cX10_ratio 75 = .ok (.aload_n 0, 1) := by decide +kernel
theorem dX10_ratio_76 : decode cX10_ratio 76 = .ok (.iload_n 1, 1) := by decide +kernel
theorem dX10_ratio_77 : decode cX10_ratio 77 = .ok (.iload_n 3, 1) := by decide +kernel
theorem dX10_ratio_78 : decode cX10_ratio 78 = .ok (.invokevirtual 259, 3) := by decide +kernel
theorem dX10_ratio_81 : decode cX10_ratio 81 = .ok (.aload_n 0, 1) := by decide +kernel
theorem dX10_ratio_82 : decode cX10_ratio 82 = .ok (.iload_n 2, 1) := by decide +kernel
theorem dX10_ratio_83 : decode cX10_ratio 83 = .ok (.iload 4, 2) := by decide +kernel
theorem dX10_ratio_85 : decode cX10_ratio 85 = .ok (.invokevirtual 259, 3) := by decide +kernel
theorem dX10_ratio_88 : decode cX10_ratio 88 = .ok (.imul, 1) := by decide +kernel
theorem dX10_ratio_89 : decode cX10_ratio 89 = .ok (.if_icmp .ge 5, 3) := by decide +kernel
theorem dX10_ratio_92 : decode cX10_ratio 92 = .ok (.iconst 0, 1) := by decide +kernel
theorem dX10_ratio_93 : decode cX10_ratio 93 = .ok (.ireturn, 1) := by decide +kernel
theorem dX10_ratio_94 : decode cX10_ratio 94 = .ok (.iinc 4 1, 3) := by decide +kernel
theorem dX10_ratio_97 : decode cX10_ratio 97 = .ok (.goto (-63), 3) := by decide +kernel
theorem dX10_ratio_100 : decode cX10_ratio 100 = .ok (.iinc 3 1, 3) := by decide +kernel
theorem dX10_ratio_103 : decode cX10_ratio 103 = .ok (.goto (-82), 3) := by decide +kernel
theorem dX10_ratio_106 : decode cX10_ratio 106 = .ok (.iconst 1, 1) := by decide +kernel
theorem dX10_ratio_107 : decode cX10_ratio 107 = .ok (.ireturn, 1) := by decide +kernel
theorem pm_X10_rises_r1 : ∀ w ∈ wsX10_rises_r1, w ∈ wsX10_rises := fun _ h => List.mem_cons_of_mem _ (List.mem_append_left _ (List.mem_append_left _ h))
theorem pm_X10_rises_r2 : ∀ w ∈ wsX10_rises_r2, w ∈ wsX10_rises := fun _ h => List.mem_cons_of_mem _ (List.mem_append_left _ (List.mem_append_right _ (List.mem_append_left _ h)))
theorem pm_X10_rises_r3 : ∀ w ∈ wsX10_rises_r3, w ∈ wsX10_rises := fun _ h => List.mem_cons_of_mem _ (List.mem_append_left _ (List.mem_append_right _ (List.mem_append_right _ (List.mem_append_left _ h))))
theorem pm_X10_rises_r4 : ∀ w ∈ wsX10_rises_r4, w ∈ wsX10_rises := fun _ h => List.mem_cons_of_mem _ (List.mem_append_left _ (List.mem_append_right _ (List.mem_append_right _ (List.mem_append_right _ (h)))))
theorem pw_X10_rises_X10 : ∀ w ∈ wsX100, w ∈ wsX10_rises := fun _ h => List.mem_cons_of_mem _ (List.mem_append_right _ h)
set_option maxRecDepth 20000 in
theorem ggX10_rises_X10_isWork : GoodIn wsX10_rises wsX10_isWork := goodIn_sub (List.forall_mem_cons.mpr ⟨pm_X10_rises_r1 _ (List.mem_of_getElem? (i := 8) rfl), List.forall_mem_append.mpr ⟨List.forall_mem_cons.mpr ⟨pm_X10_rises_r1 _ (List.mem_of_getElem? (i := 0) rfl), List.forall_mem_cons.mpr ⟨pm_X10_rises_r1 _ (List.mem_of_getElem? (i := 9) rfl), List.forall_mem_cons.mpr ⟨pm_X10_rises_r1 _ (List.mem_of_getElem? (i := 10) rfl), List.forall_mem_cons.mpr ⟨pm_X10_rises_r1 _ (List.mem_of_getElem? (i := 7) rfl), List.forall_mem_cons.mpr ⟨pm_X10_rises_r1 _ (List.mem_of_getElem? (i := 11) rfl), fun _ h => absurd h List.not_mem_nil⟩⟩⟩⟩⟩, pw_X10_rises_X10⟩⟩) (by decide +kernel)
set_option maxRecDepth 20000 in
theorem gX10_rises_X10_isWork : GoodIn wsX10_rises (wsV RX10 253 RX10 yX10_isWork wsX10_isWork) := goodIn_app (goodIn_of _ (by decide +kernel)) ggX10_rises_X10_isWork
set_option maxRecDepth 20000 in
theorem ggX10_rises_X10_eachAlone : GoodIn wsX10_rises wsX10_eachAlone := goodIn_sub (List.forall_mem_cons.mpr ⟨pm_X10_rises_r1 _ (List.mem_of_getElem? (i := 15) rfl), List.forall_mem_append.mpr ⟨List.forall_mem_cons.mpr ⟨pm_X10_rises_r1 _ (List.mem_of_getElem? (i := 0) rfl), List.forall_mem_cons.mpr ⟨pm_X10_rises_r1 _ (List.mem_of_getElem? (i := 16) rfl), List.forall_mem_cons.mpr ⟨pm_X10_rises_r1 _ (List.mem_of_getElem? (i := 17) rfl), fun _ h => absurd h List.not_mem_nil⟩⟩⟩, pw_X10_rises_X10⟩⟩) (by decide +kernel)
set_option maxRecDepth 20000 in
theorem gX10_rises_X10_eachAlone : GoodIn wsX10_rises (wsV RX10 349 RX10 yX10_eachAlone wsX10_eachAlone) := goodIn_app (goodIn_of _ (by decide +kernel)) ggX10_rises_X10_eachAlone
set_option maxRecDepth 20000 in
theorem pq_X10_rises_X10_isHad_r1 : ∀ w ∈ wsX10_isHad_r1, w ∈ wsX10_rises := List.forall_mem_cons.mpr ⟨pm_X10_rises_r1 _ (List.mem_of_getElem? (i := 22) rfl), List.forall_mem_cons.mpr ⟨pm_X10_rises_r1 _ (List.mem_of_getElem? (i := 23) rfl), List.forall_mem_cons.mpr ⟨pm_X10_rises_r2 _ (List.mem_of_getElem? (i := 0) rfl), List.forall_mem_cons.mpr ⟨pm_X10_rises_r2 _ (List.mem_of_getElem? (i := 1) rfl), List.forall_mem_cons.mpr ⟨pm_X10_rises_r1 _ (List.mem_of_getElem? (i := 7) rfl), List.forall_mem_cons.mpr ⟨pm_X10_rises_r2 _ (List.mem_of_getElem? (i := 2) rfl), List.forall_mem_cons.mpr ⟨pm_X10_rises_r2 _ (List.mem_of_getElem? (i := 3) rfl), List.forall_mem_cons.mpr ⟨pm_X10_rises_r1 _ (List.mem_of_getElem? (i := 0) rfl), List.forall_mem_cons.mpr ⟨pm_X10_rises_r2 _ (List.mem_of_getElem? (i := 4) rfl), List.forall_mem_cons.mpr ⟨pm_X10_rises_r2 _ (List.mem_of_getElem? (i := 5) rfl), List.forall_mem_cons.mpr ⟨pm_X10_rises_r1 _ (List.mem_of_getElem? (i := 17) rfl), List.forall_mem_cons.mpr ⟨pm_X10_rises_r1 _ (List.mem_of_getElem? (i := 16) rfl), List.forall_mem_cons.mpr ⟨pm_X10_rises_r2 _ (List.mem_of_getElem? (i := 6) rfl), List.forall_mem_cons.mpr ⟨pm_X10_rises_r2 _ (List.mem_of_getElem? (i := 7) rfl), List.forall_mem_cons.mpr ⟨pm_X10_rises_r2 _ (List.mem_of_getElem? (i := 8) rfl), List.forall_mem_cons.mpr ⟨pm_X10_rises_r2 _ (List.mem_of_getElem? (i := 9) rfl), List.forall_mem_cons.mpr ⟨pm_X10_rises_r2 _ (List.mem_of_getElem? (i := 10) rfl), List.forall_mem_cons.mpr ⟨pm_X10_rises_r2 _ (List.mem_of_getElem? (i := 11) rfl), List.forall_mem_cons.mpr ⟨pm_X10_rises_r2 _ (List.mem_of_getElem? (i := 12) rfl), List.forall_mem_cons.mpr ⟨pm_X10_rises_r2 _ (List.mem_of_getElem? (i := 13) rfl), List.forall_mem_cons.mpr ⟨pm_X10_rises_r2 _ (List.mem_of_getElem? (i := 14) rfl), List.forall_mem_cons.mpr ⟨pm_X10_rises_r2 _ (List.mem_of_getElem? (i := 15) rfl), List.forall_mem_cons.mpr ⟨pm_X10_rises_r2 _ (List.mem_of_getElem? (i := 16) rfl), List.forall_mem_cons.mpr ⟨pm_X10_rises_r2 _ (List.mem_of_getElem? (i := 17) rfl), fun _ h => absurd h List.not_mem_nil⟩⟩⟩⟩⟩⟩⟩⟩⟩⟩⟩⟩⟩⟩⟩⟩⟩⟩⟩⟩⟩⟩⟩⟩
set_option maxRecDepth 20000 in
theorem pq_X10_rises_X10_isHad_r2 : ∀ w ∈ wsX10_isHad_r2, w ∈ wsX10_rises := List.forall_mem_cons.mpr ⟨pm_X10_rises_r2 _ (List.mem_of_getElem? (i := 18) rfl), List.forall_mem_cons.mpr ⟨pm_X10_rises_r2 _ (List.mem_of_getElem? (i := 19) rfl), List.forall_mem_cons.mpr ⟨pm_X10_rises_r2 _ (List.mem_of_getElem? (i := 20) rfl), List.forall_mem_cons.mpr ⟨pm_X10_rises_r2 _ (List.mem_of_getElem? (i := 21) rfl), List.forall_mem_cons.mpr ⟨pm_X10_rises_r2 _ (List.mem_of_getElem? (i := 22) rfl), List.forall_mem_cons.mpr ⟨pm_X10_rises_r2 _ (List.mem_of_getElem? (i := 23) rfl), List.forall_mem_cons.mpr ⟨pm_X10_rises_r3 _ (List.mem_of_getElem? (i := 0) rfl), List.forall_mem_cons.mpr ⟨pm_X10_rises_r3 _ (List.mem_of_getElem? (i := 1) rfl), List.forall_mem_cons.mpr ⟨pm_X10_rises_r3 _ (List.mem_of_getElem? (i := 2) rfl), List.forall_mem_cons.mpr ⟨pm_X10_rises_r3 _ (List.mem_of_getElem? (i := 3) rfl), List.forall_mem_cons.mpr ⟨pm_X10_rises_r3 _ (List.mem_of_getElem? (i := 4) rfl), List.forall_mem_cons.mpr ⟨pm_X10_rises_r3 _ (List.mem_of_getElem? (i := 5) rfl), List.forall_mem_cons.mpr ⟨pm_X10_rises_r3 _ (List.mem_of_getElem? (i := 6) rfl), List.forall_mem_cons.mpr ⟨pm_X10_rises_r3 _ (List.mem_of_getElem? (i := 7) rfl), List.forall_mem_cons.mpr ⟨pm_X10_rises_r3 _ (List.mem_of_getElem? (i := 8) rfl), List.forall_mem_cons.mpr ⟨pm_X10_rises_r3 _ (List.mem_of_getElem? (i := 9) rfl), List.forall_mem_cons.mpr ⟨pm_X10_rises_r3 _ (List.mem_of_getElem? (i := 10) rfl), List.forall_mem_cons.mpr ⟨pm_X10_rises_r3 _ (List.mem_of_getElem? (i := 11) rfl), List.forall_mem_cons.mpr ⟨pm_X10_rises_r3 _ (List.mem_of_getElem? (i := 12) rfl), List.forall_mem_cons.mpr ⟨pm_X10_rises_r3 _ (List.mem_of_getElem? (i := 13) rfl), List.forall_mem_cons.mpr ⟨pm_X10_rises_r3 _ (List.mem_of_getElem? (i := 14) rfl), List.forall_mem_cons.mpr ⟨pm_X10_rises_r1 _ (List.mem_of_getElem? (i := 2) rfl), List.forall_mem_cons.mpr ⟨pm_X10_rises_r1 _ (List.mem_of_getElem? (i := 3) rfl), List.forall_mem_cons.mpr ⟨pm_X10_rises_r3 _ (List.mem_of_getElem? (i := 15) rfl), fun _ h => absurd h List.not_mem_nil⟩⟩⟩⟩⟩⟩⟩⟩⟩⟩⟩⟩⟩⟩⟩⟩⟩⟩⟩⟩⟩⟩⟩⟩
set_option maxRecDepth 20000 in
theorem pq_X10_rises_X10_isHad_r3 : ∀ w ∈ wsX10_isHad_r3, w ∈ wsX10_rises := List.forall_mem_cons.mpr ⟨pm_X10_rises_r3 _ (List.mem_of_getElem? (i := 16) rfl), List.forall_mem_cons.mpr ⟨pm_X10_rises_r3 _ (List.mem_of_getElem? (i := 17) rfl), List.forall_mem_cons.mpr ⟨pm_X10_rises_r3 _ (List.mem_of_getElem? (i := 18) rfl), List.forall_mem_cons.mpr ⟨pm_X10_rises_r3 _ (List.mem_of_getElem? (i := 19) rfl), List.forall_mem_cons.mpr ⟨pm_X10_rises_r3 _ (List.mem_of_getElem? (i := 20) rfl), List.forall_mem_cons.mpr ⟨pm_X10_rises_r3 _ (List.mem_of_getElem? (i := 21) rfl), List.forall_mem_cons.mpr ⟨pm_X10_rises_r3 _ (List.mem_of_getElem? (i := 22) rfl), List.forall_mem_cons.mpr ⟨pm_X10_rises_r3 _ (List.mem_of_getElem? (i := 23) rfl), List.forall_mem_cons.mpr ⟨pm_X10_rises_r4 _ (List.mem_of_getElem? (i := 0) rfl), List.forall_mem_cons.mpr ⟨pm_X10_rises_r4 _ (List.mem_of_getElem? (i := 1) rfl), List.forall_mem_cons.mpr ⟨pm_X10_rises_r4 _ (List.mem_of_getElem? (i := 2) rfl), List.forall_mem_cons.mpr ⟨pm_X10_rises_r4 _ (List.mem_of_getElem? (i := 3) rfl), List.forall_mem_cons.mpr ⟨pm_X10_rises_r4 _ (List.mem_of_getElem? (i := 4) rfl), List.forall_mem_cons.mpr ⟨pm_X10_rises_r4 _ (List.mem_of_getElem? (i := 5) rfl), List.forall_mem_cons.mpr ⟨pm_X10_rises_r4 _ (List.mem_of_getElem? (i := 6) rfl), List.forall_mem_cons.mpr ⟨pm_X10_rises_r4 _ (List.mem_of_getElem? (i := 7) rfl), List.forall_mem_cons.mpr ⟨pm_X10_rises_r4 _ (List.mem_of_getElem? (i := 8) rfl), List.forall_mem_cons.mpr ⟨pm_X10_rises_r4 _ (List.mem_of_getElem? (i := 9) rfl), List.forall_mem_cons.mpr ⟨pm_X10_rises_r4 _ (List.mem_of_getElem? (i := 10) rfl), List.forall_mem_cons.mpr ⟨pm_X10_rises_r4 _ (List.mem_of_getElem? (i := 11) rfl), List.forall_mem_cons.mpr ⟨pm_X10_rises_r4 _ (List.mem_of_getElem? (i := 12) rfl), List.forall_mem_cons.mpr ⟨pm_X10_rises_r4 _ (List.mem_of_getElem? (i := 13) rfl), fun _ h => absurd h List.not_mem_nil⟩⟩⟩⟩⟩⟩⟩⟩⟩⟩⟩⟩⟩⟩⟩⟩⟩⟩⟩⟩⟩⟩
set_option maxRecDepth 20000 in
theorem ggX10_rises_X10_isHad : GoodIn wsX10_rises wsX10_isHad := goodIn_sub (List.forall_mem_cons.mpr ⟨pm_X10_rises_r1 _ (List.mem_of_getElem? (i := 21) rfl), List.forall_mem_append.mpr ⟨List.forall_mem_append.mpr ⟨pq_X10_rises_X10_isHad_r1, List.forall_mem_append.mpr ⟨pq_X10_rises_X10_isHad_r2, pq_X10_rises_X10_isHad_r3⟩⟩, pw_X10_rises_X10⟩⟩) (by decide +kernel)
set_option maxRecDepth 20000 in
theorem gX10_rises_X10_isHad : GoodIn wsX10_rises (wsV RX10 352 RX10 yX10_isHad wsX10_isHad) := goodIn_app (goodIn_of _ (by decide +kernel)) ggX10_rises_X10_isHad
set_option maxRecDepth 20000 in
theorem ggX10_rises_X10_apart : GoodIn wsX10_rises wsX10_apart := goodIn_sub (List.forall_mem_cons.mpr ⟨pm_X10_rises_r4 _ (List.mem_of_getElem? (i := 13) rfl), fun _ h => absurd h List.not_mem_nil⟩) (by decide +kernel)
set_option maxRecDepth 20000 in
theorem gX10_rises_X10_apart : GoodIn wsX10_rises (va_wsS RX10 331 yX10_apart wsX10_apart) := goodIn_app (goodIn_of _ (by decide +kernel)) ggX10_rises_X10_apart
theorem dX10_rises_0 : decode cX10_rises 0 = .ok (.aload_n 0, 1) := by decide +kernel
theorem dX10_rises_1 : decode cX10_rises 1 = .ok (.iload_n 1, 1) := by decide +kernel
theorem dX10_rises_2 : decode cX10_rises 2 = .ok (.invokevirtual 253, 3) := by decide +kernel
theorem dX10_rises_5 : decode cX10_rises 5 = .ok (.ifCond .ne 6, 3) := by decide +kernel
theorem dX10_rises_8 : decode cX10_rises 8 = .ok (.bipush (-2), 2) := by decide +kernel
theorem dX10_rises_10 : decode cX10_rises 10 = .ok (.ireturn, 1) := by decide +kernel
theorem dX10_rises_11 : decode cX10_rises 11 = .ok (.aload_n 0, 1) := by decide +kernel
theorem dX10_rises_12 : decode cX10_rises 12 = .ok (.invokevirtual 349, 3) := by decide +kernel
theorem dX10_rises_15 : decode cX10_rises 15 = .ok (.aload_n 0, 1) := by decide +kernel
theorem dX10_rises_16 : decode cX10_rises 16 = .ok (.iload_n 1, 1) := by decide +kernel
theorem dX10_rises_17 : decode cX10_rises 17 = .ok (.invokevirtual 352, 3) := by decide +kernel
theorem dX10_rises_20 : decode cX10_rises 20 = .ok (.ifCond .ne 5, 3) := by decide +kernel
theorem dX10_rises_23 : decode cX10_rises 23 = .ok (.iconst (-1), 1) := by decide +kernel
theorem dX10_rises_24 : decode cX10_rises 24 = .ok (.ireturn, 1) := by decide +kernel
theorem dX10_rises_25 : decode cX10_rises 25 = .ok (.iconst 0, 1) := by decide +kernel
theorem dX10_rises_26 : decode cX10_rises 26 = .ok (.istore_n 2, 1) := by decide +kernel
theorem dX10_rises_27 : decode cX10_rises 27 = .ok (.iload_n 2, 1) := by decide +kernel
theorem dX10_rises_28 : decode cX10_rises 28 = .ok (.aload_n 0, 1) := by decide +kernel
theorem dX10_rises_29 : decode cX10_rises 29 = .ok (.getfield 17, 3) := by decide +kernel
theorem dX10_rises_32 : decode cX10_rises 32 = .ok (.iconst 3, 1) := by decide +kernel
theorem dX10_rises_33 : decode cX10_rises 33 = .ok (.iaload, 1) := by decide +kernel
theorem dX10_rises_34 : decode cX10_rises 34 = .ok (.if_icmp .ge 76, 3) := by decide +kernel
theorem dX10_rises_37 : decode cX10_rises 37 = .ok (.iconst 0, 1) := by decide +kernel
theorem dX10_rises_38 : decode cX10_rises 38 = .ok (.istore_n 3, 1) := by decide +kernel
theorem dX10_rises_39 : decode cX10_rises 39 = .ok (.iload_n 3, 1) := by decide +kernel
theorem dX10_rises_40 : decode cX10_rises 40 = .ok (.aload_n 0, 1) := by decide +kernel
theorem dX10_rises_41 : decode cX10_rises 41 = .ok (.getfield 17, 3) := by decide +kernel
theorem dX10_rises_44 : decode cX10_rises 44 = .ok (.iconst 3, 1) := by decide +kernel
theorem dX10_rises_45 : decode cX10_rises 45 = .ok (.iaload, 1) := by decide +kernel
theorem dX10_rises_46 : decode cX10_rises 46 = .ok (.if_icmp .ge 58, 3) := by decide +kernel
theorem dX10_rises_49 : decode cX10_rises 49 = .ok (.aload_n 0, 1) := by decide +kernel
theorem dX10_rises_50 : decode cX10_rises 50 = .ok (.getfield 28, 3) := by decide +kernel
theorem dX10_rises_53 : decode cX10_rises 53 = .ok (.iload_n 3, 1) := by decide +kernel
theorem dX10_rises_54 : decode cX10_rises 54 = .ok (.iaload, 1) := by decide +kernel
theorem dX10_rises_55 : decode cX10_rises 55 = .ok (.aload_n 0, 1) := by decide +kernel
theorem dX10_rises_56 : decode cX10_rises 56 = .ok (.getfield 28, 3) := by decide +kernel
theorem dX10_rises_59 : decode cX10_rises 59 = .ok (.iload_n 2, 1) := by decide +kernel
theorem dX10_rises_60 : decode cX10_rises 60 = .ok (.iaload, 1) := by decide +kernel
theorem dX10_rises_61 : decode cX10_rises 61 = .ok (.if_icmp .le 37, 3) := by decide +kernel
theorem dX10_rises_64 : decode cX10_rises 64 = .ok (.aload_n 0, 1) := by decide +kernel
theorem dX10_rises_65 : decode cX10_rises 65 = .ok (.getfield 70, 3) := by decide +kernel
theorem dX10_rises_68 : decode cX10_rises 68 = .ok (.iload_n 3, 1) := by decide +kernel
theorem dX10_rises_69 : decode cX10_rises 69 = .ok (.laload, 1) := by decide +kernel
theorem dX10_rises_70 : decode cX10_rises 70 = .ok (.aload_n 0, 1) := by decide +kernel
theorem dX10_rises_71 : decode cX10_rises 71 = .ok (.getfield 73, 3) := by decide +kernel
theorem dX10_rises_74 : decode cX10_rises 74 = .ok (.iload_n 3, 1) := by decide +kernel
theorem dX10_rises_75 : decode cX10_rises 75 = .ok (.laload, 1) := by decide +kernel
theorem dX10_rises_76 : decode cX10_rises 76 = .ok (.aload_n 0, 1) := by decide +kernel
theorem dX10_rises_77 : decode cX10_rises 77 = .ok (.getfield 70, 3) := by decide +kernel
theorem dX10_rises_80 : decode cX10_rises 80 = .ok (.iload_n 2, 1) := by decide +kernel
theorem dX10_rises_81 : decode cX10_rises 81 = .ok (.laload, 1) := by decide +kernel
theorem dX10_rises_82 : decode cX10_rises 82 = .ok (.aload_n 0, 1) := by decide +kernel
theorem dX10_rises_83 : decode cX10_rises 83 = .ok (.getfield 73, 3) := by decide +kernel
theorem dX10_rises_86 : decode cX10_rises 86 = .ok (.iload_n 2, 1) := by decide +kernel
theorem dX10_rises_87 : decode cX10_rises 87 = .ok (.laload, 1) := by decide +kernel
theorem dX10_rises_88 : decode cX10_rises 88 = .ok (.invokestatic 331, 3) := by decide +kernel
theorem dX10_rises_91 : decode cX10_rises 91 = .ok (.lconst 0, 1) := by decide +kernel
theorem dX10_rises_92 : decode cX10_rises 92 = .ok (.lcmp, 1) := by decide +kernel
theorem dX10_rises_93 : decode cX10_rises 93 = .ok (.ifCond .ge 5, 3) := by decide +kernel
theorem dX10_rises_96 : decode cX10_rises 96 = .ok (.iconst 0, 1) := by decide +kernel
theorem dX10_rises_97 : decode cX10_rises 97 = .ok (.ireturn, 1) := by decide +kernel
theorem dX10_rises_98 : decode cX10_rises 98 = .ok (.iinc 3 1, 3) := by decide +kernel
theorem dX10_rises_101 : decode cX10_rises 101 = .ok (.goto (-62), 3) := by decide +kernel
theorem dX10_rises_104 : decode cX10_rises 104 = .ok (.iinc 2 1, 3) := by decide +kernel
theorem dX10_rises_107 : decode cX10_rises 107 = .ok (.goto (-80), 3) := by decide +kernel
theorem dX10_rises_110 : decode cX10_rises 110 = .ok (.iconst 1, 1) := by decide +kernel
theorem dX10_rises_111 : decode cX10_rises 111 = .ok (.ireturn, 1) := by decide +kernel
set_option maxRecDepth 20000 in
theorem ggX10_see_X10_in : GoodIn wsX10_see wsX10_in := goodIn_r _ [9] (by decide +kernel) (by decide +kernel)
set_option maxRecDepth 20000 in
theorem gX10_see_X10_in : GoodIn wsX10_see (va_wsS RX10 174 yX10_in wsX10_in) := goodIn_app (goodIn_of _ (by decide +kernel)) ggX10_see_X10_in
set_option maxRecDepth 20000 in
theorem ggX10_see_X10_isSign : GoodIn wsX10_see wsX10_isSign := goodIn_r _ [13, 14, 6, 7, 8, 9, 15, 16, 17, 18, 19, 20, 21, 22, 23, 24, 25, 26, 27, 28, 29, 30, 31, 32, 33, 34, 35, 36, 37, 38, 39, 40, 41, 42, 43, 44, 45, 46, 47, 48, 49, 50, 51, 52, 53, 54, 55, 56, 57, 58, 59, 60, 61, 62, 63, 64, 65, 66, 67, 68, 69, 70, 71, 72, 73, 74, 75, 76, 77, 78, 79] (by decide +kernel) (by decide +kernel)
set_option maxRecDepth 20000 in
theorem gX10_see_X10_isSign : GoodIn wsX10_see (wsV RX10 256 RX10 yX10_isSign wsX10_isSign) := goodIn_app (goodIn_of _ (by decide +kernel)) ggX10_see_X10_isSign
theorem dX10_see_0 : decode cX10_see 0 = .ok (.iload_n 1, 1) := by decide +kernel
theorem dX10_see_1 : decode cX10_see 1 = .ok (.i2l, 1) := by decide +kernel
theorem dX10_see_2 : decode cX10_see 2 = .ok (.aload_n 0, 1) := by decide +kernel
theorem dX10_see_3 : decode cX10_see 3 = .ok (.getfield 199, 3) := by decide +kernel
theorem dX10_see_6 : decode cX10_see 6 = .ok (.i2l, 1) := by decide +kernel
theorem dX10_see_7 : decode cX10_see 7 = .ok (.ldc2_w 407, 3) := by decide +kernel
theorem dX10_see_10 : decode cX10_see 10 = .ok (.invokestatic 174, 3) := by decide +kernel
theorem dX10_see_13 : decode cX10_see 13 = .ok (.ifCond .eq 11, 3) := by decide +kernel
theorem dX10_see_16 : decode cX10_see 16 = .ok (.aload_n 0, 1) := by decide +kernel
theorem dX10_see_17 : decode cX10_see 17 = .ok (.iload_n 2, 1) := by decide +kernel
theorem dX10_see_18 : decode cX10_see 18 = .ok (.invokevirtual 256, 3) := by decide +kernel
theorem dX10_see_21 : decode cX10_see 21 = .ok (.ifCond .ne 6, 3) := by decide +kernel
theorem dX10_see_24 : decode cX10_see 24 = .ok (.bipush (-2), 2) := by decide +kernel
theorem dX10_see_26 : decode cX10_see 26 = .ok (.ireturn, 1) := by decide +kernel
theorem dX10_see_27 : decode cX10_see 27 = .ok (.aload_n 0, 1) := by decide +kernel
theorem dX10_see_28 : decode cX10_see 28 = .ok (.getfield 193, 3) := by decide +kernel
theorem dX10_see_31 : decode cX10_see 31 = .ok (.bipush 8, 2) := by decide +kernel
theorem dX10_see_33 : decode cX10_see 33 = .ok (.if_icmp .ne 6, 3) := by decide +kernel
theorem dX10_see_36 : decode cX10_see 36 = .ok (.bipush (-3), 2) := by decide +kernel
theorem dX10_see_38 : decode cX10_see 38 = .ok (.ireturn, 1) := by decide +kernel
theorem dX10_see_39 : decode cX10_see 39 = .ok (.aload_n 0, 1) := by decide +kernel
theorem dX10_see_40 : decode cX10_see 40 = .ok (.iload_n 1, 1) := by decide +kernel
theorem dX10_see_41 : decode cX10_see 41 = .ok (.putfield 199, 3) := by decide +kernel
theorem dX10_see_44 : decode cX10_see 44 = .ok (.aload_n 0, 1) := by decide +kernel
theorem dX10_see_45 : decode cX10_see 45 = .ok (.getfield 91, 3) := by decide +kernel
theorem dX10_see_48 : decode cX10_see 48 = .ok (.aload_n 0, 1) := by decide +kernel
theorem dX10_see_49 : decode cX10_see 49 = .ok (.getfield 193, 3) := by decide +kernel
theorem dX10_see_52 : decode cX10_see 52 = .ok (.iload_n 1, 1) := by decide +kernel
theorem dX10_see_53 : decode cX10_see 53 = .ok (.iastore, 1) := by decide +kernel
theorem dX10_see_54 : decode cX10_see 54 = .ok (.aload_n 0, 1) := by decide +kernel
theorem dX10_see_55 : decode cX10_see 55 = .ok (.getfield 94, 3) := by decide +kernel
theorem dX10_see_58 : decode cX10_see 58 = .ok (.aload_n 0, 1) := by decide +kernel
theorem dX10_see_59 : decode cX10_see 59 = .ok (.getfield 193, 3) := by decide +kernel
theorem dX10_see_62 : decode cX10_see 62 = .ok (.iload_n 2, 1) := by decide +kernel
theorem dX10_see_63 : decode cX10_see 63 = .ok (.iastore, 1) := by decide +kernel
theorem dX10_see_64 : decode cX10_see 64 = .ok (.aload_n 0, 1) := by decide +kernel
theorem dX10_see_65 : decode cX10_see 65 = .ok (.dup, 1) := by decide +kernel
theorem dX10_see_66 : decode cX10_see 66 = .ok (.getfield 193, 3) := by decide +kernel
theorem dX10_see_69 : decode cX10_see 69 = .ok (.iconst 1, 1) := by decide +kernel
theorem dX10_see_70 : decode cX10_see 70 = .ok (.iadd, 1) := by decide +kernel
theorem dX10_see_71 : decode cX10_see 71 = .ok (.putfield 193, 3) := by decide +kernel
theorem dX10_see_74 : decode cX10_see 74 = .ok (.aload_n 0, 1) := by decide +kernel
theorem dX10_see_75 : decode cX10_see 75 = .ok (.getfield 193, 3) := by decide +kernel
theorem dX10_see_78 : decode cX10_see 78 = .ok (.iconst 1, 1) := by decide +kernel
theorem dX10_see_79 : decode cX10_see 79 = .ok (.isub, 1) := by decide +kernel
theorem dX10_see_80 : decode cX10_see 80 = .ok (.ireturn, 1) := by decide +kernel
set_option maxRecDepth 20000 in
theorem ggX10_right_X10_in : GoodIn wsX10_right wsX10_in := goodIn_r _ [11] (by decide +kernel) (by decide +kernel)
set_option maxRecDepth 20000 in
theorem gX10_right_X10_in : GoodIn wsX10_right (va_wsS RX10 174 yX10_in wsX10_in) := goodIn_app (goodIn_of _ (by decide +kernel)) ggX10_right_X10_in
set_option maxRecDepth 20000 in
theorem ggX10_right_X10_isSign : GoodIn wsX10_right wsX10_isSign := goodIn_r _ [15, 16, 8, 9, 10, 11, 17, 18, 19, 20, 21, 22, 23, 24, 25, 26, 27, 28, 29, 30, 31, 32, 33, 34, 35, 36, 37, 38, 39, 40, 41, 42, 43, 44, 45, 46, 47, 48, 49, 50, 51, 52, 53, 54, 55, 56, 57, 58, 59, 60, 61, 62, 63, 64, 65, 66, 67, 68, 69, 70, 71, 72, 73, 74, 75, 76, 77, 78, 79, 80, 81] (by decide +kernel) (by decide +kernel)
set_option maxRecDepth 20000 in
theorem gX10_right_X10_isSign : GoodIn wsX10_right (wsV RX10 256 RX10 yX10_isSign wsX10_isSign) := goodIn_app (goodIn_of _ (by decide +kernel)) ggX10_right_X10_isSign
theorem dX10_right_0 : decode cX10_right 0 = .ok (.iload_n 1, 1) := by decide +kernel
theorem dX10_right_1 : decode cX10_right 1 = .ok (.i2l, 1) := by decide +kernel
theorem dX10_right_2 : decode cX10_right 2 = .ok (.aload_n 0, 1) := by decide +kernel
theorem dX10_right_3 : decode cX10_right 3 = .ok (.getfield 199, 3) := by decide +kernel
theorem dX10_right_6 : decode cX10_right 6 = .ok (.i2l, 1) := by decide +kernel
theorem dX10_right_7 : decode cX10_right 7 = .ok (.ldc2_w 407, 3) := by decide +kernel
theorem dX10_right_10 : decode cX10_right 10 = .ok (.invokestatic 174, 3) := by decide +kernel
theorem dX10_right_13 : decode cX10_right 13 = .ok (.ifCond .eq 27, 3) := by decide +kernel
theorem dX10_right_16 : decode cX10_right 16 = .ok (.iload_n 2, 1) := by decide +kernel
theorem dX10_right_17 : decode cX10_right 17 = .ok (.i2l, 1) := by decide +kernel
theorem dX10_right_18 : decode cX10_right 18 = .ok (.lconst 0, 1) := by decide +kernel
theorem dX10_right_19 : decode cX10_right 19 = .ok (.aload_n 0, 1) := by decide +kernel
theorem dX10_right_20 : decode cX10_right 20 = .ok (.getfield 193, 3) := by decide +kernel
theorem dX10_right_23 : decode cX10_right 23 = .ok (.iconst 1, 1) := by decide +kernel
theorem dX10_right_24 : decode cX10_right 24 = .ok (.isub, 1) := by decide +kernel
theorem dX10_right_25 : decode cX10_right 25 = .ok (.i2l, 1) := by decide +kernel
theorem dX10_right_26 : decode cX10_right 26 = .ok (.invokestatic 174, 3) := by decide +kernel
theorem dX10_right_29 : decode cX10_right 29 = .ok (.ifCond .eq 11, 3) := by decide +kernel
theorem dX10_right_32 : decode cX10_right 32 = .ok (.aload_n 0, 1) := by decide +kernel
theorem dX10_right_33 : decode cX10_right 33 = .ok (.iload_n 3, 1) := by decide +kernel
theorem dX10_right_34 : decode cX10_right 34 = .ok (.invokevirtual 256, 3) := by decide +kernel
theorem dX10_right_37 : decode cX10_right 37 = .ok (.ifCond .ne 6, 3) := by decide +kernel
theorem dX10_right_40 : decode cX10_right 40 = .ok (.bipush (-2), 2) := by decide +kernel
theorem dX10_right_42 : decode cX10_right 42 = .ok (.ireturn, 1) := by decide +kernel
theorem dX10_right_43 : decode cX10_right 43 = .ok (.aload_n 0, 1) := by decide +kernel
theorem dX10_right_44 : decode cX10_right 44 = .ok (.getfield 196, 3) := by decide +kernel
theorem dX10_right_47 : decode cX10_right 47 = .ok (.bipush 20, 2) := by decide +kernel
theorem dX10_right_49 : decode cX10_right 49 = .ok (.if_icmp .ne 6, 3) := by decide +kernel
theorem dX10_right_52 : decode cX10_right 52 = .ok (.bipush (-3), 2) := by decide +kernel
theorem dX10_right_54 : decode cX10_right 54 = .ok (.ireturn, 1) := by decide +kernel
theorem dX10_right_55 : decode cX10_right 55 = .ok (.aload_n 0, 1) := by decide +kernel
theorem dX10_right_56 : decode cX10_right 56 = .ok (.iload_n 1, 1) := by decide +kernel
theorem dX10_right_57 : decode cX10_right 57 = .ok (.putfield 199, 3) := by decide +kernel
theorem dX10_right_60 : decode cX10_right 60 = .ok (.aload_n 0, 1) := by decide +kernel
theorem dX10_right_61 : decode cX10_right 61 = .ok (.getfield 97, 3) := by decide +kernel
theorem dX10_right_64 : decode cX10_right 64 = .ok (.aload_n 0, 1) := by decide +kernel
theorem dX10_right_65 : decode cX10_right 65 = .ok (.getfield 196, 3) := by decide +kernel
theorem dX10_right_68 : decode cX10_right 68 = .ok (.iload_n 2, 1) := by decide +kernel
theorem dX10_right_69 : decode cX10_right 69 = .ok (.iastore, 1) := by decide +kernel
theorem dX10_right_70 : decode cX10_right 70 = .ok (.aload_n 0, 1) := by decide +kernel
theorem dX10_right_71 : decode cX10_right 71 = .ok (.getfield 100, 3) := by decide +kernel
theorem dX10_right_74 : decode cX10_right 74 = .ok (.aload_n 0, 1) := by decide +kernel
theorem dX10_right_75 : decode cX10_right 75 = .ok (.getfield 196, 3) := by decide +kernel
theorem dX10_right_78 : decode cX10_right 78 = .ok (.iload_n 1, 1) := by decide +kernel
theorem dX10_right_79 : decode cX10_right 79 = .ok (.iastore, 1) := by decide +kernel
theorem dX10_right_80 : decode cX10_right 80 = .ok (.aload_n 0, 1) := by decide +kernel
theorem dX10_right_81 : decode cX10_right 81 = .ok (.getfield 103, 3) := by decide +kernel
theorem dX10_right_84 : decode cX10_right 84 = .ok (.aload_n 0, 1) := by decide +kernel
theorem dX10_right_85 : decode cX10_right 85 = .ok (.getfield 196, 3) := by decide +kernel
theorem dX10_right_88 : decode cX10_right 88 = .ok (.iload_n 3, 1) := by decide +kernel
theorem dX10_right_89 : decode cX10_right 89 = .ok (.iastore, 1) := by decide +kernel
theorem dX10_right_90 : decode cX10_right 90 = .ok (.aload_n 0, 1) := by decide +kernel
theorem dX10_right_91 : decode cX10_right 91 = .ok (.dup, 1) := by decide +kernel
theorem dX10_right_92 : decode cX10_right 92 = .ok (.getfield 196, 3) := by decide +kernel
theorem dX10_right_95 : decode cX10_right 95 = .ok (.iconst 1, 1) := by decide +kernel
theorem dX10_right_96 : decode cX10_right 96 = .ok (.iadd, 1) := by decide +kernel
theorem dX10_right_97 : decode cX10_right 97 = .ok (.putfield 196, 3) := by decide +kernel
theorem dX10_right_100 : decode cX10_right 100 = .ok (.iconst 0, 1) := by decide +kernel
theorem dX10_right_101 : decode cX10_right 101 = .ok (.istore 4, 2) := by decide +kernel
theorem dX10_right_103 : decode cX10_right 103 = .ok (.iconst 0, 1) := by decide +kernel
theorem dX10_right_104 : decode cX10_right 104 = .ok (.istore 5, 2) := by decide +kernel
theorem dX10_right_106 : decode cX10_right 106 = .ok (.iload 5, 2) := by decide +kernel
theorem dX10_right_108 : decode cX10_right 108 = .ok (.aload_n 0, 1) := by decide +kernel
theorem dX10_right_109 : decode cX10_right 109 = .ok (.getfield 196, 3) := by decide +kernel
theorem dX10_right_112 : decode cX10_right 112 = .ok (.if_icmp .ge 30, 3) := by decide +kernel
theorem dX10_right_115 : decode cX10_right 115 = .ok (.iload 4, 2) := by decide +kernel
theorem dX10_right_117 : decode cX10_right 117 = .ok (.aload_n 0, 1) := by decide +kernel
theorem dX10_right_118 : decode cX10_right 118 = .ok (.getfield 97, 3) := by decide +kernel
theorem dX10_right_121 : decode cX10_right 121 = .ok (.iload 5, 2) := by decide +kernel
theorem dX10_right_123 : decode cX10_right 123 = .ok (.iaload, 1) := by decide +kernel
theorem dX10_right_124 : decode cX10_right 124 = .ok (.iload_n 2, 1) := by decide +kernel
theorem dX10_right_125 : decode cX10_right 125 = .ok (.if_icmp .ne 7, 3) := by decide +kernel
theorem dX10_right_128 : decode cX10_right 128 = .ok (.iconst 1, 1) := by decide +kernel
theorem dX10_right_129 : decode cX10_right 129 = .ok (.goto 4, 3) := by decide +kernel
theorem dX10_right_132 : decode cX10_right 132 = .ok (.iconst 0, 1) := by decide +kernel
theorem dX10_right_133 : decode cX10_right 133 = .ok (.iadd, 1) := by decide +kernel
theorem dX10_right_134 : decode cX10_right 134 = .ok (.istore 4, 2) := by decide +kernel
theorem dX10_right_136 : decode cX10_right 136 = .ok (.iinc 5 1, 3) := by decide +kernel
theorem dX10_right_139 : decode cX10_right 139 = .ok (.goto (-33), 3) := by decide +kernel
theorem dX10_right_142 : decode cX10_right 142 = .ok (.iload 4, 2) := by decide +kernel
theorem dX10_right_144 : decode cX10_right 144 = .ok (.ireturn, 1) := by decide +kernel
set_option maxRecDepth 20000 in
theorem ggX10_product_X10_chanceOf : GoodIn wsX10_product wsX10_chanceOf := goodIn_r _ [12, 13, 14, 15, 16, 17, 18, 19, 20, 21, 22, 23, 24, 25, 26, 27, 28, 29, 30, 31, 32, 33, 34, 35, 36, 37, 38, 39, 40, 41, 42, 43, 44, 45, 46, 47, 48, 49, 50, 51, 52, 53, 54, 55, 56, 57, 58, 59, 60, 61, 62, 63, 64, 65, 66, 67, 68, 69, 70, 71, 72, 73, 74, 75, 76, 77, 78] (by decide +kernel) (by decide +kernel)
set_option maxRecDepth 20000 in
theorem gX10_product_X10_chanceOf : GoodIn wsX10_product (wsV RX10 259 RX10 yX10_chanceOf wsX10_chanceOf) := goodIn_app (goodIn_of _ (by decide +kernel)) ggX10_product_X10_chanceOf
theorem dX10_product_0 : decode cX10_product 0 = .ok (.lconst 1, 1) := by decide +kernel
theorem dX10_product_1 : decode cX10_product 1 = .ok (.lstore_n 3, 1) := by decide +kernel
theorem dX10_product_2 : decode cX10_product 2 = .ok (.iconst 0, 1) := by decide +kernel
theorem dX10_product_3 : decode cX10_product 3 = .ok (.istore 5, 2) := by decide +kernel
theorem dX10_product_5 : decode cX10_product 5 = .ok (.iload 5, 2) := by decide +kernel
theorem dX10_product_7 : decode cX10_product 7 = .ok (.aload_n 0, 1) := by decide +kernel
theorem dX10_product_8 : decode cX10_product 8 = .ok (.getfield 193, 3) := by decide +kernel
theorem dX10_product_11 : decode cX10_product 11 = .ok (.if_icmp .ge 93, 3) := by decide +kernel
theorem dX10_product_14 : decode cX10_product 14 = .ok (.aload_n 0, 1) := by decide +kernel
theorem dX10_product_15 : decode cX10_product 15 = .ok (.getfield 91, 3) := by decide +kernel
theorem dX10_product_18 : decode cX10_product 18 = .ok (.iload 5, 2) := by decide +kernel
theorem dX10_product_20 : decode cX10_product 20 = .ok (.iaload, 1) := by decide +kernel
theorem dX10_product_21 : decode cX10_product 21 = .ok (.iload_n 2, 1) := by decide +kernel
theorem dX10_product_22 : decode cX10_product 22 = .ok (.if_icmp .le 6, 3) := by decide +kernel
theorem dX10_product_25 : decode cX10_product 25 = .ok (.goto 73, 3) := by decide +kernel
theorem dX10_product_28 : decode cX10_product 28 = .ok (.aload_n 0, 1) := by decide +kernel
theorem dX10_product_29 : decode cX10_product 29 = .ok (.getfield 94, 3) := by decide +kernel
theorem dX10_product_32 : decode cX10_product 32 = .ok (.iload 5, 2) := by decide +kernel
theorem dX10_product_34 : decode cX10_product 34 = .ok (.iaload, 1) := by decide +kernel
theorem dX10_product_35 : decode cX10_product 35 = .ok (.istore 6, 2) := by decide +kernel
theorem dX10_product_37 : decode cX10_product 37 = .ok (.iconst 0, 1) := by decide +kernel
theorem dX10_product_38 : decode cX10_product 38 = .ok (.istore 7, 2) := by decide +kernel
theorem dX10_product_40 : decode cX10_product 40 = .ok (.iload 7, 2) := by decide +kernel
theorem dX10_product_42 : decode cX10_product 42 = .ok (.aload_n 0, 1) := by decide +kernel
theorem dX10_product_43 : decode cX10_product 43 = .ok (.getfield 196, 3) := by decide +kernel
theorem dX10_product_46 : decode cX10_product 46 = .ok (.if_icmp .ge 41, 3) := by decide +kernel
theorem dX10_product_49 : decode cX10_product 49 = .ok (.aload_n 0, 1) := by decide +kernel
theorem dX10_product_50 : decode cX10_product 50 = .ok (.getfield 97, 3) := by decide +kernel
theorem dX10_product_53 : decode cX10_product 53 = .ok (.iload 7, 2) := by decide +kernel
theorem dX10_product_55 : decode cX10_product 55 = .ok (.iaload, 1) := by decide +kernel
theorem dX10_product_56 : decode cX10_product 56 = .ok (.iload 5, 2) := by decide +kernel
theorem dX10_product_58 : decode cX10_product 58 = .ok (.if_icmp .ne 23, 3) := by decide +kernel
theorem dX10_product_61 : decode cX10_product 61 = .ok (.aload_n 0, 1) := by decide +kernel
theorem dX10_product_62 : decode cX10_product 62 = .ok (.getfield 100, 3) := by decide +kernel
theorem dX10_product_65 : decode cX10_product 65 = .ok (.iload 7, 2) := by decide +kernel
theorem dX10_product_67 : decode cX10_product 67 = .ok (.iaload, 1) := by decide +kernel
theorem dX10_product_68 : decode cX10_product 68 = .ok (.iload_n 2, 1) := by decide +kernel
theorem dX10_product_69 : decode cX10_product 69 = .ok (.if_icmp .gt 12, 3) := by decide +kernel
theorem dX10_product_72 : decode cX10_product 72 = .ok (.aload_n 0, 1) := by decide +kernel
theorem dX10_product_73 : decode cX10_product 73 = .ok (.getfield 103, 3) := by decide +kernel
theorem dX10_product_76 : decode cX10_product 76 = .ok (.iload 7, 2) := by decide +kernel
theorem dX10_product_78 : decode cX10_product 78 = .ok (.iaload, 1) := by decide +kernel
theorem dX10_product_79 : decode cX10_product 79 = .ok (.istore 6, 2) := by decide +kernel
theorem dX10_product_81 : decode cX10_product 81 = .ok (.iinc 7 1, 3) := by decide +kernel
theorem dX10_product_84 : decode cX10_product 84 = .ok (.goto (-44), 3) := by decide +kernel
theorem dX10_product_87 : decode cX10_product 87 = .ok (.lload_n 3, 1) := by decide +kernel
theorem dX10_product_88 : decode cX10_product 88 = .ok (.aload_n 0, 1) := by decide +kernel
theorem dX10_product_89 : decode cX10_product 89 = .ok (.iload_n 1, 1) := by decide +kernel
theorem dX10_product_90 : decode cX10_product 90 = .ok (.iload 6, 2) := by decide +kernel
theorem dX10_product_92 : decode cX10_product 92 = .ok (.invokevirtual 259, 3) := by decide +kernel
theorem dX10_product_95 : decode cX10_product 95 = .ok (.i2l, 1) := by decide +kernel
theorem dX10_product_96 : decode cX10_product 96 = .ok (.lmul, 1) := by decide +kernel
theorem dX10_product_97 : decode cX10_product 97 = .ok (.lstore_n 3, 1) := by decide +kernel
theorem dX10_product_98 : decode cX10_product 98 = .ok (.iinc 5 1, 3) := by decide +kernel
theorem dX10_product_101 : decode cX10_product 101 = .ok (.goto (-96), 3) := by decide +kernel
theorem dX10_product_104 : decode cX10_product 104 = .ok (.lload_n 3, 1) := by decide +kernel
theorem dX10_product_105 : decode cX10_product 105 = .ok (.lreturn, 1) := by decide +kernel
theorem kk_X10_ratio_0 : Cond.fieldLink RX10 17 "PaidBySignsModel" "num" "[I" ∈ wsX10_ratio := by decide +kernel
theorem kk_X10_ratio_1 : Cond.fieldLink RX10 28 "PaidBySignsModel" "brings" "[I" ∈ wsX10_ratio := by decide +kernel
theorem kk_X10_rises_0 : Cond.fieldLink RX10 17 "PaidBySignsModel" "num" "[I" ∈ wsX10_rises := pm_X10_rises_r1 _ (List.mem_of_getElem? (i := 0) rfl)
theorem kk_X10_rises_1 : Cond.fieldLink RX10 28 "PaidBySignsModel" "brings" "[I" ∈ wsX10_rises := pm_X10_rises_r1 _ (List.mem_of_getElem? (i := 1) rfl)
theorem kk_X10_rises_2 : Cond.fieldLink RX10 70 "PaidBySignsModel" "bestUp" "[J" ∈ wsX10_rises := pm_X10_rises_r1 _ (List.mem_of_getElem? (i := 2) rfl)
theorem kk_X10_rises_3 : Cond.fieldLink RX10 73 "PaidBySignsModel" "bestLow" "[J" ∈ wsX10_rises := pm_X10_rises_r1 _ (List.mem_of_getElem? (i := 3) rfl)
theorem kk_X10_see_0 : Cond.fieldLink RX10 199 "PaidBySignsModel" "lastTold" "I" ∈ wsX10_see := by decide +kernel
theorem kk_X10_see_1 : Cond.constantLong RX10 407 (999) ∈ wsX10_see := by decide +kernel
theorem kk_X10_see_2 : Cond.fieldLink RX10 193 "PaidBySignsModel" "seenMany" "I" ∈ wsX10_see := by decide +kernel
theorem kk_X10_see_3 : Cond.fieldLink RX10 91 "PaidBySignsModel" "sTold" "[I" ∈ wsX10_see := by decide +kernel
theorem kk_X10_see_4 : Cond.fieldLink RX10 94 "PaidBySignsModel" "sSign" "[I" ∈ wsX10_see := by decide +kernel
theorem kk_X10_right_0 : Cond.fieldLink RX10 199 "PaidBySignsModel" "lastTold" "I" ∈ wsX10_right := by decide +kernel
theorem kk_X10_right_1 : Cond.constantLong RX10 407 (999) ∈ wsX10_right := by decide +kernel
theorem kk_X10_right_2 : Cond.fieldLink RX10 193 "PaidBySignsModel" "seenMany" "I" ∈ wsX10_right := by decide +kernel
theorem kk_X10_right_3 : Cond.fieldLink RX10 196 "PaidBySignsModel" "rightMany" "I" ∈ wsX10_right := by decide +kernel
theorem kk_X10_right_4 : Cond.fieldLink RX10 97 "PaidBySignsModel" "rOf" "[I" ∈ wsX10_right := by decide +kernel
theorem kk_X10_right_5 : Cond.fieldLink RX10 100 "PaidBySignsModel" "rTold" "[I" ∈ wsX10_right := by decide +kernel
theorem kk_X10_right_6 : Cond.fieldLink RX10 103 "PaidBySignsModel" "rSign" "[I" ∈ wsX10_right := by decide +kernel
theorem kk_X10_product_0 : Cond.fieldLink RX10 193 "PaidBySignsModel" "seenMany" "I" ∈ wsX10_product := by decide +kernel
theorem kk_X10_product_1 : Cond.fieldLink RX10 91 "PaidBySignsModel" "sTold" "[I" ∈ wsX10_product := by decide +kernel
theorem kk_X10_product_2 : Cond.fieldLink RX10 94 "PaidBySignsModel" "sSign" "[I" ∈ wsX10_product := by decide +kernel
theorem kk_X10_product_3 : Cond.fieldLink RX10 196 "PaidBySignsModel" "rightMany" "I" ∈ wsX10_product := by decide +kernel
theorem kk_X10_product_4 : Cond.fieldLink RX10 97 "PaidBySignsModel" "rOf" "[I" ∈ wsX10_product := by decide +kernel
theorem kk_X10_product_5 : Cond.fieldLink RX10 100 "PaidBySignsModel" "rTold" "[I" ∈ wsX10_product := by decide +kernel
theorem kk_X10_product_6 : Cond.fieldLink RX10 103 "PaidBySignsModel" "rSign" "[I" ∈ wsX10_product := by decide +kernel
theorem iw_X10_ratio_X10 : ∀ w ∈ wsX100, w ∈ wsX10_ratio := by decide +kernel
theorem iw_X10_rises_X10 : ∀ w ∈ wsX100, w ∈ wsX10_rises := pw_X10_rises_X10
theorem iw_X10_see_X10 : ∀ w ∈ wsX100, w ∈ wsX10_see := by decide +kernel
theorem iw_X10_right_X10 : ∀ w ∈ wsX100, w ∈ wsX10_right := by decide +kernel
theorem iw_X10_product_X10 : ∀ w ∈ wsX100, w ∈ wsX10_product := by decide +kernel

abbrev cX10_odds : ByteArray := prog_12_method_83_code
def yX10_odds : MethodName := ⟨RX10, "odds", "(II)I"⟩
abbrev cX10_guess : ByteArray := prog_12_method_84_code
def yX10_guess : MethodName := ⟨RX10, "guess", "(I)I"⟩
abbrev cX10_count : ByteArray := prog_12_method_85_code
def yX10_count : MethodName := ⟨RX10, "count", "(I)I"⟩
def wsX10_odds_r1 : List Cond := [Cond.constantLong RX10 407 (999), Cond.fieldLink RX10 17 "PaidBySignsModel" "num" "[I", Cond.methodLink RX10 253 yX10_isWork, Cond.instanceMethod yX10_isWork, Cond.selects RX10 yX10_isWork yX10_isWork, Cond.initialized RX10, Cond.code yX10_isWork cX10_isWork 2 (some .boolean), Cond.methodLink RX10 174 yX10_in, Cond.static yX10_in, Cond.code yX10_in cX10_in 6 (some .boolean), Cond.methodLink RX10 409 yX10_product, Cond.instanceMethod yX10_product, Cond.selects RX10 yX10_product yX10_product, Cond.code yX10_product cX10_product 8 (some .long), Cond.fieldLink RX10 193 "PaidBySignsModel" "seenMany" "I", Cond.fieldLink RX10 91 "PaidBySignsModel" "sTold" "[I", Cond.fieldLink RX10 94 "PaidBySignsModel" "sSign" "[I", Cond.fieldLink RX10 196 "PaidBySignsModel" "rightMany" "I", Cond.fieldLink RX10 97 "PaidBySignsModel" "rOf" "[I", Cond.fieldLink RX10 100 "PaidBySignsModel" "rTold" "[I", Cond.fieldLink RX10 103 "PaidBySignsModel" "rSign" "[I", Cond.methodLink RX10 259 yX10_chanceOf, Cond.instanceMethod yX10_chanceOf, Cond.selects RX10 yX10_chanceOf yX10_chanceOf]
def wsX10_odds_r2 : List Cond := [Cond.code yX10_chanceOf cX10_chanceOf 3 (some .int), Cond.fieldLink RX10 34 "PaidBySignsModel" "chances" "[I", Cond.methodLink RX10 355 yX10_tell, Cond.instanceMethod yX10_tell, Cond.selects RX10 yX10_tell yX10_tell, Cond.code yX10_tell cX10_tell 7 none, Cond.fieldLink RX10 281 "PaidBySignsModel" "upper" "J", Cond.fieldLink RX10 284 "PaidBySignsModel" "lower" "J", Cond.fieldLink RX10 202 "PaidBySignsModel" "hasFraction" "Z", Cond.methodLink RX10 277 yX10_common, Cond.static yX10_common, Cond.code yX10_common cX10_common 10 (some .long)]
def wsX10_odds : List Cond := .code yX10_odds cX10_odds 6 (some .int) :: ((wsX10_odds_r1 ++ wsX10_odds_r2) ++ wsX100)
def wsX10_guess : List Cond := .code yX10_guess cX10_guess 8 (some .int) :: ([.constantLong RX10 407 (999), .fieldLink RX10 17 "PaidBySignsModel" "num" "[I", .methodLink RX10 174 yX10_in, .static yX10_in, .initialized RX10, .code yX10_in cX10_in 6 (some .boolean), .methodLink RX10 409 yX10_product, .instanceMethod yX10_product, .selects RX10 yX10_product yX10_product, .code yX10_product cX10_product 8 (some .long), .fieldLink RX10 193 "PaidBySignsModel" "seenMany" "I", .fieldLink RX10 91 "PaidBySignsModel" "sTold" "[I", .fieldLink RX10 94 "PaidBySignsModel" "sSign" "[I", .fieldLink RX10 196 "PaidBySignsModel" "rightMany" "I", .fieldLink RX10 97 "PaidBySignsModel" "rOf" "[I", .fieldLink RX10 100 "PaidBySignsModel" "rTold" "[I", .fieldLink RX10 103 "PaidBySignsModel" "rSign" "[I", .methodLink RX10 259 yX10_chanceOf, .instanceMethod yX10_chanceOf, .selects RX10 yX10_chanceOf yX10_chanceOf, .code yX10_chanceOf cX10_chanceOf 3 (some .int), .fieldLink RX10 34 "PaidBySignsModel" "chances" "[I"] ++ wsX100)
def wsX10_count : List Cond := .code yX10_count cX10_count 2 (some .int) :: ([.fieldLink RX10 193 "PaidBySignsModel" "seenMany" "I", .fieldLink RX10 196 "PaidBySignsModel" "rightMany" "I", .fieldLink RX10 190 "PaidBySignsModel" "lowerPress" "I", .fieldLink RX10 112 "PaidBySignsModel" "taped" "I"] ++ wsX100)
theorem pm_X10_odds_r1 : ∀ w ∈ wsX10_odds_r1, w ∈ wsX10_odds := fun _ h => List.mem_cons_of_mem _ (List.mem_append_left _ (List.mem_append_left _ h))
theorem pm_X10_odds_r2 : ∀ w ∈ wsX10_odds_r2, w ∈ wsX10_odds := fun _ h => List.mem_cons_of_mem _ (List.mem_append_left _ (List.mem_append_right _ (h)))
theorem pw_X10_odds_X10 : ∀ w ∈ wsX100, w ∈ wsX10_odds := fun _ h => List.mem_cons_of_mem _ (List.mem_append_right _ h)
set_option maxRecDepth 20000 in
theorem ggX10_odds_X10_isWork : GoodIn wsX10_odds wsX10_isWork := goodIn_sub (List.forall_mem_cons.mpr ⟨pm_X10_odds_r1 _ (List.mem_of_getElem? (i := 6) rfl), List.forall_mem_append.mpr ⟨List.forall_mem_cons.mpr ⟨pm_X10_odds_r1 _ (List.mem_of_getElem? (i := 1) rfl), List.forall_mem_cons.mpr ⟨pm_X10_odds_r1 _ (List.mem_of_getElem? (i := 7) rfl), List.forall_mem_cons.mpr ⟨pm_X10_odds_r1 _ (List.mem_of_getElem? (i := 8) rfl), List.forall_mem_cons.mpr ⟨pm_X10_odds_r1 _ (List.mem_of_getElem? (i := 5) rfl), List.forall_mem_cons.mpr ⟨pm_X10_odds_r1 _ (List.mem_of_getElem? (i := 9) rfl), fun _ h => absurd h List.not_mem_nil⟩⟩⟩⟩⟩, pw_X10_odds_X10⟩⟩) (by decide +kernel)
set_option maxRecDepth 20000 in
theorem gX10_odds_X10_isWork : GoodIn wsX10_odds (wsV RX10 253 RX10 yX10_isWork wsX10_isWork) := goodIn_app (goodIn_of _ (by decide +kernel)) ggX10_odds_X10_isWork
set_option maxRecDepth 20000 in
theorem ggX10_odds_X10_in : GoodIn wsX10_odds wsX10_in := goodIn_sub (List.forall_mem_cons.mpr ⟨pm_X10_odds_r1 _ (List.mem_of_getElem? (i := 9) rfl), fun _ h => absurd h List.not_mem_nil⟩) (by decide +kernel)
set_option maxRecDepth 20000 in
theorem gX10_odds_X10_in : GoodIn wsX10_odds (va_wsS RX10 174 yX10_in wsX10_in) := goodIn_app (goodIn_of _ (by decide +kernel)) ggX10_odds_X10_in
set_option maxRecDepth 20000 in
theorem ggX10_odds_X10_product : GoodIn wsX10_odds wsX10_product := goodIn_sub (List.forall_mem_cons.mpr ⟨pm_X10_odds_r1 _ (List.mem_of_getElem? (i := 13) rfl), List.forall_mem_append.mpr ⟨List.forall_mem_cons.mpr ⟨pm_X10_odds_r1 _ (List.mem_of_getElem? (i := 14) rfl), List.forall_mem_cons.mpr ⟨pm_X10_odds_r1 _ (List.mem_of_getElem? (i := 15) rfl), List.forall_mem_cons.mpr ⟨pm_X10_odds_r1 _ (List.mem_of_getElem? (i := 16) rfl), List.forall_mem_cons.mpr ⟨pm_X10_odds_r1 _ (List.mem_of_getElem? (i := 17) rfl), List.forall_mem_cons.mpr ⟨pm_X10_odds_r1 _ (List.mem_of_getElem? (i := 18) rfl), List.forall_mem_cons.mpr ⟨pm_X10_odds_r1 _ (List.mem_of_getElem? (i := 19) rfl), List.forall_mem_cons.mpr ⟨pm_X10_odds_r1 _ (List.mem_of_getElem? (i := 20) rfl), List.forall_mem_cons.mpr ⟨pm_X10_odds_r1 _ (List.mem_of_getElem? (i := 21) rfl), List.forall_mem_cons.mpr ⟨pm_X10_odds_r1 _ (List.mem_of_getElem? (i := 22) rfl), List.forall_mem_cons.mpr ⟨pm_X10_odds_r1 _ (List.mem_of_getElem? (i := 23) rfl), List.forall_mem_cons.mpr ⟨pm_X10_odds_r1 _ (List.mem_of_getElem? (i := 5) rfl), List.forall_mem_cons.mpr ⟨pm_X10_odds_r2 _ (List.mem_of_getElem? (i := 0) rfl), List.forall_mem_cons.mpr ⟨pm_X10_odds_r2 _ (List.mem_of_getElem? (i := 1) rfl), fun _ h => absurd h List.not_mem_nil⟩⟩⟩⟩⟩⟩⟩⟩⟩⟩⟩⟩⟩, pw_X10_odds_X10⟩⟩) (by decide +kernel)
set_option maxRecDepth 20000 in
theorem gX10_odds_X10_product : GoodIn wsX10_odds (wsV RX10 409 RX10 yX10_product wsX10_product) := goodIn_app (goodIn_of _ (by decide +kernel)) ggX10_odds_X10_product
set_option maxRecDepth 20000 in
theorem ggX10_odds_X10_tell : GoodIn wsX10_odds wsX10_tell := goodIn_sub (List.forall_mem_cons.mpr ⟨pm_X10_odds_r2 _ (List.mem_of_getElem? (i := 5) rfl), List.forall_mem_append.mpr ⟨List.forall_mem_cons.mpr ⟨pm_X10_odds_r2 _ (List.mem_of_getElem? (i := 6) rfl), List.forall_mem_cons.mpr ⟨pm_X10_odds_r2 _ (List.mem_of_getElem? (i := 7) rfl), List.forall_mem_cons.mpr ⟨pm_X10_odds_r2 _ (List.mem_of_getElem? (i := 8) rfl), List.forall_mem_cons.mpr ⟨pm_X10_odds_r2 _ (List.mem_of_getElem? (i := 9) rfl), List.forall_mem_cons.mpr ⟨pm_X10_odds_r2 _ (List.mem_of_getElem? (i := 10) rfl), List.forall_mem_cons.mpr ⟨pm_X10_odds_r1 _ (List.mem_of_getElem? (i := 5) rfl), List.forall_mem_cons.mpr ⟨pm_X10_odds_r2 _ (List.mem_of_getElem? (i := 11) rfl), fun _ h => absurd h List.not_mem_nil⟩⟩⟩⟩⟩⟩⟩, pw_X10_odds_X10⟩⟩) (by decide +kernel)
set_option maxRecDepth 20000 in
theorem gX10_odds_X10_tell : GoodIn wsX10_odds (wsV RX10 355 RX10 yX10_tell wsX10_tell) := goodIn_app (goodIn_of _ (by decide +kernel)) ggX10_odds_X10_tell
theorem dX10_odds_0 : decode cX10_odds 0 = .ok (.aload_n 0, 1) := by decide +kernel
theorem dX10_odds_1 : decode cX10_odds 1 = .ok (.iload_n 1, 1) := by decide +kernel
theorem dX10_odds_2 : decode cX10_odds 2 = .ok (.invokevirtual 253, 3) := by decide +kernel
theorem dX10_odds_5 : decode cX10_odds 5 = .ok (.ifCond .eq 15, 3) := by decide +kernel
theorem dX10_odds_8 : decode cX10_odds 8 = .ok (.iload_n 2, 1) := by decide +kernel
theorem dX10_odds_9 : decode cX10_odds 9 = .ok (.i2l, 1) := by decide +kernel
theorem dX10_odds_10 : decode cX10_odds 10 = .ok (.lconst 0, 1) := by decide +kernel
theorem dX10_odds_11 : decode cX10_odds 11 = .ok (.ldc2_w 407, 3) := by decide +kernel
theorem dX10_odds_14 : decode cX10_odds 14 = .ok (.invokestatic 174, 3) := by decide +kernel
theorem dX10_odds_17 : decode cX10_odds 17 = .ok (.ifCond .ne 6, 3) := by decide +kernel
theorem dX10_odds_20 : decode cX10_odds 20 = .ok (.bipush (-2), 2) := by decide +kernel
theorem dX10_odds_22 : decode cX10_odds 22 = .ok (.ireturn, 1) := by decide +kernel
theorem dX10_odds_23 : decode cX10_odds 23 = .ok (.lconst 0, 1) := by decide +kernel
theorem dX10_odds_24 : decode cX10_odds 24 = .ok (.lstore_n 3, 1) := by decide +kernel
theorem dX10_odds_25 : decode cX10_odds 25 = .ok (.iconst 0, 1) := by decide +kernel
theorem dX10_odds_26 : decode cX10_odds 26 = .ok (.istore 5, 2) := by decide +kernel
theorem dX10_odds_28 : decode cX10_odds 28 = .ok (.iload 5, 2) := by decide +kernel
theorem dX10_odds_30 : decode cX10_odds 30 = .ok (.aload_n 0, 1) := by decide +kernel
theorem dX10_odds_31 : decode cX10_odds 31 = .ok (.getfield 17, 3) := by decide +kernel
theorem dX10_odds_34 : decode cX10_odds 34 = .ok (.iconst 4, 1) := by decide +kernel
theorem dX10_odds_35 : decode cX10_odds 35 = .ok (.iaload, 1) := by decide +kernel
theorem dX10_odds_36 : decode cX10_odds 36 = .ok (.if_icmp .ge 19, 3) := by decide +kernel
theorem dX10_odds_39 : decode cX10_odds 39 = .ok (.lload_n 3, 1) := by decide +kernel
theorem dX10_odds_40 : decode cX10_odds 40 = .ok (.aload_n 0, 1) := by decide +kernel
theorem dX10_odds_41 : decode cX10_odds 41 = .ok (.iload 5, 2) := by decide +kernel
theorem dX10_odds_43 : decode cX10_odds 43 = .ok (.iload_n 2, 1) := by decide +kernel
theorem dX10_odds_44 : decode cX10_odds 44 = .ok (.invokevirtual 409, 3) := by decide +kernel
theorem dX10_odds_47 : decode cX10_odds 47 = .ok (.ladd, 1) := by decide +kernel
theorem dX10_odds_48 : decode cX10_odds 48 = .ok (.lstore_n 3, 1) := by decide +kernel
theorem dX10_odds_49 : decode cX10_odds 49 = .ok (.iinc 5 1, 3) := by decide +kernel
theorem dX10_odds_52 : decode cX10_odds 52 = .ok (.goto (-24), 3) := by decide +kernel
theorem dX10_odds_55 : decode cX10_odds 55 = .ok (.lload_n 3, 1) := by decide +kernel
theorem dX10_odds_56 : decode cX10_odds 56 = .ok (.lconst 0, 1) := by decide +kernel
theorem dX10_odds_57 : decode cX10_odds 57 = .ok (.lcmp, 1) := by decide +kernel
theorem dX10_odds_58 : decode cX10_odds 58 = .ok (.ifCond .ne 5, 3) := by decide +kernel
theorem dX10_odds_61 : decode cX10_odds 61 = .ok (.iconst (-1), 1) := by decide +kernel
theorem dX10_odds_62 : decode cX10_odds 62 = .ok (.ireturn, 1) := by decide +kernel
theorem dX10_odds_63 : decode cX10_odds 63 = .ok (.aload_n 0, 1) := by decide +kernel
theorem dX10_odds_64 : decode cX10_odds 64 = .ok (.aload_n 0, 1) := by decide +kernel
theorem dX10_odds_65 : decode cX10_odds 65 = .ok (.iload_n 1, 1) := by decide +kernel
theorem dX10_odds_66 : decode cX10_odds 66 = .ok (.iload_n 2, 1) := by decide +kernel
theorem dX10_odds_67 : decode cX10_odds 67 = .ok (.invokevirtual 409, 3) := by decide +kernel
theorem dX10_odds_70 : decode cX10_odds 70 = .ok (.lload_n 3, 1) := by decide +kernel
theorem dX10_odds_71 : decode cX10_odds 71 = .ok (.invokevirtual 355, 3) := by decide +kernel
theorem dX10_odds_74 : decode cX10_odds 74 = .ok (.iconst 1, 1) := by decide +kernel
theorem dX10_odds_75 : decode cX10_odds 75 = .ok (.ireturn, 1) := by decide +kernel
set_option maxRecDepth 20000 in
theorem ggX10_guess_X10_in : GoodIn wsX10_guess wsX10_in := goodIn_r _ [6] (by decide +kernel) (by decide +kernel)
set_option maxRecDepth 20000 in
theorem gX10_guess_X10_in : GoodIn wsX10_guess (va_wsS RX10 174 yX10_in wsX10_in) := goodIn_app (goodIn_of _ (by decide +kernel)) ggX10_guess_X10_in
set_option maxRecDepth 20000 in
theorem ggX10_guess_X10_product : GoodIn wsX10_guess wsX10_product := goodIn_r _ [10, 11, 12, 13, 14, 15, 16, 17, 18, 19, 20, 5, 21, 22, 23, 24, 25, 26, 27, 28, 29, 30, 31, 32, 33, 34, 35, 36, 37, 38, 39, 40, 41, 42, 43, 44, 45, 46, 47, 48, 49, 50, 51, 52, 53, 54, 55, 56, 57, 58, 59, 60, 61, 62, 63, 64, 65, 66, 67, 68, 69, 70, 71, 72, 73, 74, 75, 76, 77, 78, 79, 80, 81, 82, 83, 84, 85, 86, 87] (by decide +kernel) (by decide +kernel)
set_option maxRecDepth 20000 in
theorem gX10_guess_X10_product : GoodIn wsX10_guess (wsV RX10 409 RX10 yX10_product wsX10_product) := goodIn_app (goodIn_of _ (by decide +kernel)) ggX10_guess_X10_product
theorem dX10_guess_0 : decode cX10_guess 0 = .ok (.iload_n 1, 1) := by decide +kernel
theorem dX10_guess_1 : decode cX10_guess 1 = .ok (.i2l, 1) := by decide +kernel
theorem dX10_guess_2 : decode cX10_guess 2 = .ok (.lconst 0, 1) := by decide +kernel
theorem dX10_guess_3 : decode cX10_guess 3 = .ok (.ldc2_w 407, 3) := by decide +kernel
theorem dX10_guess_6 : decode cX10_guess 6 = .ok (.invokestatic 174, 3) := by decide +kernel
theorem dX10_guess_9 : decode cX10_guess 9 = .ok (.ifCond .ne 6, 3) := by decide +kernel
theorem dX10_guess_12 : decode cX10_guess 12 = .ok (.bipush (-2), 2) := by decide +kernel
theorem dX10_guess_14 : decode cX10_guess 14 = .ok (.ireturn, 1) := by decide +kernel
theorem dX10_guess_15 : decode cX10_guess 15 = .ok (.aload_n 0, 1) := by decide +kernel
theorem dX10_guess_16 : decode cX10_guess 16 = .ok (.getfield 17, 3) := by decide +kernel
theorem dX10_guess_19 : decode cX10_guess 19 = .ok (.iconst 4, 1) := by decide +kernel
theorem dX10_guess_20 : decode cX10_guess 20 = .ok (.iaload, 1) := by decide +kernel
theorem dX10_guess_21 : decode cX10_guess 21 = .ok (.ifCond .ne 6, 3) := by decide +kernel
theorem dX10_guess_24 : decode cX10_guess 24 = .ok (.bipush (-4), 2) := by decide +kernel
theorem dX10_guess_26 : decode cX10_guess 26 = .ok (.ireturn, 1) := by decide +kernel
theorem dX10_guess_27 : decode cX10_guess 27 = .ok (.iconst (-1), 1) := by decide +kernel
theorem dX10_guess_28 : decode cX10_guess 28 = .ok (.istore_n 2, 1) := by decide +kernel
theorem dX10_guess_29 : decode cX10_guess 29 = .ok (.lconst 0, 1) := by decide +kernel
theorem dX10_guess_30 : decode cX10_guess 30 = .ok (.lstore_n 3, 1) := by decide +kernel
theorem dX10_guess_31 : decode cX10_guess 31 = .ok (.iconst 0, 1) := by decide +kernel
theorem dX10_guess_32 : decode cX10_guess 32 = .ok (.istore 5, 2) := by decide +kernel
theorem dX10_guess_34 : decode cX10_guess 34 = .ok (.iload 5, 2) := by decide +kernel
theorem dX10_guess_36 : decode cX10_guess 36 = .ok (.aload_n 0, 1) := by decide +kernel
theorem dX10_guess_37 : decode cX10_guess 37 = .ok (.getfield 17, 3) := by decide +kernel
theorem dX10_guess_40 : decode cX10_guess 40 = .ok (.iconst 4, 1) := by decide +kernel
theorem dX10_guess_41 : decode cX10_guess 41 = .ok (.iaload, 1) := by decide +kernel
theorem dX10_guess_42 : decode cX10_guess 42 = .ok (.if_icmp .ge 34, 3) := by decide +kernel
theorem dX10_guess_45 : decode cX10_guess 45 = .ok (.aload_n 0, 1) := by decide +kernel
theorem dX10_guess_46 : decode cX10_guess 46 = .ok (.iload 5, 2) := by decide +kernel
theorem dX10_guess_48 : decode cX10_guess 48 = .ok (.iload_n 1, 1) := by decide +kernel
theorem dX10_guess_49 : decode cX10_guess 49 = .ok (.invokevirtual 409, 3) := by decide +kernel
theorem dX10_guess_52 : decode cX10_guess 52 = .ok (.lstore 6, 2) := by decide +kernel
theorem dX10_guess_54 : decode cX10_guess 54 = .ok (.lload 6, 2) := by decide +kernel
theorem dX10_guess_56 : decode cX10_guess 56 = .ok (.lload_n 3, 1) := by decide +kernel
theorem dX10_guess_57 : decode cX10_guess 57 = .ok (.lcmp, 1) := by decide +kernel
theorem dX10_guess_58 : decode cX10_guess 58 = .ok (.ifCond .gt 6, 3) := by decide +kernel
theorem dX10_guess_61 : decode cX10_guess 61 = .ok (.goto 9, 3) := by decide +kernel
theorem dX10_guess_64 : decode cX10_guess 64 = .ok (.lload 6, 2) := by decide +kernel
theorem dX10_guess_66 : decode cX10_guess 66 = .ok (.lstore_n 3, 1) := by decide +kernel
theorem dX10_guess_67 : decode cX10_guess 67 = .ok (.iload 5, 2) := by decide +kernel
theorem dX10_guess_69 : decode cX10_guess 69 = .ok (.istore_n 2, 1) := by decide +kernel
theorem dX10_guess_70 : decode cX10_guess 70 = .ok (.iinc 5 1, 3) := by decide +kernel
theorem dX10_guess_73 : decode cX10_guess 73 = .ok (.goto (-39), 3) := by decide +kernel
theorem dX10_guess_76 : decode cX10_guess 76 = .ok (.iload_n 2, 1) := by decide +kernel
theorem dX10_guess_77 : decode cX10_guess 77 = .ok (.ireturn, 1) := by decide +kernel
theorem dX10_count_0 : decode cX10_count 0 = .ok (.iload_n 1, 1) := by decide +kernel
theorem dX10_count_1 : decode cX10_count 1 = .ok (.tableswitch 51 0 3 #[31, 36, 41, 46], 31) := by decide +kernel
theorem dX10_count_32 : decode cX10_count 32 = .ok (.aload_n 0, 1) := by decide +kernel
theorem dX10_count_33 : decode cX10_count 33 = .ok (.getfield 193, 3) := by decide +kernel
theorem dX10_count_36 : decode cX10_count 36 = .ok (.ireturn, 1) := by decide +kernel
theorem dX10_count_37 : decode cX10_count 37 = .ok (.aload_n 0, 1) := by decide +kernel
theorem dX10_count_38 : decode cX10_count 38 = .ok (.getfield 196, 3) := by decide +kernel
theorem dX10_count_41 : decode cX10_count 41 = .ok (.ireturn, 1) := by decide +kernel
theorem dX10_count_42 : decode cX10_count 42 = .ok (.aload_n 0, 1) := by decide +kernel
theorem dX10_count_43 : decode cX10_count 43 = .ok (.getfield 190, 3) := by decide +kernel
theorem dX10_count_46 : decode cX10_count 46 = .ok (.ireturn, 1) := by decide +kernel
theorem dX10_count_47 : decode cX10_count 47 = .ok (.aload_n 0, 1) := by decide +kernel
theorem dX10_count_48 : decode cX10_count 48 = .ok (.getfield 112, 3) := by decide +kernel
theorem dX10_count_51 : decode cX10_count 51 = .ok (.ireturn, 1) := by decide +kernel
theorem dX10_count_52 : decode cX10_count 52 = .ok (.iconst (-1), 1) := by decide +kernel
theorem dX10_count_53 : decode cX10_count 53 = .ok (.ireturn, 1) := by decide +kernel
theorem kk_X10_odds_0 : Cond.constantLong RX10 407 (999) ∈ wsX10_odds := pm_X10_odds_r1 _ (List.mem_of_getElem? (i := 0) rfl)
theorem kk_X10_odds_1 : Cond.fieldLink RX10 17 "PaidBySignsModel" "num" "[I" ∈ wsX10_odds := pm_X10_odds_r1 _ (List.mem_of_getElem? (i := 1) rfl)
theorem kk_X10_guess_0 : Cond.constantLong RX10 407 (999) ∈ wsX10_guess := by decide +kernel
theorem kk_X10_guess_1 : Cond.fieldLink RX10 17 "PaidBySignsModel" "num" "[I" ∈ wsX10_guess := by decide +kernel
theorem kk_X10_count_0 : Cond.fieldLink RX10 193 "PaidBySignsModel" "seenMany" "I" ∈ wsX10_count := by decide +kernel
theorem kk_X10_count_1 : Cond.fieldLink RX10 196 "PaidBySignsModel" "rightMany" "I" ∈ wsX10_count := by decide +kernel
theorem kk_X10_count_2 : Cond.fieldLink RX10 190 "PaidBySignsModel" "lowerPress" "I" ∈ wsX10_count := by decide +kernel
theorem kk_X10_count_3 : Cond.fieldLink RX10 112 "PaidBySignsModel" "taped" "I" ∈ wsX10_count := by decide +kernel
theorem iw_X10_odds_X10 : ∀ w ∈ wsX100, w ∈ wsX10_odds := pw_X10_odds_X10
theorem iw_X10_guess_X10 : ∀ w ∈ wsX100, w ∈ wsX10_guess := by decide +kernel
theorem iw_X10_count_X10 : ∀ w ∈ wsX100, w ∈ wsX10_count := by decide +kernel
