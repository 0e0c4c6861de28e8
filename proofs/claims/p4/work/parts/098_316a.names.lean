abbrev cX10_atWage : ByteArray := prog_12_method_73_code
def yX10_atWage : MethodName := ⟨RX10, "atWage", "(JJI)J"⟩
abbrev cX10_proves : ByteArray := prog_12_method_74_code
def yX10_proves : MethodName := ⟨RX10, "proves", "(I)I"⟩
abbrev cX10_mix : ByteArray := prog_12_method_75_code
def yX10_mix : MethodName := ⟨RX10, "mix", "(II)I"⟩
abbrev cX10_same : ByteArray := prog_12_method_76_code
def yX10_same : MethodName := ⟨RX10, "same", "(I)I"⟩
abbrev cX10_edge : ByteArray := prog_12_method_77_code
def yX10_edge : MethodName := ⟨RX10, "edge", "(III)I"⟩
def wsX10_atWage : List Cond := .code yX10_atWage cX10_atWage 6 (some .long) :: ([.fieldLink RX10 190 "PaidBySignsModel" "lowerPress" "I", .methodLink RX10 264 yX10_feel, .instanceMethod yX10_feel, .selects RX10 yX10_feel yX10_feel, .initialized RX10, .code yX10_feel cX10_feel 6 (some .int), .fieldLink RX10 17 "PaidBySignsModel" "num" "[I", .fieldLink RX10 40 "PaidBySignsModel" "marks" "[I", .fieldLink RX10 37 "PaidBySignsModel" "rates" "[I"] ++ wsX100)
def wsX10_proves_r1 : List Cond := [Cond.fieldLink RX10 17 "PaidBySignsModel" "num" "[I", Cond.fieldLink RX10 85 "PaidBySignsModel" "presses" "[I", Cond.fieldLink RX10 31 "PaidBySignsModel" "costs" "[I", Cond.fieldLink RX10 190 "PaidBySignsModel" "lowerPress" "I", Cond.fieldLink RX10 37 "PaidBySignsModel" "rates" "[I", Cond.fieldLink RX10 40 "PaidBySignsModel" "marks" "[I", Cond.methodLink RX10 253 yX10_isWork, Cond.instanceMethod yX10_isWork, Cond.selects RX10 yX10_isWork yX10_isWork, Cond.initialized RX10, Cond.code yX10_isWork cX10_isWork 2 (some .boolean), Cond.methodLink RX10 174 yX10_in, Cond.static yX10_in, Cond.code yX10_in cX10_in 6 (some .boolean), Cond.methodLink RX10 259 yX10_chanceOf, Cond.instanceMethod yX10_chanceOf, Cond.selects RX10 yX10_chanceOf yX10_chanceOf, Cond.code yX10_chanceOf cX10_chanceOf 3 (some .int), Cond.fieldLink RX10 34 "PaidBySignsModel" "chances" "[I", Cond.methodLink RX10 401 yX10_atWage, Cond.instanceMethod yX10_atWage, Cond.selects RX10 yX10_atWage yX10_atWage, Cond.code yX10_atWage cX10_atWage 6 (some .long), Cond.methodLink RX10 264 yX10_feel]
def wsX10_proves_r2 : List Cond := [Cond.instanceMethod yX10_feel, Cond.selects RX10 yX10_feel yX10_feel, Cond.code yX10_feel cX10_feel 6 (some .int), Cond.methodLink RX10 355 yX10_tell, Cond.instanceMethod yX10_tell, Cond.selects RX10 yX10_tell yX10_tell, Cond.code yX10_tell cX10_tell 7 none, Cond.fieldLink RX10 281 "PaidBySignsModel" "upper" "J", Cond.fieldLink RX10 284 "PaidBySignsModel" "lower" "J", Cond.fieldLink RX10 202 "PaidBySignsModel" "hasFraction" "Z", Cond.methodLink RX10 277 yX10_common, Cond.static yX10_common, Cond.code yX10_common cX10_common 10 (some .long)]
def wsX10_proves : List Cond := .code yX10_proves cX10_proves 16 (some .int) :: ((wsX10_proves_r1 ++ wsX10_proves_r2) ++ wsX100)
def wsX10_mix : List Cond := .code yX10_mix cX10_mix 4 (some .int) :: ([.constantLong RX10 405 (1000), .fieldLink RX10 88 "PaidBySignsModel" "mixes" "[I", .methodLink RX10 253 yX10_isWork, .instanceMethod yX10_isWork, .selects RX10 yX10_isWork yX10_isWork, .initialized RX10, .code yX10_isWork cX10_isWork 2 (some .boolean), .fieldLink RX10 17 "PaidBySignsModel" "num" "[I", .methodLink RX10 174 yX10_in, .static yX10_in, .code yX10_in cX10_in 6 (some .boolean)] ++ wsX100)
def wsX10_same : List Cond := .code yX10_same cX10_same 10 (some .int) :: ([.fieldLink RX10 17 "PaidBySignsModel" "num" "[I", .fieldLink RX10 88 "PaidBySignsModel" "mixes" "[I", .fieldLink RX10 31 "PaidBySignsModel" "costs" "[I", .methodLink RX10 253 yX10_isWork, .instanceMethod yX10_isWork, .selects RX10 yX10_isWork yX10_isWork, .initialized RX10, .code yX10_isWork cX10_isWork 2 (some .boolean), .methodLink RX10 174 yX10_in, .static yX10_in, .code yX10_in cX10_in 6 (some .boolean), .methodLink RX10 259 yX10_chanceOf, .instanceMethod yX10_chanceOf, .selects RX10 yX10_chanceOf yX10_chanceOf, .code yX10_chanceOf cX10_chanceOf 3 (some .int), .fieldLink RX10 34 "PaidBySignsModel" "chances" "[I"] ++ wsX100)
def wsX10_edge_r1 : List Cond := [Cond.fieldLink RX10 34 "PaidBySignsModel" "chances" "[I", Cond.methodLink RX10 253 yX10_isWork, Cond.instanceMethod yX10_isWork, Cond.selects RX10 yX10_isWork yX10_isWork, Cond.initialized RX10, Cond.code yX10_isWork cX10_isWork 2 (some .boolean), Cond.fieldLink RX10 17 "PaidBySignsModel" "num" "[I", Cond.methodLink RX10 174 yX10_in, Cond.static yX10_in, Cond.code yX10_in cX10_in 6 (some .boolean), Cond.methodLink RX10 256 yX10_isSign, Cond.instanceMethod yX10_isSign, Cond.selects RX10 yX10_isSign yX10_isSign, Cond.code yX10_isSign cX10_isSign 2 (some .boolean), Cond.methodLink RX10 368 yX10_bestWork, Cond.instanceMethod yX10_bestWork, Cond.selects RX10 yX10_bestWork yX10_bestWork, Cond.code yX10_bestWork cX10_bestWork 11 (some .int), Cond.fieldLink RX10 28 "PaidBySignsModel" "brings" "[I", Cond.fieldLink RX10 328 "PaidBySignsModel" "costLow" "J", Cond.fieldLink RX10 325 "PaidBySignsModel" "costUp" "J", Cond.fieldLink RX10 362 "PaidBySignsModel" "bestLeftUp" "J", Cond.fieldLink RX10 365 "PaidBySignsModel" "bestLeftLow" "J", Cond.methodLink RX10 349 yX10_eachAlone]
def wsX10_edge_r2 : List Cond := [Cond.instanceMethod yX10_eachAlone, Cond.selects RX10 yX10_eachAlone yX10_eachAlone, Cond.code yX10_eachAlone cX10_eachAlone 2 none, Cond.fieldLink RX10 289 "PaidBySignsModel" "groups" "I", Cond.fieldLink RX10 46 "PaidBySignsModel" "groupOf" "[I", Cond.methodLink RX10 352 yX10_isHad, Cond.instanceMethod yX10_isHad, Cond.selects RX10 yX10_isHad yX10_isHad, Cond.code yX10_isHad cX10_isHad 2 (some .boolean), Cond.fieldLink RX10 322 "PaidBySignsModel" "isFound" "Z", Cond.methodLink RX10 343 yX10_makeBounds, Cond.instanceMethod yX10_makeBounds, Cond.selects RX10 yX10_makeBounds yX10_makeBounds, Cond.code yX10_makeBounds cX10_makeBounds 5 none, Cond.fieldLink RX10 292 "PaidBySignsModel" "bounds" "I", Cond.fieldLink RX10 31 "PaidBySignsModel" "costs" "[I", Cond.fieldLink RX10 49 "PaidBySignsModel" "row" "[J", Cond.fieldLink RX10 299 "PaidBySignsModel" "asked" "I", Cond.fieldLink RX10 40 "PaidBySignsModel" "marks" "[I", Cond.methodLink RX10 295 yX10_addBound, Cond.instanceMethod yX10_addBound, Cond.selects RX10 yX10_addBound yX10_addBound, Cond.code yX10_addBound cX10_addBound 4 (some .int), Cond.fieldLink RX10 52 "PaidBySignsModel" "least" "[J"]
def wsX10_edge_r3 : List Cond := [Cond.methodLink RX10 259 yX10_chanceOf, Cond.instanceMethod yX10_chanceOf, Cond.selects RX10 yX10_chanceOf yX10_chanceOf, Cond.code yX10_chanceOf cX10_chanceOf 3 (some .int), Cond.methodLink RX10 264 yX10_feel, Cond.instanceMethod yX10_feel, Cond.selects RX10 yX10_feel yX10_feel, Cond.code yX10_feel cX10_feel 6 (some .int), Cond.fieldLink RX10 37 "PaidBySignsModel" "rates" "[I", Cond.methodLink RX10 339 yX10_choose, Cond.instanceMethod yX10_choose, Cond.selects RX10 yX10_choose yX10_choose, Cond.code yX10_choose cX10_choose 5 none, Cond.fieldLink RX10 55 "PaidBySignsModel" "chosen" "[I", Cond.methodLink RX10 335 yX10_look, Cond.instanceMethod yX10_look, Cond.selects RX10 yX10_look yX10_look, Cond.code yX10_look cX10_look 10 none, Cond.fieldLink RX10 61 "PaidBySignsModel" "x" "[J", Cond.fieldLink RX10 310 "PaidBySignsModel" "det" "J", Cond.fieldLink RX10 67 "PaidBySignsModel" "wageLow" "[J", Cond.fieldLink RX10 64 "PaidBySignsModel" "wageUp" "[J", Cond.constantLong RX10 313 (-1), Cond.fieldLink RX10 70 "PaidBySignsModel" "bestUp" "[J"]
def wsX10_edge_r4 : List Cond := [Cond.fieldLink RX10 73 "PaidBySignsModel" "bestLow" "[J", Cond.methodLink RX10 315 yX10_isCorner, Cond.instanceMethod yX10_isCorner, Cond.selects RX10 yX10_isCorner yX10_isCorner, Cond.code yX10_isCorner cX10_isCorner 7 (some .boolean), Cond.methodLink RX10 306 yX10_determinant, Cond.instanceMethod yX10_determinant, Cond.selects RX10 yX10_determinant yX10_determinant, Cond.code yX10_determinant cX10_determinant 4 (some .long), Cond.fieldLink RX10 58 "PaidBySignsModel" "matrix" "[J", Cond.methodLink RX10 302 yX10_minor, Cond.instanceMethod yX10_minor, Cond.selects RX10 yX10_minor yX10_minor, Cond.code yX10_minor cX10_minor 7 (some .long), Cond.methodLink RX10 318 yX10_wageOf, Cond.instanceMethod yX10_wageOf, Cond.selects RX10 yX10_wageOf yX10_wageOf, Cond.code yX10_wageOf cX10_wageOf 13 none, Cond.methodLink RX10 277 yX10_common, Cond.static yX10_common, Cond.code yX10_common cX10_common 10 (some .long), Cond.methodLink RX10 331 yX10_apart, Cond.static yX10_apart, Cond.code yX10_apart cX10_apart 8 (some .long)]
def wsX10_edge : List Cond := .code yX10_edge cX10_edge 10 (some .int) :: ((wsX10_edge_r1 ++ (wsX10_edge_r2 ++ (wsX10_edge_r3 ++ wsX10_edge_r4))) ++ wsX100)
set_option maxRecDepth 20000 in
theorem ggX10_atWage_X10_feel : GoodIn wsX10_atWage wsX10_feel := goodIn_r _ [6, 7, 8, 9, 10, 11, 12, 13, 14, 15, 16, 17, 18, 19, 20, 21, 22, 23, 24, 25, 26, 27, 28, 29, 30, 31, 32, 33, 34, 35, 36, 37, 38, 39, 40, 41, 42, 43, 44, 45, 46, 47, 48, 49, 50, 51, 52, 53, 54, 55, 56, 57, 58, 59, 60, 61, 62, 63, 64, 65, 66, 67, 68, 69, 70, 71, 72, 73, 74] (by decide +kernel) (by decide +kernel)
set_option maxRecDepth 20000 in
theorem gX10_atWage_X10_feel : GoodIn wsX10_atWage (wsV RX10 264 RX10 yX10_feel wsX10_feel) := goodIn_app (goodIn_of _ (by decide +kernel)) ggX10_atWage_X10_feel
theorem dX10_atWage_0 : decode cX10_atWage 0 = .ok (.lload_n 1, 1) := by decide +kernel
theorem dX10_atWage_1 : decode cX10_atWage 1 = .ok (.aload_n 0, 1) := by decide +kernel
theorem dX10_atWage_2 : decode cX10_atWage 2 = .ok (.getfield 190, 3) := by decide +kernel
theorem dX10_atWage_5 : decode cX10_atWage 5 = .ok (.i2l, 1) := by decide +kernel
theorem dX10_atWage_6 : decode cX10_atWage 6 = .ok (.lmul, 1) := by decide +kernel
theorem dX10_atWage_7 : decode cX10_atWage 7 = .ok (.iload 5, 2) := by decide +kernel
theorem dX10_atWage_9 : decode cX10_atWage 9 = .ok (.i2l, 1) := by decide +kernel
theorem dX10_atWage_10 : decode cX10_atWage 10 = .ok (.lmul, 1) := by decide +kernel
theorem dX10_atWage_11 : decode cX10_atWage 11 = .ok (.lload_n 3, 1) := by decide +kernel
theorem dX10_atWage_12 : decode cX10_atWage 12 = .ok (.aload_n 0, 1) := by decide +kernel
theorem dX10_atWage_13 : decode cX10_atWage 13 = .ok (.iload 5, 2) := by decide +kernel
theorem dX10_atWage_15 : decode cX10_atWage 15 = .ok (.invokevirtual 264, 3) := by decide +kernel
theorem dX10_atWage_18 : decode cX10_atWage 18 = .ok (.i2l, 1) := by decide +kernel
theorem dX10_atWage_19 : decode cX10_atWage 19 = .ok (.lmul, 1) := by decide +kernel
theorem dX10_atWage_20 : decode cX10_atWage 20 = .ok (.lsub, 1) := by decide +kernel
theorem dX10_atWage_21 : decode cX10_atWage 21 = .ok (.lreturn, 1) := by decide +kernel
theorem pm_X10_proves_r1 : ∀ w ∈ wsX10_proves_r1, w ∈ wsX10_proves := fun _ h => List.mem_cons_of_mem _ (List.mem_append_left _ (List.mem_append_left _ h))
theorem pm_X10_proves_r2 : ∀ w ∈ wsX10_proves_r2, w ∈ wsX10_proves := fun _ h => List.mem_cons_of_mem _ (List.mem_append_left _ (List.mem_append_right _ (h)))
theorem pw_X10_proves_X10 : ∀ w ∈ wsX100, w ∈ wsX10_proves := fun _ h => List.mem_cons_of_mem _ (List.mem_append_right _ h)
set_option maxRecDepth 20000 in
theorem ggX10_proves_X10_isWork : GoodIn wsX10_proves wsX10_isWork := goodIn_sub (List.forall_mem_cons.mpr ⟨pm_X10_proves_r1 _ (List.mem_of_getElem? (i := 10) rfl), List.forall_mem_append.mpr ⟨List.forall_mem_cons.mpr ⟨pm_X10_proves_r1 _ (List.mem_of_getElem? (i := 0) rfl), List.forall_mem_cons.mpr ⟨pm_X10_proves_r1 _ (List.mem_of_getElem? (i := 11) rfl), List.forall_mem_cons.mpr ⟨pm_X10_proves_r1 _ (List.mem_of_getElem? (i := 12) rfl), List.forall_mem_cons.mpr ⟨pm_X10_proves_r1 _ (List.mem_of_getElem? (i := 9) rfl), List.forall_mem_cons.mpr ⟨pm_X10_proves_r1 _ (List.mem_of_getElem? (i := 13) rfl), fun _ h => absurd h List.not_mem_nil⟩⟩⟩⟩⟩, pw_X10_proves_X10⟩⟩) (by decide +kernel)
set_option maxRecDepth 20000 in
theorem gX10_proves_X10_isWork : GoodIn wsX10_proves (wsV RX10 253 RX10 yX10_isWork wsX10_isWork) := goodIn_app (goodIn_of _ (by decide +kernel)) ggX10_proves_X10_isWork
set_option maxRecDepth 20000 in
theorem ggX10_proves_X10_chanceOf : GoodIn wsX10_proves wsX10_chanceOf := goodIn_sub (List.forall_mem_cons.mpr ⟨pm_X10_proves_r1 _ (List.mem_of_getElem? (i := 17) rfl), List.forall_mem_append.mpr ⟨List.forall_mem_cons.mpr ⟨pm_X10_proves_r1 _ (List.mem_of_getElem? (i := 18) rfl), fun _ h => absurd h List.not_mem_nil⟩, pw_X10_proves_X10⟩⟩) (by decide +kernel)
set_option maxRecDepth 20000 in
theorem gX10_proves_X10_chanceOf : GoodIn wsX10_proves (wsV RX10 259 RX10 yX10_chanceOf wsX10_chanceOf) := goodIn_app (goodIn_of _ (by decide +kernel)) ggX10_proves_X10_chanceOf
set_option maxRecDepth 20000 in
theorem ggX10_proves_X10_atWage : GoodIn wsX10_proves wsX10_atWage := goodIn_sub (List.forall_mem_cons.mpr ⟨pm_X10_proves_r1 _ (List.mem_of_getElem? (i := 22) rfl), List.forall_mem_append.mpr ⟨List.forall_mem_cons.mpr ⟨pm_X10_proves_r1 _ (List.mem_of_getElem? (i := 3) rfl), List.forall_mem_cons.mpr ⟨pm_X10_proves_r1 _ (List.mem_of_getElem? (i := 23) rfl), List.forall_mem_cons.mpr ⟨pm_X10_proves_r2 _ (List.mem_of_getElem? (i := 0) rfl), List.forall_mem_cons.mpr ⟨pm_X10_proves_r2 _ (List.mem_of_getElem? (i := 1) rfl), List.forall_mem_cons.mpr ⟨pm_X10_proves_r1 _ (List.mem_of_getElem? (i := 9) rfl), List.forall_mem_cons.mpr ⟨pm_X10_proves_r2 _ (List.mem_of_getElem? (i := 2) rfl), List.forall_mem_cons.mpr ⟨pm_X10_proves_r1 _ (List.mem_of_getElem? (i := 0) rfl), List.forall_mem_cons.mpr ⟨pm_X10_proves_r1 _ (List.mem_of_getElem? (i := 5) rfl), List.forall_mem_cons.mpr ⟨pm_X10_proves_r1 _ (List.mem_of_getElem? (i := 4) rfl), fun _ h => absurd h List.not_mem_nil⟩⟩⟩⟩⟩⟩⟩⟩⟩, pw_X10_proves_X10⟩⟩) (by decide +kernel)
set_option maxRecDepth 20000 in
theorem gX10_proves_X10_atWage : GoodIn wsX10_proves (wsV RX10 401 RX10 yX10_atWage wsX10_atWage) := goodIn_app (goodIn_of _ (by decide +kernel)) ggX10_proves_X10_atWage
set_option maxRecDepth 20000 in
theorem ggX10_proves_X10_tell : GoodIn wsX10_proves wsX10_tell := goodIn_sub (List.forall_mem_cons.mpr ⟨pm_X10_proves_r2 _ (List.mem_of_getElem? (i := 6) rfl), List.forall_mem_append.mpr ⟨List.forall_mem_cons.mpr ⟨pm_X10_proves_r2 _ (List.mem_of_getElem? (i := 7) rfl), List.forall_mem_cons.mpr ⟨pm_X10_proves_r2 _ (List.mem_of_getElem? (i := 8) rfl), List.forall_mem_cons.mpr ⟨pm_X10_proves_r2 _ (List.mem_of_getElem? (i := 9) rfl), List.forall_mem_cons.mpr ⟨pm_X10_proves_r2 _ (List.mem_of_getElem? (i := 10) rfl), List.forall_mem_cons.mpr ⟨pm_X10_proves_r2 _ (List.mem_of_getElem? (i := 11) rfl), List.forall_mem_cons.mpr ⟨pm_X10_proves_r1 _ (List.mem_of_getElem? (i := 9) rfl), List.forall_mem_cons.mpr ⟨pm_X10_proves_r2 _ (List.mem_of_getElem? (i := 12) rfl), fun _ h => absurd h List.not_mem_nil⟩⟩⟩⟩⟩⟩⟩, pw_X10_proves_X10⟩⟩) (by decide +kernel)
set_option maxRecDepth 20000 in
theorem gX10_proves_X10_tell : GoodIn wsX10_proves (wsV RX10 355 RX10 yX10_tell wsX10_tell) := goodIn_app (goodIn_of _ (by decide +kernel)) ggX10_proves_X10_tell
theorem dX10_proves_0 : decode cX10_proves 0 = .ok (.aload_n 0, 1) := by decide +kernel
theorem dX10_proves_1 : decode cX10_proves 1 = .ok (.iload_n 1, 1) := by decide +kernel
theorem dX10_proves_2 : decode cX10_proves 2 = .ok (.invokevirtual 253, 3) := by decide +kernel
theorem dX10_proves_5 : decode cX10_proves 5 = .ok (.ifCond .ne 6, 3) := by decide +kernel
theorem dX10_proves_8 : decode cX10_proves 8 = .ok (.bipush (-2), 2) := by decide +kernel
theorem dX10_proves_10 : decode cX10_proves 10 = .ok (.ireturn, 1) := by decide +kernel
theorem dX10_proves_11 : decode cX10_proves 11 = .ok (.aload_n 0, 1) := by decide +kernel
theorem dX10_proves_12 : decode cX10_proves 12 = .ok (.getfield 17, 3) := by decide +kernel
theorem dX10_proves_15 : decode cX10_proves 15 = .ok (.iconst 0, 1) := by decide +kernel
theorem dX10_proves_16 : decode cX10_proves 16 = .ok (.iaload, 1) := by decide +kernel
theorem dX10_proves_17 : decode cX10_proves 17 = .ok (.i2l, 1) := by decide +kernel
theorem dX10_proves_18 : decode cX10_proves 18 = .ok (.lstore_n 2, 1) := by decide +kernel
theorem dX10_proves_19 : decode cX10_proves 19 = .ok (.lload_n 2, 1) := by decide +kernel
theorem dX10_proves_20 : decode cX10_proves 20 = .ok (.aload_n 0, 1) := by decide +kernel
theorem dX10_proves_21 : decode cX10_proves 21 = .ok (.getfield 85, 3) := by decide +kernel
theorem dX10_proves_24 : decode cX10_proves 24 = .ok (.iconst 5, 1) := by decide +kernel
theorem dX10_proves_25 : decode cX10_proves 25 = .ok (.iaload, 1) := by decide +kernel
theorem dX10_proves_26 : decode cX10_proves 26 = .ok (.i2l, 1) := by decide +kernel
theorem dX10_proves_27 : decode cX10_proves 27 = .ok (.lmul, 1) := by decide +kernel
theorem dX10_proves_28 : decode cX10_proves 28 = .ok (.aload_n 0, 1) := by decide +kernel
theorem dX10_proves_29 : decode cX10_proves 29 = .ok (.getfield 31, 3) := by decide +kernel
theorem dX10_proves_32 : decode cX10_proves 32 = .ok (.iload_n 1, 1) := by decide +kernel
theorem dX10_proves_33 : decode cX10_proves 33 = .ok (.iaload, 1) := by decide +kernel
theorem dX10_proves_34 : decode cX10_proves 34 = .ok (.aload_n 0, 1) := by decide +kernel
theorem dX10_proves_35 : decode cX10_proves 35 = .ok (.getfield 17, 3) := by decide +kernel
theorem dX10_proves_38 : decode cX10_proves 38 = .ok (.iconst 1, 1) := by decide +kernel
theorem dX10_proves_39 : decode cX10_proves 39 = .ok (.iaload, 1) := by decide +kernel
theorem dX10_proves_40 : decode cX10_proves 40 = .ok (.iadd, 1) := by decide +kernel
theorem dX10_proves_41 : decode cX10_proves 41 = .ok (.i2l, 1) := by decide +kernel
theorem dX10_proves_42 : decode cX10_proves 42 = .ok (.lmul, 1) := by decide +kernel
theorem dX10_proves_43 : decode cX10_proves 43 = .ok (.lstore 4, 2) := by decide +kernel
theorem dX10_proves_45 : decode cX10_proves 45 = .ok (.iconst 0, 1) := by decide +kernel
theorem dX10_proves_46 : decode cX10_proves 46 = .ok (.istore 6, 2) := by decide +kernel
theorem dX10_proves_48 : decode cX10_proves 48 = .ok (.iload 6, 2) := by decide +kernel
theorem dX10_proves_50 : decode cX10_proves 50 = .ok (.aload_n 0, 1) := by decide +kernel
theorem dX10_proves_51 : decode cX10_proves 51 = .ok (.getfield 17, 3) := by decide +kernel
theorem dX10_proves_54 : decode cX10_proves 54 = .ok (.iconst 4, 1) := by decide +kernel
theorem dX10_proves_55 : decode cX10_proves 55 = .ok (.iaload, 1) := by decide +kernel
theorem dX10_proves_56 : decode cX10_proves 56 = .ok (.if_icmp .ge 40, 3) := by decide +kernel
theorem dX10_proves_59 : decode cX10_proves 59 = .ok (.lload 4, 2) := by decide +kernel
theorem dX10_proves_61 : decode cX10_proves 61 = .ok (.lload_n 2, 1) := by decide +kernel
theorem dX10_proves_62 : decode cX10_proves 62 = .ok (.aload_n 0, 1) := by decide +kernel
theorem dX10_proves_63 : decode cX10_proves 63 = .ok (.getfield 85, 3) := by decide +kernel
theorem dX10_proves_66 : decode cX10_proves 66 = .ok (.iload 6, 2) := by decide +kernel
theorem dX10_proves_68 : decode cX10_proves 68 = .ok (.iaload, 1) := by decide +kernel
theorem dX10_proves_69 : decode cX10_proves 69 = .ok (.i2l, 1) := by decide +kernel
theorem dX10_proves_70 : decode cX10_proves 70 = .ok (.lmul, 1) := by decide +kernel
theorem dX10_proves_71 : decode cX10_proves 71 = .ok (.aload_n 0, 1) := by decide +kernel
theorem dX10_proves_72 : decode cX10_proves 72 = .ok (.getfield 31, 3) := by decide +kernel
theorem dX10_proves_75 : decode cX10_proves 75 = .ok (.iload_n 1, 1) := by decide +kernel
theorem dX10_proves_76 : decode cX10_proves 76 = .ok (.iaload, 1) := by decide +kernel
theorem dX10_proves_77 : decode cX10_proves 77 = .ok (.aload_n 0, 1) := by decide +kernel
theorem dX10_proves_78 : decode cX10_proves 78 = .ok (.getfield 31, 3) := by decide +kernel
theorem dX10_proves_81 : decode cX10_proves 81 = .ok (.iload 6, 2) := by decide +kernel
theorem dX10_proves_83 : decode cX10_proves 83 = .ok (.iaload, 1) := by decide +kernel
theorem dX10_proves_84 : decode cX10_proves 84 = .ok (.isub, 1) := by decide +kernel
theorem dX10_proves_85 : decode cX10_proves 85 = .ok (.i2l, 1) := by decide +kernel
theorem dX10_proves_86 : decode cX10_proves 86 = .ok (.lmul, 1) := by decide +kernel
theorem dX10_proves_87 : decode cX10_proves 87 = .ok (.ladd, 1) := by decide +kernel
theorem dX10_proves_88 : decode cX10_proves 88 = .ok (.lstore 4, 2) := by decide +kernel
theorem dX10_proves_90 : decode cX10_proves 90 = .ok (.iinc 6 1, 3) := by decide +kernel
theorem dX10_proves_93 : decode cX10_proves 93 = .ok (.goto (-45), 3) := by decide +kernel
theorem dX10_proves_96 : decode cX10_proves 96 = .ok (.iconst 0, 1) := by decide +kernel
theorem dX10_proves_97 : decode cX10_proves 97 = .ok (.istore 6, 2) := by decide +kernel
theorem dX10_proves_99 : decode cX10_proves 99 = .ok (.iload 6, 2) := by decide +kernel
theorem dX10_proves_101 : decode cX10_proves 101 = .ok (.aload_n 0, 1) := by decide +kernel
theorem dX10_proves_102 : decode cX10_proves 102 = .ok (.getfield 17, 3) := by decide +kernel
theorem dX10_proves_105 : decode cX10_proves 105 = .ok (.iconst 3, 1) := by decide +kernel
theorem dX10_proves_106 : decode cX10_proves 106 = .ok (.iaload, 1) := by decide +kernel
theorem dX10_proves_107 : decode cX10_proves 107 = .ok (.if_icmp .ge 206, 3) := by decide +kernel
theorem dX10_proves_110 : decode cX10_proves 110 = .ok (.aload_n 0, 1) := by decide +kernel
theorem dX10_proves_111 : decode cX10_proves 111 = .ok (.iload_n 1, 1) := by decide +kernel
theorem dX10_proves_112 : decode cX10_proves 112 = .ok (.iload 6, 2) := by decide +kernel
theorem dX10_proves_114 : decode cX10_proves 114 = .ok (.invokevirtual 259, 3) := by decide +kernel
theorem dX10_proves_117 : decode cX10_proves 117 = .ok (.i2l, 1) := by decide +kernel
theorem dX10_proves_118 : decode cX10_proves 118 = .ok (.lstore 7, 2) := by decide +kernel
theorem dX10_proves_120 : decode cX10_proves 120 = .ok (.aload_n 0, 1) := by decide +kernel
theorem dX10_proves_121 : decode cX10_proves 121 = .ok (.getfield 85, 3) := by decide +kernel
theorem dX10_proves_124 : decode cX10_proves 124 = .ok (.iconst 5, 1) := by decide +kernel
theorem dX10_proves_125 : decode cX10_proves 125 = .ok (.iaload, 1) := by decide +kernel
theorem dX10_proves_126 : decode cX10_proves 126 = .ok (.i2l, 1) := by decide +kernel
theorem dX10_proves_127 : decode cX10_proves 127 = .ok (.lload 7, 2) := by decide +kernel
theorem dX10_proves_129 : decode cX10_proves 129 = .ok (.lmul, 1) := by decide +kernel
theorem dX10_proves_130 : decode cX10_proves 130 = .ok (.lstore 9, 2) := by decide +kernel
theorem dX10_proves_132 : decode cX10_proves 132 = .ok (.iconst 0, 1) := by decide +kernel
theorem dX10_proves_133 : decode cX10_proves 133 = .ok (.istore 11, 2) := by decide +kernel
theorem dX10_proves_135 : decode cX10_proves 135 = .ok (.iload 11, 2) := by decide +kernel
theorem dX10_proves_137 : decode cX10_proves 137 = .ok (.aload_n 0, 1) := by decide +kernel
theorem dX10_proves_138 : decode cX10_proves 138 = .ok (.getfield 17, 3) := by decide +kernel
theorem dX10_proves_141 : decode cX10_proves 141 = .ok (.iconst 4, 1) := by decide +kernel
theorem dX10_proves_142 : decode cX10_proves 142 = .ok (.iaload, 1) := by decide +kernel
theorem dX10_proves_143 : decode cX10_proves 143 = .ok (.if_icmp .ge 35, 3) := by decide +kernel
theorem dX10_proves_146 : decode cX10_proves 146 = .ok (.lload 9, 2) := by decide +kernel
theorem dX10_proves_148 : decode cX10_proves 148 = .ok (.aload_n 0, 1) := by decide +kernel
theorem dX10_proves_149 : decode cX10_proves 149 = .ok (.getfield 85, 3) := by decide +kernel
theorem dX10_proves_152 : decode cX10_proves 152 = .ok (.iload 11, 2) := by decide +kernel
theorem dX10_proves_154 : decode cX10_proves 154 = .ok (.iaload, 1) := by decide +kernel
theorem dX10_proves_155 : decode cX10_proves 155 = .ok (.i2l, 1) := by decide +kernel
theorem dX10_proves_156 : decode cX10_proves 156 = .ok (.lload 7, 2) := by decide +kernel
theorem dX10_proves_158 : decode cX10_proves 158 = .ok (.aload_n 0, 1) := by decide +kernel
theorem dX10_proves_159 : decode cX10_proves 159 = .ok (.iload 11, 2) := by decide +kernel
theorem dX10_proves_161 : decode cX10_proves 161 = .ok (.iload 6, 2) := by decide +kernel
theorem dX10_proves_163 : decode cX10_proves 163 = .ok (.invokevirtual 259, 3) := by decide +kernel
theorem dX10_proves_166 : decode cX10_proves 166 = .ok (.i2l, 1) := by decide +kernel
theorem dX10_proves_167 : decode cX10_proves 167 = .ok (.lsub, 1) := by decide +kernel
theorem dX10_proves_168 : decode cX10_proves 168 = .ok (.lmul, 1) := by decide +kernel
theorem dX10_proves_169 : decode cX10_proves 169 = .ok (.ladd, 1) := by decide +kernel
theorem dX10_proves_170 : decode cX10_proves 170 = .ok (.lstore 9, 2) := by decide +kernel
theorem dX10_proves_172 : decode cX10_proves 172 = .ok (.iinc 11 1, 3) := by decide +kernel
theorem dX10_proves_175 : decode cX10_proves 175 = .ok (.goto (-40), 3) := by decide +kernel
theorem dX10_proves_178 : decode cX10_proves 178 = .ok (.lload 7, 2) := by decide +kernel
theorem dX10_proves_180 : decode cX10_proves 180 = .ok (.aload_n 0, 1) := by decide +kernel
theorem dX10_proves_181 : decode cX10_proves 181 = .ok (.getfield 190, 3) := by decide +kernel
theorem dX10_proves_184 : decode cX10_proves 184 = .ok (.i2l, 1) := by decide +kernel
theorem dX10_proves_185 : decode cX10_proves 185 = .ok (.lmul, 1) := by decide +kernel
theorem dX10_proves_186 : decode cX10_proves 186 = .ok (.lload 9, 2) := by decide +kernel
theorem dX10_proves_188 : decode cX10_proves 188 = .ok (.aload_n 0, 1) := by decide +kernel
theorem dX10_proves_189 : decode cX10_proves 189 = .ok (.getfield 37, 3) := by decide +kernel
theorem dX10_proves_192 : decode cX10_proves 192 = .ok (.aload_n 0, 1) := by decide +kernel
theorem dX10_proves_193 : decode cX10_proves 193 = .ok (.getfield 17, 3) := by decide +kernel
theorem dX10_proves_196 : decode cX10_proves 196 = .ok (.iconst 5, 1) := by decide +kernel
theorem dX10_proves_197 : decode cX10_proves 197 = .ok (.iaload, 1) := by decide +kernel
theorem dX10_proves_198 : decode cX10_proves 198 = .ok (.iconst 1, 1) := by decide +kernel
theorem dX10_proves_199 : decode cX10_proves 199 = .ok (.isub, 1) := by decide +kernel
theorem dX10_proves_200 : decode cX10_proves 200 = .ok (.iaload, 1) := by decide +kernel
theorem dX10_proves_201 : decode cX10_proves 201 = .ok (.i2l, 1) := by decide +kernel
theorem dX10_proves_202 : decode cX10_proves 202 = .ok (.lmul, 1) := by decide +kernel
theorem dX10_proves_203 : decode cX10_proves 203 = .ok (.lcmp, 1) := by decide +kernel
theorem dX10_proves_204 : decode cX10_proves 204 = .ok (.ifCond .ge 5, 3) := by decide +kernel
theorem dX10_proves_207 : decode cX10_proves 207 = .ok (.iconst (-1), 1) := by decide +kernel
theorem dX10_proves_208 : decode cX10_proves 208 = .ok (.ireturn, 1) := by decide +kernel
theorem dX10_proves_209 : decode cX10_proves 209 = .ok (.aload_n 0, 1) := by decide +kernel
theorem dX10_proves_210 : decode cX10_proves 210 = .ok (.lload 7, 2) := by decide +kernel
theorem dX10_proves_212 : decode cX10_proves 212 = .ok (.lload 9, 2) := by decide +kernel
theorem dX10_proves_214 : decode cX10_proves 214 = .ok (.aload_n 0, 1) := by decide +kernel
theorem dX10_proves_215 : decode cX10_proves 215 = .ok (.getfield 17, 3) := by decide +kernel
theorem dX10_proves_218 : decode cX10_proves 218 = .ok (.iconst 2, 1) := by decide +kernel
theorem dX10_proves_219 : decode cX10_proves 219 = .ok (.iaload, 1) := by decide +kernel
theorem dX10_proves_220 : decode cX10_proves 220 = .ok (.invokevirtual 401, 3) := by decide +kernel
theorem dX10_proves_223 : decode cX10_proves 223 = .ok (.lstore 11, 2) := by decide +kernel
theorem dX10_proves_225 : decode cX10_proves 225 = .ok (.iconst 0, 1) := by decide +kernel
theorem dX10_proves_226 : decode cX10_proves 226 = .ok (.istore 13, 2) := by decide +kernel
theorem dX10_proves_228 : decode cX10_proves 228 = .ok (.iload 13, 2) := by decide +kernel
theorem dX10_proves_230 : decode cX10_proves 230 = .ok (.iconst 1, 1) := by decide +kernel
theorem dX10_proves_231 : decode cX10_proves 231 = .ok (.iadd, 1) := by decide +kernel
theorem dX10_proves_232 : decode cX10_proves 232 = .ok (.aload_n 0, 1) := by decide +kernel
theorem dX10_proves_233 : decode cX10_proves 233 = .ok (.getfield 17, 3) := by decide +kernel
theorem dX10_proves_236 : decode cX10_proves 236 = .ok (.iconst 5, 1) := by decide +kernel
theorem dX10_proves_237 : decode cX10_proves 237 = .ok (.iaload, 1) := by decide +kernel
theorem dX10_proves_238 : decode cX10_proves 238 = .ok (.if_icmp .ge 62, 3) := by decide +kernel
theorem dX10_proves_241 : decode cX10_proves 241 = .ok (.aload_n 0, 1) := by decide +kernel
theorem dX10_proves_242 : decode cX10_proves 242 = .ok (.getfield 40, 3) := by decide +kernel
theorem dX10_proves_245 : decode cX10_proves 245 = .ok (.iload 13, 2) := by decide +kernel
theorem dX10_proves_247 : decode cX10_proves 247 = .ok (.iaload, 1) := by decide +kernel
theorem dX10_proves_248 : decode cX10_proves 248 = .ok (.aload_n 0, 1) := by decide +kernel
theorem dX10_proves_249 : decode cX10_proves 249 = .ok (.getfield 17, 3) := by decide +kernel
theorem dX10_proves_252 : decode cX10_proves 252 = .ok (.iconst 2, 1) := by decide +kernel
theorem dX10_proves_253 : decode cX10_proves 253 = .ok (.iaload, 1) := by decide +kernel
theorem dX10_proves_254 : decode cX10_proves 254 = .ok (.if_icmp .gt 6, 3) := by decide +kernel
theorem dX10_proves_257 : decode cX10_proves 257 = .ok (.goto 37, 3) := by decide +kernel
theorem dX10_proves_260 : decode cX10_proves 260 = .ok (.aload_n 0, 1) := by decide +kernel
theorem dX10_proves_261 : decode cX10_proves 261 = .ok (.lload 7, 2) := by decide +kernel
theorem dX10_proves_263 : decode cX10_proves 263 = .ok (.lload 9, 2) := by decide +kernel
theorem dX10_proves_265 : decode cX10_proves 265 = .ok (.aload_n 0, 1) := by decide +kernel
theorem dX10_proves_266 : decode cX10_proves 266 = .ok (.getfield 40, 3) := by decide +kernel
theorem dX10_proves_269 : decode cX10_proves 269 = .ok (.iload 13, 2) := by decide +kernel
theorem dX10_proves_271 : decode cX10_proves 271 = .ok (.iaload, 1) := by decide +kernel
theorem dX10_proves_272 : decode cX10_proves 272 = .ok (.invokevirtual 401, 3) := by decide +kernel
theorem dX10_proves_275 : decode cX10_proves 275 = .ok (.lstore 14, 2) := by decide +kernel
theorem dX10_proves_277 : decode cX10_proves 277 = .ok (.lload 14, 2) := by decide +kernel
theorem dX10_proves_279 : decode cX10_proves 279 = .ok (.lload 11, 2) := by decide +kernel
theorem dX10_proves_281 : decode cX10_proves 281 = .ok (.lcmp, 1) := by decide +kernel
theorem dX10_proves_282 : decode cX10_proves 282 = .ok (.ifCond .ge 8, 3) := by decide +kernel
theorem dX10_proves_285 : decode cX10_proves 285 = .ok (.lload 14, 2) := by decide +kernel
theorem dX10_proves_287 : decode cX10_proves 287 = .ok (.goto 5, 3) := by decide +kernel
theorem dX10_proves_290 : decode cX10_proves 290 = .ok (.lload 11, 2) := by decide +kernel
theorem dX10_proves_292 : decode cX10_proves 292 = .ok (.lstore 11, 2) := by decide +kernel
theorem dX10_proves_294 : decode cX10_proves 294 = .ok (.iinc 13 1, 3) := by decide +kernel
theorem dX10_proves_297 : decode cX10_proves 297 = .ok (.goto (-69), 3) := by decide +kernel
theorem dX10_proves_300 : decode cX10_proves 300 = .ok (.lload 4, 2) := by decide +kernel
theorem dX10_proves_302 : decode cX10_proves 302 = .ok (.lload 11, 2) := by decide +kernel
theorem dX10_proves_304 : decode cX10_proves 304 = .ok (.ladd, 1) := by decide +kernel
theorem dX10_proves_305 : decode cX10_proves 305 = .ok (.lstore 4, 2) := by decide +kernel
theorem dX10_proves_307 : decode cX10_proves 307 = .ok (.iinc 6 1, 3) := by decide +kernel
theorem dX10_proves_310 : decode cX10_proves 310 = .ok (.goto (-211), 3) := by decide +kernel
theorem dX10_proves_313 : decode cX10_proves 313 = .ok (.aload_n 0, 1) := by decide +kernel
theorem dX10_proves_314 : decode cX10_proves 314 = .ok (.lload 4, 2) := by decide +kernel
theorem dX10_proves_316 : decode cX10_proves 316 = .ok (.lload_n 2, 1) := by decide +kernel
theorem dX10_proves_317 : decode cX10_proves 317 = .ok (.aload_n 0, 1) := by decide +kernel
theorem dX10_proves_318 : decode cX10_proves 318 = .ok (.getfield 190, 3) := by decide +kernel
theorem dX10_proves_321 : decode cX10_proves 321 = .ok (.i2l, 1) := by decide +kernel
theorem dX10_proves_322 : decode cX10_proves 322 = .ok (.lmul, 1) := by decide +kernel
theorem dX10_proves_323 : decode cX10_proves 323 = .ok (.invokevirtual 355, 3) := by decide +kernel
theorem dX10_proves_326 : decode cX10_proves 326 = .ok (.iconst 1, 1) := by decide +kernel
theorem dX10_proves_327 : decode cX10_proves 327 = .ok (.ireturn, 1) := by decide +kernel
set_option maxRecDepth 20000 in
theorem ggX10_mix_X10_isWork : GoodIn wsX10_mix wsX10_isWork := goodIn_r _ [7, 8, 9, 10, 6, 11, 12, 13, 14, 15, 16, 17, 18, 19, 20, 21, 22, 23, 24, 25, 26, 27, 28, 29, 30, 31, 32, 33, 34, 35, 36, 37, 38, 39, 40, 41, 42, 43, 44, 45, 46, 47, 48, 49, 50, 51, 52, 53, 54, 55, 56, 57, 58, 59, 60, 61, 62, 63, 64, 65, 66, 67, 68, 69, 70, 71, 72, 73, 74, 75, 76] (by decide +kernel) (by decide +kernel)
set_option maxRecDepth 20000 in
theorem gX10_mix_X10_isWork : GoodIn wsX10_mix (wsV RX10 253 RX10 yX10_isWork wsX10_isWork) := goodIn_app (goodIn_of _ (by decide +kernel)) ggX10_mix_X10_isWork
set_option maxRecDepth 20000 in
theorem ggX10_mix_X10_in : GoodIn wsX10_mix wsX10_in := goodIn_r _ [11] (by decide +kernel) (by decide +kernel)
set_option maxRecDepth 20000 in
theorem gX10_mix_X10_in : GoodIn wsX10_mix (va_wsS RX10 174 yX10_in wsX10_in) := goodIn_app (goodIn_of _ (by decide +kernel)) ggX10_mix_X10_in
theorem dX10_mix_0 : decode cX10_mix 0 = .ok (.aload_n 0, 1) := by decide +kernel
theorem dX10_mix_1 : decode cX10_mix 1 = .ok (.iload_n 1, 1) := by decide +kernel
theorem dX10_mix_2 : decode cX10_mix 2 = .ok (.invokevirtual 253, 3) := by decide +kernel
theorem dX10_mix_5 : decode cX10_mix 5 = .ok (.ifCond .eq 15, 3) := by decide +kernel
theorem dX10_mix_8 : decode cX10_mix 8 = .ok (.iload_n 2, 1) := by decide +kernel
theorem dX10_mix_9 : decode cX10_mix 9 = .ok (.i2l, 1) := by decide +kernel
theorem dX10_mix_10 : decode cX10_mix 10 = .ok (.lconst 0, 1) := by decide +kernel
theorem dX10_mix_11 : decode cX10_mix 11 = .ok (.ldc2_w 405, 3) := by decide +kernel
theorem dX10_mix_14 : decode cX10_mix 14 = .ok (.invokestatic 174, 3) := by decide +kernel
theorem dX10_mix_17 : decode cX10_mix 17 = .ok (.ifCond .ne 6, 3) := by decide +kernel
theorem dX10_mix_20 : decode cX10_mix 20 = .ok (.bipush (-2), 2) := by decide +kernel
theorem dX10_mix_22 : decode cX10_mix 22 = .ok (.ireturn, 1) := by decide +kernel
theorem dX10_mix_23 : decode cX10_mix 23 = .ok (.aload_n 0, 1) := by decide +kernel
theorem dX10_mix_24 : decode cX10_mix 24 = .ok (.getfield 88, 3) := by decide +kernel
theorem dX10_mix_27 : decode cX10_mix 27 = .ok (.iload_n 1, 1) := by decide +kernel
theorem dX10_mix_28 : decode cX10_mix 28 = .ok (.iaload, 1) := by decide +kernel
theorem dX10_mix_29 : decode cX10_mix 29 = .ok (.istore_n 3, 1) := by decide +kernel
theorem dX10_mix_30 : decode cX10_mix 30 = .ok (.aload_n 0, 1) := by decide +kernel
theorem dX10_mix_31 : decode cX10_mix 31 = .ok (.getfield 88, 3) := by decide +kernel
theorem dX10_mix_34 : decode cX10_mix 34 = .ok (.iload_n 1, 1) := by decide +kernel
theorem dX10_mix_35 : decode cX10_mix 35 = .ok (.iload_n 2, 1) := by decide +kernel
theorem dX10_mix_36 : decode cX10_mix 36 = .ok (.iastore, 1) := by decide +kernel
theorem dX10_mix_37 : decode cX10_mix 37 = .ok (.iload_n 3, 1) := by decide +kernel
theorem dX10_mix_38 : decode cX10_mix 38 = .ok (.ireturn, 1) := by decide +kernel
set_option maxRecDepth 20000 in
theorem ggX10_same_X10_isWork : GoodIn wsX10_same wsX10_isWork := goodIn_r _ [8, 1, 9, 10, 7, 11, 17, 18, 19, 20, 21, 22, 23, 24, 25, 26, 27, 28, 29, 30, 31, 32, 33, 34, 35, 36, 37, 38, 39, 40, 41, 42, 43, 44, 45, 46, 47, 48, 49, 50, 51, 52, 53, 54, 55, 56, 57, 58, 59, 60, 61, 62, 63, 64, 65, 66, 67, 68, 69, 70, 71, 72, 73, 74, 75, 76, 77, 78, 79, 80, 81] (by decide +kernel) (by decide +kernel)
set_option maxRecDepth 20000 in
theorem gX10_same_X10_isWork : GoodIn wsX10_same (wsV RX10 253 RX10 yX10_isWork wsX10_isWork) := goodIn_app (goodIn_of _ (by decide +kernel)) ggX10_same_X10_isWork
set_option maxRecDepth 20000 in
theorem ggX10_same_X10_chanceOf : GoodIn wsX10_same wsX10_chanceOf := goodIn_r _ [15, 16, 17, 18, 19, 20, 21, 22, 23, 24, 25, 26, 27, 28, 29, 30, 31, 32, 33, 34, 35, 36, 37, 38, 39, 40, 41, 42, 43, 44, 45, 46, 47, 48, 49, 50, 51, 52, 53, 54, 55, 56, 57, 58, 59, 60, 61, 62, 63, 64, 65, 66, 67, 68, 69, 70, 71, 72, 73, 74, 75, 76, 77, 78, 79, 80, 81] (by decide +kernel) (by decide +kernel)
set_option maxRecDepth 20000 in
theorem gX10_same_X10_chanceOf : GoodIn wsX10_same (wsV RX10 259 RX10 yX10_chanceOf wsX10_chanceOf) := goodIn_app (goodIn_of _ (by decide +kernel)) ggX10_same_X10_chanceOf
theorem dX10_same_0 : decode cX10_same 0 = .ok (.aload_n 0, 1) := by decide +kernel
theorem dX10_same_1 : decode cX10_same 1 = .ok (.iload_n 1, 1) := by decide +kernel
theorem dX10_same_2 : decode cX10_same 2 = .ok (.invokevirtual 253, 3) := by decide +kernel
theorem dX10_same_5 : decode cX10_same 5 = .ok (.ifCond .ne 6, 3) := by decide +kernel
theorem dX10_same_8 : decode cX10_same 8 = .ok (.bipush (-2), 2) := by decide +kernel
theorem dX10_same_10 : decode cX10_same 10 = .ok (.ireturn, 1) := by decide +kernel
theorem dX10_same_11 : decode cX10_same 11 = .ok (.lconst 0, 1) := by decide +kernel
theorem dX10_same_12 : decode cX10_same 12 = .ok (.lstore_n 2, 1) := by decide +kernel
theorem dX10_same_13 : decode cX10_same 13 = .ok (.lconst 0, 1) := by decide +kernel
theorem dX10_same_14 : decode cX10_same 14 = .ok (.lstore 4, 2) := by decide +kernel
theorem dX10_same_16 : decode cX10_same 16 = .ok (.iconst 0, 1) := by decide +kernel
theorem dX10_same_17 : decode cX10_same 17 = .ok (.istore 6, 2) := by decide +kernel
theorem dX10_same_19 : decode cX10_same 19 = .ok (.iload 6, 2) := by decide +kernel
theorem dX10_same_21 : decode cX10_same 21 = .ok (.aload_n 0, 1) := by decide +kernel
theorem dX10_same_22 : decode cX10_same 22 = .ok (.getfield 17, 3) := by decide +kernel
theorem dX10_same_25 : decode cX10_same 25 = .ok (.iconst 4, 1) := by decide +kernel
theorem dX10_same_26 : decode cX10_same 26 = .ok (.iaload, 1) := by decide +kernel
theorem dX10_same_27 : decode cX10_same 27 = .ok (.if_icmp .ge 51, 3) := by decide +kernel
theorem dX10_same_30 : decode cX10_same 30 = .ok (.iload 6, 2) := by decide +kernel
theorem dX10_same_32 : decode cX10_same 32 = .ok (.iload_n 1, 1) := by decide +kernel
theorem dX10_same_33 : decode cX10_same 33 = .ok (.if_icmp .ne 6, 3) := by decide +kernel
theorem dX10_same_36 : decode cX10_same 36 = .ok (.goto 36, 3) := by decide +kernel
theorem dX10_same_39 : decode cX10_same 39 = .ok (.lload_n 2, 1) := by decide +kernel
theorem dX10_same_40 : decode cX10_same 40 = .ok (.aload_n 0, 1) := by decide +kernel
theorem dX10_same_41 : decode cX10_same 41 = .ok (.getfield 88, 3) := by decide +kernel
theorem dX10_same_44 : decode cX10_same 44 = .ok (.iload 6, 2) := by decide +kernel
theorem dX10_same_46 : decode cX10_same 46 = .ok (.iaload, 1) := by decide +kernel
theorem dX10_same_47 : decode cX10_same 47 = .ok (.i2l, 1) := by decide +kernel
theorem dX10_same_48 : decode cX10_same 48 = .ok (.ladd, 1) := by decide +kernel
theorem dX10_same_49 : decode cX10_same 49 = .ok (.lstore_n 2, 1) := by decide +kernel
theorem dX10_same_50 : decode cX10_same 50 = .ok (.lload 4, 2) := by decide +kernel
theorem dX10_same_52 : decode cX10_same 52 = .ok (.aload_n 0, 1) := by decide +kernel
theorem dX10_same_53 : decode cX10_same 53 = .ok (.getfield 88, 3) := by decide +kernel
theorem dX10_same_56 : decode cX10_same 56 = .ok (.iload 6, 2) := by decide +kernel
theorem dX10_same_58 : decode cX10_same 58 = .ok (.iaload, 1) := by decide +kernel
theorem dX10_same_59 : decode cX10_same 59 = .ok (.i2l, 1) := by decide +kernel
theorem dX10_same_60 : decode cX10_same 60 = .ok (.aload_n 0, 1) := by decide +kernel
theorem dX10_same_61 : decode cX10_same 61 = .ok (.getfield 31, 3) := by decide +kernel
theorem dX10_same_64 : decode cX10_same 64 = .ok (.iload 6, 2) := by decide +kernel
theorem dX10_same_66 : decode cX10_same 66 = .ok (.iaload, 1) := by decide +kernel
theorem dX10_same_67 : decode cX10_same 67 = .ok (.i2l, 1) := by decide +kernel
theorem dX10_same_68 : decode cX10_same 68 = .ok (.lmul, 1) := by decide +kernel
theorem dX10_same_69 : decode cX10_same 69 = .ok (.ladd, 1) := by decide +kernel
theorem dX10_same_70 : decode cX10_same 70 = .ok (.lstore 4, 2) := by decide +kernel
theorem dX10_same_72 : decode cX10_same 72 = .ok (.iinc 6 1, 3) := by decide +kernel
theorem dX10_same_75 : decode cX10_same 75 = .ok (.goto (-56), 3) := by decide +kernel
theorem dX10_same_78 : decode cX10_same 78 = .ok (.iconst 0, 1) := by decide +kernel
theorem dX10_same_79 : decode cX10_same 79 = .ok (.istore 6, 2) := by decide +kernel
theorem dX10_same_81 : decode cX10_same 81 = .ok (.iload 6, 2) := by decide +kernel
theorem dX10_same_83 : decode cX10_same 83 = .ok (.aload_n 0, 1) := by decide +kernel
theorem dX10_same_84 : decode cX10_same 84 = .ok (.getfield 17, 3) := by decide +kernel
theorem dX10_same_87 : decode cX10_same 87 = .ok (.iconst 3, 1) := by decide +kernel
theorem dX10_same_88 : decode cX10_same 88 = .ok (.iaload, 1) := by decide +kernel
theorem dX10_same_89 : decode cX10_same 89 = .ok (.if_icmp .ge 83, 3) := by decide +kernel
theorem dX10_same_92 : decode cX10_same 92 = .ok (.lconst 0, 1) := by decide +kernel
theorem dX10_same_93 : decode cX10_same 93 = .ok (.lstore 7, 2) := by decide +kernel
theorem dX10_same_95 : decode cX10_same 95 = .ok (.iconst 0, 1) := by decide +kernel
theorem dX10_same_96 : decode cX10_same 96 = .ok (.istore 9, 2) := by decide +kernel
theorem dX10_same_98 : decode cX10_same 98 = .ok (.iload 9, 2) := by decide +kernel
theorem dX10_same_100 : decode cX10_same 100 = .ok (.aload_n 0, 1) := by decide +kernel
theorem dX10_same_101 : decode cX10_same 101 = .ok (.getfield 17, 3) := by decide +kernel
theorem dX10_same_104 : decode cX10_same 104 = .ok (.iconst 4, 1) := by decide +kernel
theorem dX10_same_105 : decode cX10_same 105 = .ok (.iaload, 1) := by decide +kernel
theorem dX10_same_106 : decode cX10_same 106 = .ok (.if_icmp .ge 42, 3) := by decide +kernel
theorem dX10_same_109 : decode cX10_same 109 = .ok (.lload 7, 2) := by decide +kernel
theorem dX10_same_111 : decode cX10_same 111 = .ok (.iload 9, 2) := by decide +kernel
theorem dX10_same_113 : decode cX10_same 113 = .ok (.iload_n 1, 1) := by decide +kernel
theorem dX10_same_114 : decode cX10_same 114 = .ok (.if_icmp .ne 7, 3) := by decide +kernel
theorem dX10_same_117 : decode cX10_same 117 = .ok (.lconst 0, 1) := by decide +kernel
theorem dX10_same_118 : decode cX10_same 118 = .ok (.goto 21, 3) := by decide +kernel
theorem dX10_same_121 : decode cX10_same 121 = .ok (.aload_n 0, 1) := by decide +kernel
theorem dX10_same_122 : decode cX10_same 122 = .ok (.getfield 88, 3) := by decide +kernel
theorem dX10_same_125 : decode cX10_same 125 = .ok (.iload 9, 2) := by decide +kernel
theorem dX10_same_127 : decode cX10_same 127 = .ok (.iaload, 1) := by decide +kernel
theorem dX10_same_128 : decode cX10_same 128 = .ok (.i2l, 1) := by decide +kernel
theorem dX10_same_129 : decode cX10_same 129 = .ok (.aload_n 0, 1) := by decide +kernel
theorem dX10_same_130 : decode cX10_same 130 = .ok (.iload 9, 2) := by decide +kernel
theorem dX10_same_132 : decode cX10_same 132 = .ok (.iload 6, 2) := by decide +kernel
theorem dX10_same_134 : decode cX10_same 134 = .ok (.invokevirtual 259, 3) := by decide +kernel
theorem dX10_same_137 : decode cX10_same 137 = .ok (.i2l, 1) := by decide +kernel
theorem dX10_same_138 : decode cX10_same 138 = .ok (.lmul, 1) := by decide +kernel
theorem dX10_same_139 : decode cX10_same 139 = .ok (.ladd, 1) := by decide +kernel
theorem dX10_same_140 : decode cX10_same 140 = .ok (.lstore 7, 2) := by decide +kernel
theorem dX10_same_142 : decode cX10_same 142 = .ok (.iinc 9 1, 3) := by decide +kernel
theorem dX10_same_145 : decode cX10_same 145 = .ok (.goto (-47), 3) := by decide +kernel
theorem dX10_same_148 : decode cX10_same 148 = .ok (.lload 7, 2) := by decide +kernel
theorem dX10_same_150 : decode cX10_same 150 = .ok (.lload_n 2, 1) := by decide +kernel
theorem dX10_same_151 : decode cX10_same 151 = .ok (.aload_n 0, 1) := by decide +kernel
theorem dX10_same_152 : decode cX10_same 152 = .ok (.iload_n 1, 1) := by decide +kernel
theorem dX10_same_153 : decode cX10_same 153 = .ok (.iload 6, 2) := by decide +kernel
theorem dX10_same_155 : decode cX10_same 155 = .ok (.invokevirtual 259, 3) := by decide +kernel
theorem dX10_same_158 : decode cX10_same 158 = .ok (.i2l, 1) := by decide +kernel
theorem dX10_same_159 : decode cX10_same 159 = .ok (.lmul, 1) := by decide +kernel
theorem dX10_same_160 : decode cX10_same 160 = .ok (.lcmp, 1) := by decide +kernel
theorem dX10_same_161 : decode cX10_same 161 = .ok (.ifCond .eq 5, 3) := by decide +kernel
theorem dX10_same_164 : decode cX10_same 164 = .ok (.iconst 0, 1) := by decide +kernel
theorem dX10_same_165 : decode cX10_same 165 = .ok (.ireturn, 1) := by decide +kernel
theorem dX10_same_166 : decode cX10_same 166 = .ok (.iinc 6 1, 3) := by decide +kernel
theorem dX10_same_169 : decode cX10_same 169 = .ok (.goto (-88), 3) := by decide +kernel
theorem dX10_same_172 : decode cX10_same 172 = .ok (.lload 4, 2) := by decide +kernel
theorem dX10_same_174 : decode cX10_same 174 = .ok (.lload_n 2, 1) := by decide +kernel
theorem dX10_same_175 : decode cX10_same 175 = .ok (.aload_n 0, 1) := by decide +kernel
theorem dX10_same_176 : decode cX10_same 176 = .ok (.getfield 31, 3) := by decide +kernel
theorem dX10_same_179 : decode cX10_same 179 = .ok (.iload_n 1, 1) := by decide +kernel
theorem dX10_same_180 : decode cX10_same 180 = .ok (.iaload, 1) := by decide +kernel
theorem dX10_same_181 : decode cX10_same 181 = .ok (.i2l, 1) := by decide +kernel
theorem dX10_same_182 : decode cX10_same 182 = .ok (.lmul, 1) := by decide +kernel
theorem dX10_same_183 : decode cX10_same 183 = .ok (.lcmp, 1) := by decide +kernel
theorem dX10_same_184 : decode cX10_same 184 = .ok (.ifCond .ge 7, 3) := by decide +kernel
theorem dX10_same_187 : decode cX10_same 187 = .ok (.iconst 1, 1) := by decide +kernel
theorem dX10_same_188 : decode cX10_same 188 = .ok (.goto 4, 3) := by decide +kernel
theorem dX10_same_191 : decode cX10_same 191 = .ok (.iconst 0, 1) := by decide +kernel
theorem dX10_same_192 : decode cX10_same 192 = .ok (.ireturn, 1) := by decide +kernel
theorem pm_X10_edge_r1 : ∀ w ∈ wsX10_edge_r1, w ∈ wsX10_edge := fun _ h => List.mem_cons_of_mem _ (List.mem_append_left _ (List.mem_append_left _ h))
theorem pm_X10_edge_r2 : ∀ w ∈ wsX10_edge_r2, w ∈ wsX10_edge := fun _ h => List.mem_cons_of_mem _ (List.mem_append_left _ (List.mem_append_right _ (List.mem_append_left _ h)))
theorem pm_X10_edge_r3 : ∀ w ∈ wsX10_edge_r3, w ∈ wsX10_edge := fun _ h => List.mem_cons_of_mem _ (List.mem_append_left _ (List.mem_append_right _ (List.mem_append_right _ (List.mem_append_left _ h))))
theorem pm_X10_edge_r4 : ∀ w ∈ wsX10_edge_r4, w ∈ wsX10_edge := fun _ h => List.mem_cons_of_mem _ (List.mem_append_left _ (List.mem_append_right _ (List.mem_append_right _ (List.mem_append_right _ (h)))))
theorem pw_X10_edge_X10 : ∀ w ∈ wsX100, w ∈ wsX10_edge := fun _ h => List.mem_cons_of_mem _ (List.mem_append_right _ h)
set_option maxRecDepth 20000 in
theorem ggX10_edge_X10_isWork : GoodIn wsX10_edge wsX10_isWork := goodIn_sub (List.forall_mem_cons.mpr ⟨pm_X10_edge_r1 _ (List.mem_of_getElem? (i := 5) rfl), List.forall_mem_append.mpr ⟨List.forall_mem_cons.mpr ⟨pm_X10_edge_r1 _ (List.mem_of_getElem? (i := 6) rfl), List.forall_mem_cons.mpr ⟨pm_X10_edge_r1 _ (List.mem_of_getElem? (i := 7) rfl), List.forall_mem_cons.mpr ⟨pm_X10_edge_r1 _ (List.mem_of_getElem? (i := 8) rfl), List.forall_mem_cons.mpr ⟨pm_X10_edge_r1 _ (List.mem_of_getElem? (i := 4) rfl), List.forall_mem_cons.mpr ⟨pm_X10_edge_r1 _ (List.mem_of_getElem? (i := 9) rfl), fun _ h => absurd h List.not_mem_nil⟩⟩⟩⟩⟩, pw_X10_edge_X10⟩⟩) (by decide +kernel)
set_option maxRecDepth 20000 in
theorem gX10_edge_X10_isWork : GoodIn wsX10_edge (wsV RX10 253 RX10 yX10_isWork wsX10_isWork) := goodIn_app (goodIn_of _ (by decide +kernel)) ggX10_edge_X10_isWork
set_option maxRecDepth 20000 in
theorem ggX10_edge_X10_isSign : GoodIn wsX10_edge wsX10_isSign := goodIn_sub (List.forall_mem_cons.mpr ⟨pm_X10_edge_r1 _ (List.mem_of_getElem? (i := 13) rfl), List.forall_mem_append.mpr ⟨List.forall_mem_cons.mpr ⟨pm_X10_edge_r1 _ (List.mem_of_getElem? (i := 6) rfl), List.forall_mem_cons.mpr ⟨pm_X10_edge_r1 _ (List.mem_of_getElem? (i := 7) rfl), List.forall_mem_cons.mpr ⟨pm_X10_edge_r1 _ (List.mem_of_getElem? (i := 8) rfl), List.forall_mem_cons.mpr ⟨pm_X10_edge_r1 _ (List.mem_of_getElem? (i := 4) rfl), List.forall_mem_cons.mpr ⟨pm_X10_edge_r1 _ (List.mem_of_getElem? (i := 9) rfl), fun _ h => absurd h List.not_mem_nil⟩⟩⟩⟩⟩, pw_X10_edge_X10⟩⟩) (by decide +kernel)
set_option maxRecDepth 20000 in
theorem gX10_edge_X10_isSign : GoodIn wsX10_edge (wsV RX10 256 RX10 yX10_isSign wsX10_isSign) := goodIn_app (goodIn_of _ (by decide +kernel)) ggX10_edge_X10_isSign
set_option maxRecDepth 20000 in
theorem pq_X10_edge_X10_bestWork_r1 : ∀ w ∈ wsX10_bestWork_r1, w ∈ wsX10_edge := List.forall_mem_cons.mpr ⟨pm_X10_edge_r1 _ (List.mem_of_getElem? (i := 6) rfl), List.forall_mem_cons.mpr ⟨pm_X10_edge_r1 _ (List.mem_of_getElem? (i := 18) rfl), List.forall_mem_cons.mpr ⟨pm_X10_edge_r1 _ (List.mem_of_getElem? (i := 19) rfl), List.forall_mem_cons.mpr ⟨pm_X10_edge_r1 _ (List.mem_of_getElem? (i := 20) rfl), List.forall_mem_cons.mpr ⟨pm_X10_edge_r1 _ (List.mem_of_getElem? (i := 21) rfl), List.forall_mem_cons.mpr ⟨pm_X10_edge_r1 _ (List.mem_of_getElem? (i := 22) rfl), List.forall_mem_cons.mpr ⟨pm_X10_edge_r1 _ (List.mem_of_getElem? (i := 23) rfl), List.forall_mem_cons.mpr ⟨pm_X10_edge_r2 _ (List.mem_of_getElem? (i := 0) rfl), List.forall_mem_cons.mpr ⟨pm_X10_edge_r2 _ (List.mem_of_getElem? (i := 1) rfl), List.forall_mem_cons.mpr ⟨pm_X10_edge_r1 _ (List.mem_of_getElem? (i := 4) rfl), List.forall_mem_cons.mpr ⟨pm_X10_edge_r2 _ (List.mem_of_getElem? (i := 2) rfl), List.forall_mem_cons.mpr ⟨pm_X10_edge_r2 _ (List.mem_of_getElem? (i := 3) rfl), List.forall_mem_cons.mpr ⟨pm_X10_edge_r2 _ (List.mem_of_getElem? (i := 4) rfl), List.forall_mem_cons.mpr ⟨pm_X10_edge_r2 _ (List.mem_of_getElem? (i := 5) rfl), List.forall_mem_cons.mpr ⟨pm_X10_edge_r2 _ (List.mem_of_getElem? (i := 6) rfl), List.forall_mem_cons.mpr ⟨pm_X10_edge_r2 _ (List.mem_of_getElem? (i := 7) rfl), List.forall_mem_cons.mpr ⟨pm_X10_edge_r2 _ (List.mem_of_getElem? (i := 8) rfl), List.forall_mem_cons.mpr ⟨pm_X10_edge_r2 _ (List.mem_of_getElem? (i := 9) rfl), List.forall_mem_cons.mpr ⟨pm_X10_edge_r2 _ (List.mem_of_getElem? (i := 10) rfl), List.forall_mem_cons.mpr ⟨pm_X10_edge_r2 _ (List.mem_of_getElem? (i := 11) rfl), List.forall_mem_cons.mpr ⟨pm_X10_edge_r2 _ (List.mem_of_getElem? (i := 12) rfl), List.forall_mem_cons.mpr ⟨pm_X10_edge_r2 _ (List.mem_of_getElem? (i := 13) rfl), List.forall_mem_cons.mpr ⟨pm_X10_edge_r2 _ (List.mem_of_getElem? (i := 14) rfl), List.forall_mem_cons.mpr ⟨pm_X10_edge_r2 _ (List.mem_of_getElem? (i := 15) rfl), fun _ h => absurd h List.not_mem_nil⟩⟩⟩⟩⟩⟩⟩⟩⟩⟩⟩⟩⟩⟩⟩⟩⟩⟩⟩⟩⟩⟩⟩⟩
set_option maxRecDepth 20000 in
theorem pq_X10_edge_X10_bestWork_r2 : ∀ w ∈ wsX10_bestWork_r2, w ∈ wsX10_edge := List.forall_mem_cons.mpr ⟨pm_X10_edge_r2 _ (List.mem_of_getElem? (i := 16) rfl), List.forall_mem_cons.mpr ⟨pm_X10_edge_r2 _ (List.mem_of_getElem? (i := 17) rfl), List.forall_mem_cons.mpr ⟨pm_X10_edge_r2 _ (List.mem_of_getElem? (i := 18) rfl), List.forall_mem_cons.mpr ⟨pm_X10_edge_r2 _ (List.mem_of_getElem? (i := 19) rfl), List.forall_mem_cons.mpr ⟨pm_X10_edge_r2 _ (List.mem_of_getElem? (i := 20) rfl), List.forall_mem_cons.mpr ⟨pm_X10_edge_r2 _ (List.mem_of_getElem? (i := 21) rfl), List.forall_mem_cons.mpr ⟨pm_X10_edge_r2 _ (List.mem_of_getElem? (i := 22) rfl), List.forall_mem_cons.mpr ⟨pm_X10_edge_r2 _ (List.mem_of_getElem? (i := 23) rfl), List.forall_mem_cons.mpr ⟨pm_X10_edge_r3 _ (List.mem_of_getElem? (i := 0) rfl), List.forall_mem_cons.mpr ⟨pm_X10_edge_r3 _ (List.mem_of_getElem? (i := 1) rfl), List.forall_mem_cons.mpr ⟨pm_X10_edge_r3 _ (List.mem_of_getElem? (i := 2) rfl), List.forall_mem_cons.mpr ⟨pm_X10_edge_r3 _ (List.mem_of_getElem? (i := 3) rfl), List.forall_mem_cons.mpr ⟨pm_X10_edge_r1 _ (List.mem_of_getElem? (i := 0) rfl), List.forall_mem_cons.mpr ⟨pm_X10_edge_r3 _ (List.mem_of_getElem? (i := 4) rfl), List.forall_mem_cons.mpr ⟨pm_X10_edge_r3 _ (List.mem_of_getElem? (i := 5) rfl), List.forall_mem_cons.mpr ⟨pm_X10_edge_r3 _ (List.mem_of_getElem? (i := 6) rfl), List.forall_mem_cons.mpr ⟨pm_X10_edge_r3 _ (List.mem_of_getElem? (i := 7) rfl), List.forall_mem_cons.mpr ⟨pm_X10_edge_r3 _ (List.mem_of_getElem? (i := 8) rfl), List.forall_mem_cons.mpr ⟨pm_X10_edge_r3 _ (List.mem_of_getElem? (i := 9) rfl), List.forall_mem_cons.mpr ⟨pm_X10_edge_r3 _ (List.mem_of_getElem? (i := 10) rfl), List.forall_mem_cons.mpr ⟨pm_X10_edge_r3 _ (List.mem_of_getElem? (i := 11) rfl), List.forall_mem_cons.mpr ⟨pm_X10_edge_r3 _ (List.mem_of_getElem? (i := 12) rfl), List.forall_mem_cons.mpr ⟨pm_X10_edge_r3 _ (List.mem_of_getElem? (i := 13) rfl), List.forall_mem_cons.mpr ⟨pm_X10_edge_r3 _ (List.mem_of_getElem? (i := 14) rfl), fun _ h => absurd h List.not_mem_nil⟩⟩⟩⟩⟩⟩⟩⟩⟩⟩⟩⟩⟩⟩⟩⟩⟩⟩⟩⟩⟩⟩⟩⟩
set_option maxRecDepth 20000 in
theorem pq_X10_edge_X10_bestWork_r3 : ∀ w ∈ wsX10_bestWork_r3, w ∈ wsX10_edge := List.forall_mem_cons.mpr ⟨pm_X10_edge_r3 _ (List.mem_of_getElem? (i := 15) rfl), List.forall_mem_cons.mpr ⟨pm_X10_edge_r3 _ (List.mem_of_getElem? (i := 16) rfl), List.forall_mem_cons.mpr ⟨pm_X10_edge_r3 _ (List.mem_of_getElem? (i := 17) rfl), List.forall_mem_cons.mpr ⟨pm_X10_edge_r3 _ (List.mem_of_getElem? (i := 18) rfl), List.forall_mem_cons.mpr ⟨pm_X10_edge_r3 _ (List.mem_of_getElem? (i := 19) rfl), List.forall_mem_cons.mpr ⟨pm_X10_edge_r3 _ (List.mem_of_getElem? (i := 20) rfl), List.forall_mem_cons.mpr ⟨pm_X10_edge_r3 _ (List.mem_of_getElem? (i := 21) rfl), List.forall_mem_cons.mpr ⟨pm_X10_edge_r3 _ (List.mem_of_getElem? (i := 22) rfl), List.forall_mem_cons.mpr ⟨pm_X10_edge_r3 _ (List.mem_of_getElem? (i := 23) rfl), List.forall_mem_cons.mpr ⟨pm_X10_edge_r4 _ (List.mem_of_getElem? (i := 0) rfl), List.forall_mem_cons.mpr ⟨pm_X10_edge_r4 _ (List.mem_of_getElem? (i := 1) rfl), List.forall_mem_cons.mpr ⟨pm_X10_edge_r4 _ (List.mem_of_getElem? (i := 2) rfl), List.forall_mem_cons.mpr ⟨pm_X10_edge_r4 _ (List.mem_of_getElem? (i := 3) rfl), List.forall_mem_cons.mpr ⟨pm_X10_edge_r4 _ (List.mem_of_getElem? (i := 4) rfl), List.forall_mem_cons.mpr ⟨pm_X10_edge_r4 _ (List.mem_of_getElem? (i := 5) rfl), List.forall_mem_cons.mpr ⟨pm_X10_edge_r4 _ (List.mem_of_getElem? (i := 6) rfl), List.forall_mem_cons.mpr ⟨pm_X10_edge_r4 _ (List.mem_of_getElem? (i := 7) rfl), List.forall_mem_cons.mpr ⟨pm_X10_edge_r4 _ (List.mem_of_getElem? (i := 8) rfl), List.forall_mem_cons.mpr ⟨pm_X10_edge_r4 _ (List.mem_of_getElem? (i := 9) rfl), List.forall_mem_cons.mpr ⟨pm_X10_edge_r4 _ (List.mem_of_getElem? (i := 10) rfl), List.forall_mem_cons.mpr ⟨pm_X10_edge_r4 _ (List.mem_of_getElem? (i := 11) rfl), List.forall_mem_cons.mpr ⟨pm_X10_edge_r4 _ (List.mem_of_getElem? (i := 12) rfl), List.forall_mem_cons.mpr ⟨pm_X10_edge_r4 _ (List.mem_of_getElem? (i := 13) rfl), List.forall_mem_cons.mpr ⟨pm_X10_edge_r4 _ (List.mem_of_getElem? (i := 14) rfl), fun _ h => absurd h List.not_mem_nil⟩⟩⟩⟩⟩⟩⟩⟩⟩⟩⟩⟩⟩⟩⟩⟩⟩⟩⟩⟩⟩⟩⟩⟩
set_option maxRecDepth 20000 in
theorem pq_X10_edge_X10_bestWork_r4 : ∀ w ∈ wsX10_bestWork_r4, w ∈ wsX10_edge := List.forall_mem_cons.mpr ⟨pm_X10_edge_r4 _ (List.mem_of_getElem? (i := 15) rfl), List.forall_mem_cons.mpr ⟨pm_X10_edge_r4 _ (List.mem_of_getElem? (i := 16) rfl), List.forall_mem_cons.mpr ⟨pm_X10_edge_r4 _ (List.mem_of_getElem? (i := 17) rfl), List.forall_mem_cons.mpr ⟨pm_X10_edge_r4 _ (List.mem_of_getElem? (i := 18) rfl), List.forall_mem_cons.mpr ⟨pm_X10_edge_r4 _ (List.mem_of_getElem? (i := 19) rfl), List.forall_mem_cons.mpr ⟨pm_X10_edge_r4 _ (List.mem_of_getElem? (i := 20) rfl), List.forall_mem_cons.mpr ⟨pm_X10_edge_r4 _ (List.mem_of_getElem? (i := 21) rfl), List.forall_mem_cons.mpr ⟨pm_X10_edge_r4 _ (List.mem_of_getElem? (i := 22) rfl), List.forall_mem_cons.mpr ⟨pm_X10_edge_r4 _ (List.mem_of_getElem? (i := 23) rfl), fun _ h => absurd h List.not_mem_nil⟩⟩⟩⟩⟩⟩⟩⟩⟩
set_option maxRecDepth 20000 in
theorem ggX10_edge_X10_bestWork : GoodIn wsX10_edge wsX10_bestWork := goodIn_sub (List.forall_mem_cons.mpr ⟨pm_X10_edge_r1 _ (List.mem_of_getElem? (i := 17) rfl), List.forall_mem_append.mpr ⟨List.forall_mem_append.mpr ⟨pq_X10_edge_X10_bestWork_r1, List.forall_mem_append.mpr ⟨pq_X10_edge_X10_bestWork_r2, List.forall_mem_append.mpr ⟨pq_X10_edge_X10_bestWork_r3, pq_X10_edge_X10_bestWork_r4⟩⟩⟩, pw_X10_edge_X10⟩⟩) (by decide +kernel)
set_option maxRecDepth 20000 in
theorem gX10_edge_X10_bestWork : GoodIn wsX10_edge (wsV RX10 368 RX10 yX10_bestWork wsX10_bestWork) := goodIn_app (goodIn_of _ (by decide +kernel)) ggX10_edge_X10_bestWork
theorem dX10_edge_0 : decode cX10_edge 0 = .ok (.aload_n 0, 1) := by decide +kernel
theorem dX10_edge_1 : decode cX10_edge 1 = .ok (.iload_n 1, 1) := by decide +kernel
theorem dX10_edge_2 : decode cX10_edge 2 = .ok (.invokevirtual 253, 3) := by decide +kernel
theorem dX10_edge_5 : decode cX10_edge 5 = .ok (.ifCond .eq 24, 3) := by decide +kernel
theorem dX10_edge_8 : decode cX10_edge 8 = .ok (.aload_n 0, 1) := by decide +kernel
theorem dX10_edge_9 : decode cX10_edge 9 = .ok (.iload_n 2, 1) := by decide +kernel
theorem dX10_edge_10 : decode cX10_edge 10 = .ok (.invokevirtual 256, 3) := by decide +kernel
theorem dX10_edge_13 : decode cX10_edge 13 = .ok (.ifCond .eq 16, 3) := by decide +kernel
theorem dX10_edge_16 : decode cX10_edge 16 = .ok (.aload_n 0, 1) := by decide +kernel
theorem dX10_edge_17 : decode cX10_edge 17 = .ok (.iload_n 3, 1) := by decide +kernel
theorem dX10_edge_18 : decode cX10_edge 18 = .ok (.invokevirtual 256, 3) := by decide +kernel
theorem dX10_edge_21 : decode cX10_edge 21 = .ok (.ifCond .eq 8, 3) := by decide +kernel
theorem dX10_edge_24 : decode cX10_edge 24 = .ok (.iload_n 2, 1) := by decide +kernel
theorem dX10_edge_25 : decode cX10_edge 25 = .ok (.iload_n 3, 1) := by decide +kernel
theorem dX10_edge_26 : decode cX10_edge 26 = .ok (.if_icmp .ne 6, 3) := by decide +kernel
theorem dX10_edge_29 : decode cX10_edge 29 = .ok (.bipush (-2), 2) := by decide +kernel
theorem dX10_edge_31 : decode cX10_edge 31 = .ok (.ireturn, 1) := by decide +kernel
theorem dX10_edge_32 : decode cX10_edge 32 = .ok (.aload_n 0, 1) := by decide +kernel
theorem dX10_edge_33 : decode cX10_edge 33 = .ok (.invokevirtual 368, 3) := by decide +kernel
theorem dX10_edge_36 : decode cX10_edge 36 = .ok (.istore 4, 2) := by decide +kernel
theorem dX10_edge_38 : decode cX10_edge 38 = .ok (.iconst 4, 1) := by decide +kernel
theorem dX10_edge_39 : decode cX10_edge 39 = .ok (.iload_n 1, 1) := by decide +kernel
theorem dX10_edge_40 : decode cX10_edge 40 = .ok (.imul, 1) := by decide +kernel
theorem dX10_edge_41 : decode cX10_edge 41 = .ok (.iload_n 2, 1) := by decide +kernel
theorem dX10_edge_42 : decode cX10_edge 42 = .ok (.iadd, 1) := by decide +kernel
theorem dX10_edge_43 : decode cX10_edge 43 = .ok (.istore 5, 2) := by decide +kernel
theorem dX10_edge_45 : decode cX10_edge 45 = .ok (.iconst 4, 1) := by decide +kernel
theorem dX10_edge_46 : decode cX10_edge 46 = .ok (.iload_n 1, 1) := by decide +kernel
theorem dX10_edge_47 : decode cX10_edge 47 = .ok (.imul, 1) := by decide +kernel
theorem dX10_edge_48 : decode cX10_edge 48 = .ok (.iload_n 3, 1) := by decide +kernel
theorem dX10_edge_49 : decode cX10_edge 49 = .ok (.iadd, 1) := by decide +kernel
theorem dX10_edge_50 : decode cX10_edge 50 = .ok (.istore 6, 2) := by decide +kernel
theorem dX10_edge_52 : decode cX10_edge 52 = .ok (.aload_n 0, 1) := by decide +kernel
theorem dX10_edge_53 : decode cX10_edge 53 = .ok (.getfield 34, 3) := by decide +kernel
theorem dX10_edge_56 : decode cX10_edge 56 = .ok (.iload 5, 2) := by decide +kernel
theorem dX10_edge_58 : decode cX10_edge 58 = .ok (.iaload, 1) := by decide +kernel
theorem dX10_edge_59 : decode cX10_edge 59 = .ok (.istore 7, 2) := by decide +kernel
theorem dX10_edge_61 : decode cX10_edge 61 = .ok (.iconst (-1), 1) := by decide +kernel
theorem dX10_edge_62 : decode cX10_edge 62 = .ok (.istore 8, 2) := by decide +kernel
theorem dX10_edge_64 : decode cX10_edge 64 = .ok (.iconst 1, 1) := by decide +kernel
theorem dX10_edge_65 : decode cX10_edge 65 = .ok (.istore 9, 2) := by decide +kernel
theorem dX10_edge_67 : decode cX10_edge 67 = .ok (.iload 9, 2) := by decide +kernel
theorem dX10_edge_69 : decode cX10_edge 69 = .ok (.iload 7, 2) := by decide +kernel
theorem dX10_edge_71 : decode cX10_edge 71 = .ok (.if_icmp .gt 50, 3) := by decide +kernel
theorem dX10_edge_74 : decode cX10_edge 74 = .ok (.iload 8, 2) := by decide +kernel
theorem dX10_edge_76 : decode cX10_edge 76 = .ok (.iconst (-1), 1) := by decide +kernel
theorem dX10_edge_77 : decode cX10_edge 77 = .ok (.if_icmp .ne 44, 3) := by decide +kernel
theorem dX10_edge_80 : decode cX10_edge 80 = .ok (.aload_n 0, 1) := by decide +kernel
theorem dX10_edge_81 : decode cX10_edge 81 = .ok (.getfield 34, 3) := by decide +kernel
theorem dX10_edge_84 : decode cX10_edge 84 = .ok (.iload 5, 2) := by decide +kernel
theorem dX10_edge_86 : decode cX10_edge 86 = .ok (.dup2, 1) := by decide +kernel
theorem dX10_edge_87 : decode cX10_edge 87 = .ok (.iaload, 1) := by decide +kernel
theorem dX10_edge_88 : decode cX10_edge 88 = .ok (.iconst 1, 1) := by decide +kernel
theorem dX10_edge_89 : decode cX10_edge 89 = .ok (.isub, 1) := by decide +kernel
theorem dX10_edge_90 : decode cX10_edge 90 = .ok (.iastore, 1) := by decide +kernel
theorem dX10_edge_91 : decode cX10_edge 91 = .ok (.aload_n 0, 1) := by decide +kernel
theorem dX10_edge_92 : decode cX10_edge 92 = .ok (.getfield 34, 3) := by decide +kernel
theorem dX10_edge_95 : decode cX10_edge 95 = .ok (.iload 6, 2) := by decide +kernel
theorem dX10_edge_97 : decode cX10_edge 97 = .ok (.dup2, 1) := by decide +kernel
theorem dX10_edge_98 : decode cX10_edge 98 = .ok (.iaload, 1) := by decide +kernel
theorem dX10_edge_99 : decode cX10_edge 99 = .ok (.iconst 1, 1) := by decide +kernel
theorem dX10_edge_100 : decode cX10_edge 100 = .ok (.iadd, 1) := by decide +kernel
theorem dX10_edge_101 : decode cX10_edge 101 = .ok (.iastore, 1) := by decide +kernel
theorem dX10_edge_102 : decode cX10_edge 102 = .ok (.aload_n 0, 1) := by decide +kernel
theorem dX10_edge_103 : decode cX10_edge 103 = .ok (.invokevirtual 368, 3) := by decide +kernel
theorem dX10_edge_106 : decode cX10_edge 106 = .ok (.iload 4, 2) := by decide +kernel
theorem dX10_edge_108 : decode cX10_edge 108 = .ok (.if_icmp .eq 7, 3) := by decide +kernel
theorem dX10_edge_111 : decode cX10_edge 111 = .ok (.iload 9, 2) := by decide +kernel
theorem dX10_edge_113 : decode cX10_edge 113 = .ok (.istore 8, 2) := by decide +kernel
theorem dX10_edge_115 : decode cX10_edge 115 = .ok (.iinc 9 1, 3) := by decide +kernel
theorem dX10_edge_118 : decode cX10_edge 118 = .ok (.goto (-51), 3) := by decide +kernel
theorem dX10_edge_121 : decode cX10_edge 121 = .ok (.aload_n 0, 1) := by decide +kernel
theorem dX10_edge_122 : decode cX10_edge 122 = .ok (.getfield 34, 3) := by decide +kernel
theorem dX10_edge_125 : decode cX10_edge 125 = .ok (.iload 6, 2) := by decide +kernel
theorem dX10_edge_127 : decode cX10_edge 127 = .ok (.dup2, 1) := by decide +kernel
theorem dX10_edge_128 : decode cX10_edge 128 = .ok (.iaload, 1) := by decide +kernel
theorem dX10_edge_129 : decode cX10_edge 129 = .ok (.iload 7, 2) := by decide +kernel
theorem dX10_edge_131 : decode cX10_edge 131 = .ok (.aload_n 0, 1) := by decide +kernel
theorem dX10_edge_132 : decode cX10_edge 132 = .ok (.getfield 34, 3) := by decide +kernel
theorem dX10_edge_135 : decode cX10_edge 135 = .ok (.iload 5, 2) := by decide +kernel
theorem dX10_edge_137 : decode cX10_edge 137 = .ok (.iaload, 1) := by decide +kernel
theorem dX10_edge_138 : decode cX10_edge 138 = .ok (.isub, 1) := by decide +kernel
theorem dX10_edge_139 : decode cX10_edge 139 = .ok (.isub, 1) := by decide +kernel
theorem dX10_edge_140 : decode cX10_edge 140 = .ok (.iastore, 1) := by decide +kernel
theorem dX10_edge_141 : decode cX10_edge 141 = .ok (.aload_n 0, 1) := by decide +kernel
theorem dX10_edge_142 : decode cX10_edge 142 = .ok (.getfield 34, 3) := by decide +kernel
theorem dX10_edge_145 : decode cX10_edge 145 = .ok (.iload 5, 2) := by decide +kernel
theorem dX10_edge_147 : decode cX10_edge 147 = .ok (.iload 7, 2) := by decide +kernel
theorem dX10_edge_149 : decode cX10_edge 149 = .ok (.iastore, 1) := by decide +kernel
theorem dX10_edge_150 : decode cX10_edge 150 = .ok (.iload 8, 2) := by decide +kernel
theorem dX10_edge_152 : decode cX10_edge 152 = .ok (.ireturn, 1) := by decide +kernel
theorem kk_X10_atWage_0 : Cond.fieldLink RX10 190 "PaidBySignsModel" "lowerPress" "I" ∈ wsX10_atWage := by decide +kernel
theorem kk_X10_proves_0 : Cond.fieldLink RX10 17 "PaidBySignsModel" "num" "[I" ∈ wsX10_proves := pm_X10_proves_r1 _ (List.mem_of_getElem? (i := 0) rfl)
theorem kk_X10_proves_1 : Cond.fieldLink RX10 85 "PaidBySignsModel" "presses" "[I" ∈ wsX10_proves := pm_X10_proves_r1 _ (List.mem_of_getElem? (i := 1) rfl)
theorem kk_X10_proves_2 : Cond.fieldLink RX10 31 "PaidBySignsModel" "costs" "[I" ∈ wsX10_proves := pm_X10_proves_r1 _ (List.mem_of_getElem? (i := 2) rfl)
theorem kk_X10_proves_3 : Cond.fieldLink RX10 190 "PaidBySignsModel" "lowerPress" "I" ∈ wsX10_proves := pm_X10_proves_r1 _ (List.mem_of_getElem? (i := 3) rfl)
theorem kk_X10_proves_4 : Cond.fieldLink RX10 37 "PaidBySignsModel" "rates" "[I" ∈ wsX10_proves := pm_X10_proves_r1 _ (List.mem_of_getElem? (i := 4) rfl)
theorem kk_X10_proves_5 : Cond.fieldLink RX10 40 "PaidBySignsModel" "marks" "[I" ∈ wsX10_proves := pm_X10_proves_r1 _ (List.mem_of_getElem? (i := 5) rfl)
theorem kk_X10_mix_0 : Cond.constantLong RX10 405 (1000) ∈ wsX10_mix := by decide +kernel
theorem kk_X10_mix_1 : Cond.fieldLink RX10 88 "PaidBySignsModel" "mixes" "[I" ∈ wsX10_mix := by decide +kernel
theorem kk_X10_same_0 : Cond.fieldLink RX10 17 "PaidBySignsModel" "num" "[I" ∈ wsX10_same := by decide +kernel
theorem kk_X10_same_1 : Cond.fieldLink RX10 31 "PaidBySignsModel" "costs" "[I" ∈ wsX10_same := by decide +kernel
theorem kk_X10_same_2 : Cond.fieldLink RX10 88 "PaidBySignsModel" "mixes" "[I" ∈ wsX10_same := by decide +kernel
theorem kk_X10_edge_0 : Cond.fieldLink RX10 34 "PaidBySignsModel" "chances" "[I" ∈ wsX10_edge := pm_X10_edge_r1 _ (List.mem_of_getElem? (i := 0) rfl)
theorem iw_X10_atWage_X10 : ∀ w ∈ wsX100, w ∈ wsX10_atWage := by decide +kernel
theorem iw_X10_proves_X10 : ∀ w ∈ wsX100, w ∈ wsX10_proves := pw_X10_proves_X10
theorem iw_X10_mix_X10 : ∀ w ∈ wsX100, w ∈ wsX10_mix := by decide +kernel
theorem iw_X10_same_X10 : ∀ w ∈ wsX100, w ∈ wsX10_same := by decide +kernel
theorem iw_X10_edge_X10 : ∀ w ∈ wsX100, w ∈ wsX10_edge := pw_X10_edge_X10
