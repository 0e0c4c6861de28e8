abbrev cX10_seen : ByteArray := prog_12_method_58_code
def yX10_seen : MethodName := ⟨RX10, "seen", "(I)I"⟩
abbrev cX10_bestWork : ByteArray := prog_12_method_59_code
def yX10_bestWork : MethodName := ⟨RX10, "bestWork", "()I"⟩
abbrev cX10_best : ByteArray := prog_12_method_60_code
def yX10_best : MethodName := ⟨RX10, "best", "()I"⟩
abbrev cX10_merged : ByteArray := prog_12_method_61_code
def yX10_merged : MethodName := ⟨RX10, "merged", "(III)I"⟩
abbrev cX10_isDone : ByteArray := prog_12_method_62_code
def yX10_isDone : MethodName := ⟨RX10, "isDone", "(I)Z"⟩
def wsX10_seen_r1 : List Cond := [Cond.fieldLink RX10 31 "PaidBySignsModel" "costs" "[I", Cond.fieldLink RX10 17 "PaidBySignsModel" "num" "[I", Cond.fieldLink RX10 64 "PaidBySignsModel" "wageUp" "[J", Cond.fieldLink RX10 67 "PaidBySignsModel" "wageLow" "[J", Cond.methodLink RX10 253 yX10_isWork, Cond.instanceMethod yX10_isWork, Cond.selects RX10 yX10_isWork yX10_isWork, Cond.initialized RX10, Cond.code yX10_isWork cX10_isWork 2 (some .boolean), Cond.methodLink RX10 174 yX10_in, Cond.static yX10_in, Cond.code yX10_in cX10_in 6 (some .boolean), Cond.methodLink RX10 264 yX10_feel, Cond.instanceMethod yX10_feel, Cond.selects RX10 yX10_feel yX10_feel, Cond.code yX10_feel cX10_feel 6 (some .int), Cond.fieldLink RX10 40 "PaidBySignsModel" "marks" "[I", Cond.fieldLink RX10 37 "PaidBySignsModel" "rates" "[I", Cond.methodLink RX10 318 yX10_wageOf, Cond.instanceMethod yX10_wageOf, Cond.selects RX10 yX10_wageOf yX10_wageOf, Cond.code yX10_wageOf cX10_wageOf 13 none, Cond.methodLink RX10 277 yX10_common, Cond.static yX10_common]
def wsX10_seen_r2 : List Cond := [Cond.code yX10_common cX10_common 10 (some .long), Cond.methodLink RX10 355 yX10_tell, Cond.instanceMethod yX10_tell, Cond.selects RX10 yX10_tell yX10_tell, Cond.code yX10_tell cX10_tell 7 none, Cond.fieldLink RX10 281 "PaidBySignsModel" "upper" "J", Cond.fieldLink RX10 284 "PaidBySignsModel" "lower" "J", Cond.fieldLink RX10 202 "PaidBySignsModel" "hasFraction" "Z"]
def wsX10_seen : List Cond := .code yX10_seen cX10_seen 4 (some .int) :: ((wsX10_seen_r1 ++ wsX10_seen_r2) ++ wsX100)
def wsX10_bestWork_r1 : List Cond := [Cond.fieldLink RX10 17 "PaidBySignsModel" "num" "[I", Cond.fieldLink RX10 28 "PaidBySignsModel" "brings" "[I", Cond.fieldLink RX10 328 "PaidBySignsModel" "costLow" "J", Cond.fieldLink RX10 325 "PaidBySignsModel" "costUp" "J", Cond.fieldLink RX10 362 "PaidBySignsModel" "bestLeftUp" "J", Cond.fieldLink RX10 365 "PaidBySignsModel" "bestLeftLow" "J", Cond.methodLink RX10 349 yX10_eachAlone, Cond.instanceMethod yX10_eachAlone, Cond.selects RX10 yX10_eachAlone yX10_eachAlone, Cond.initialized RX10, Cond.code yX10_eachAlone cX10_eachAlone 2 none, Cond.fieldLink RX10 289 "PaidBySignsModel" "groups" "I", Cond.fieldLink RX10 46 "PaidBySignsModel" "groupOf" "[I", Cond.methodLink RX10 352 yX10_isHad, Cond.instanceMethod yX10_isHad, Cond.selects RX10 yX10_isHad yX10_isHad, Cond.code yX10_isHad cX10_isHad 2 (some .boolean), Cond.fieldLink RX10 322 "PaidBySignsModel" "isFound" "Z", Cond.methodLink RX10 343 yX10_makeBounds, Cond.instanceMethod yX10_makeBounds, Cond.selects RX10 yX10_makeBounds yX10_makeBounds, Cond.code yX10_makeBounds cX10_makeBounds 5 none, Cond.fieldLink RX10 292 "PaidBySignsModel" "bounds" "I", Cond.fieldLink RX10 31 "PaidBySignsModel" "costs" "[I"]
def wsX10_bestWork_r2 : List Cond := [Cond.fieldLink RX10 49 "PaidBySignsModel" "row" "[J", Cond.fieldLink RX10 299 "PaidBySignsModel" "asked" "I", Cond.fieldLink RX10 40 "PaidBySignsModel" "marks" "[I", Cond.methodLink RX10 295 yX10_addBound, Cond.instanceMethod yX10_addBound, Cond.selects RX10 yX10_addBound yX10_addBound, Cond.code yX10_addBound cX10_addBound 4 (some .int), Cond.fieldLink RX10 52 "PaidBySignsModel" "least" "[J", Cond.methodLink RX10 259 yX10_chanceOf, Cond.instanceMethod yX10_chanceOf, Cond.selects RX10 yX10_chanceOf yX10_chanceOf, Cond.code yX10_chanceOf cX10_chanceOf 3 (some .int), Cond.fieldLink RX10 34 "PaidBySignsModel" "chances" "[I", Cond.methodLink RX10 264 yX10_feel, Cond.instanceMethod yX10_feel, Cond.selects RX10 yX10_feel yX10_feel, Cond.code yX10_feel cX10_feel 6 (some .int), Cond.fieldLink RX10 37 "PaidBySignsModel" "rates" "[I", Cond.methodLink RX10 339 yX10_choose, Cond.instanceMethod yX10_choose, Cond.selects RX10 yX10_choose yX10_choose, Cond.code yX10_choose cX10_choose 5 none, Cond.fieldLink RX10 55 "PaidBySignsModel" "chosen" "[I", Cond.methodLink RX10 335 yX10_look]
def wsX10_bestWork_r3 : List Cond := [Cond.instanceMethod yX10_look, Cond.selects RX10 yX10_look yX10_look, Cond.code yX10_look cX10_look 10 none, Cond.fieldLink RX10 61 "PaidBySignsModel" "x" "[J", Cond.fieldLink RX10 310 "PaidBySignsModel" "det" "J", Cond.fieldLink RX10 67 "PaidBySignsModel" "wageLow" "[J", Cond.fieldLink RX10 64 "PaidBySignsModel" "wageUp" "[J", Cond.constantLong RX10 313 (-1), Cond.fieldLink RX10 70 "PaidBySignsModel" "bestUp" "[J", Cond.fieldLink RX10 73 "PaidBySignsModel" "bestLow" "[J", Cond.methodLink RX10 315 yX10_isCorner, Cond.instanceMethod yX10_isCorner, Cond.selects RX10 yX10_isCorner yX10_isCorner, Cond.code yX10_isCorner cX10_isCorner 7 (some .boolean), Cond.methodLink RX10 306 yX10_determinant, Cond.instanceMethod yX10_determinant, Cond.selects RX10 yX10_determinant yX10_determinant, Cond.code yX10_determinant cX10_determinant 4 (some .long), Cond.fieldLink RX10 58 "PaidBySignsModel" "matrix" "[J", Cond.methodLink RX10 302 yX10_minor, Cond.instanceMethod yX10_minor, Cond.selects RX10 yX10_minor yX10_minor, Cond.code yX10_minor cX10_minor 7 (some .long), Cond.methodLink RX10 318 yX10_wageOf]
def wsX10_bestWork_r4 : List Cond := [Cond.instanceMethod yX10_wageOf, Cond.selects RX10 yX10_wageOf yX10_wageOf, Cond.code yX10_wageOf cX10_wageOf 13 none, Cond.methodLink RX10 277 yX10_common, Cond.static yX10_common, Cond.code yX10_common cX10_common 10 (some .long), Cond.methodLink RX10 331 yX10_apart, Cond.static yX10_apart, Cond.code yX10_apart cX10_apart 8 (some .long)]
def wsX10_bestWork : List Cond := .code yX10_bestWork cX10_bestWork 11 (some .int) :: ((wsX10_bestWork_r1 ++ (wsX10_bestWork_r2 ++ (wsX10_bestWork_r3 ++ wsX10_bestWork_r4))) ++ wsX100)
def wsX10_best_r1 : List Cond := [Cond.fieldLink RX10 362 "PaidBySignsModel" "bestLeftUp" "J", Cond.fieldLink RX10 365 "PaidBySignsModel" "bestLeftLow" "J", Cond.methodLink RX10 368 yX10_bestWork, Cond.instanceMethod yX10_bestWork, Cond.selects RX10 yX10_bestWork yX10_bestWork, Cond.initialized RX10, Cond.code yX10_bestWork cX10_bestWork 11 (some .int), Cond.fieldLink RX10 17 "PaidBySignsModel" "num" "[I", Cond.fieldLink RX10 28 "PaidBySignsModel" "brings" "[I", Cond.fieldLink RX10 328 "PaidBySignsModel" "costLow" "J", Cond.fieldLink RX10 325 "PaidBySignsModel" "costUp" "J", Cond.methodLink RX10 349 yX10_eachAlone, Cond.instanceMethod yX10_eachAlone, Cond.selects RX10 yX10_eachAlone yX10_eachAlone, Cond.code yX10_eachAlone cX10_eachAlone 2 none, Cond.fieldLink RX10 289 "PaidBySignsModel" "groups" "I", Cond.fieldLink RX10 46 "PaidBySignsModel" "groupOf" "[I", Cond.methodLink RX10 352 yX10_isHad, Cond.instanceMethod yX10_isHad, Cond.selects RX10 yX10_isHad yX10_isHad, Cond.code yX10_isHad cX10_isHad 2 (some .boolean), Cond.fieldLink RX10 322 "PaidBySignsModel" "isFound" "Z", Cond.methodLink RX10 343 yX10_makeBounds, Cond.instanceMethod yX10_makeBounds]
def wsX10_best_r2 : List Cond := [Cond.selects RX10 yX10_makeBounds yX10_makeBounds, Cond.code yX10_makeBounds cX10_makeBounds 5 none, Cond.fieldLink RX10 292 "PaidBySignsModel" "bounds" "I", Cond.fieldLink RX10 31 "PaidBySignsModel" "costs" "[I", Cond.fieldLink RX10 49 "PaidBySignsModel" "row" "[J", Cond.fieldLink RX10 299 "PaidBySignsModel" "asked" "I", Cond.fieldLink RX10 40 "PaidBySignsModel" "marks" "[I", Cond.methodLink RX10 295 yX10_addBound, Cond.instanceMethod yX10_addBound, Cond.selects RX10 yX10_addBound yX10_addBound, Cond.code yX10_addBound cX10_addBound 4 (some .int), Cond.fieldLink RX10 52 "PaidBySignsModel" "least" "[J", Cond.methodLink RX10 259 yX10_chanceOf, Cond.instanceMethod yX10_chanceOf, Cond.selects RX10 yX10_chanceOf yX10_chanceOf, Cond.code yX10_chanceOf cX10_chanceOf 3 (some .int), Cond.fieldLink RX10 34 "PaidBySignsModel" "chances" "[I", Cond.methodLink RX10 264 yX10_feel, Cond.instanceMethod yX10_feel, Cond.selects RX10 yX10_feel yX10_feel, Cond.code yX10_feel cX10_feel 6 (some .int), Cond.fieldLink RX10 37 "PaidBySignsModel" "rates" "[I", Cond.methodLink RX10 339 yX10_choose, Cond.instanceMethod yX10_choose]
def wsX10_best_r3 : List Cond := [Cond.selects RX10 yX10_choose yX10_choose, Cond.code yX10_choose cX10_choose 5 none, Cond.fieldLink RX10 55 "PaidBySignsModel" "chosen" "[I", Cond.methodLink RX10 335 yX10_look, Cond.instanceMethod yX10_look, Cond.selects RX10 yX10_look yX10_look, Cond.code yX10_look cX10_look 10 none, Cond.fieldLink RX10 61 "PaidBySignsModel" "x" "[J", Cond.fieldLink RX10 310 "PaidBySignsModel" "det" "J", Cond.fieldLink RX10 67 "PaidBySignsModel" "wageLow" "[J", Cond.fieldLink RX10 64 "PaidBySignsModel" "wageUp" "[J", Cond.constantLong RX10 313 (-1), Cond.fieldLink RX10 70 "PaidBySignsModel" "bestUp" "[J", Cond.fieldLink RX10 73 "PaidBySignsModel" "bestLow" "[J", Cond.methodLink RX10 315 yX10_isCorner, Cond.instanceMethod yX10_isCorner, Cond.selects RX10 yX10_isCorner yX10_isCorner, Cond.code yX10_isCorner cX10_isCorner 7 (some .boolean), Cond.methodLink RX10 306 yX10_determinant, Cond.instanceMethod yX10_determinant, Cond.selects RX10 yX10_determinant yX10_determinant, Cond.code yX10_determinant cX10_determinant 4 (some .long), Cond.fieldLink RX10 58 "PaidBySignsModel" "matrix" "[J", Cond.methodLink RX10 302 yX10_minor]
def wsX10_best_r4 : List Cond := [Cond.instanceMethod yX10_minor, Cond.selects RX10 yX10_minor yX10_minor, Cond.code yX10_minor cX10_minor 7 (some .long), Cond.methodLink RX10 318 yX10_wageOf, Cond.instanceMethod yX10_wageOf, Cond.selects RX10 yX10_wageOf yX10_wageOf, Cond.code yX10_wageOf cX10_wageOf 13 none, Cond.methodLink RX10 277 yX10_common, Cond.static yX10_common, Cond.code yX10_common cX10_common 10 (some .long), Cond.methodLink RX10 331 yX10_apart, Cond.static yX10_apart, Cond.code yX10_apart cX10_apart 8 (some .long), Cond.methodLink RX10 355 yX10_tell, Cond.instanceMethod yX10_tell, Cond.selects RX10 yX10_tell yX10_tell, Cond.code yX10_tell cX10_tell 7 none, Cond.fieldLink RX10 281 "PaidBySignsModel" "upper" "J", Cond.fieldLink RX10 284 "PaidBySignsModel" "lower" "J", Cond.fieldLink RX10 202 "PaidBySignsModel" "hasFraction" "Z"]
def wsX10_best : List Cond := .code yX10_best cX10_best 2 (some .int) :: ((wsX10_best_r1 ++ (wsX10_best_r2 ++ (wsX10_best_r3 ++ wsX10_best_r4))) ++ wsX100)
def wsX10_merged_r1 : List Cond := [Cond.fieldLink RX10 289 "PaidBySignsModel" "groups" "I", Cond.fieldLink RX10 17 "PaidBySignsModel" "num" "[I", Cond.fieldLink RX10 46 "PaidBySignsModel" "groupOf" "[I", Cond.fieldLink RX10 325 "PaidBySignsModel" "costUp" "J", Cond.fieldLink RX10 328 "PaidBySignsModel" "costLow" "J", Cond.methodLink RX10 253 yX10_isWork, Cond.instanceMethod yX10_isWork, Cond.selects RX10 yX10_isWork yX10_isWork, Cond.initialized RX10, Cond.code yX10_isWork cX10_isWork 2 (some .boolean), Cond.methodLink RX10 174 yX10_in, Cond.static yX10_in, Cond.code yX10_in cX10_in 6 (some .boolean), Cond.methodLink RX10 256 yX10_isSign, Cond.instanceMethod yX10_isSign, Cond.selects RX10 yX10_isSign yX10_isSign, Cond.code yX10_isSign cX10_isSign 2 (some .boolean), Cond.methodLink RX10 352 yX10_isHad, Cond.instanceMethod yX10_isHad, Cond.selects RX10 yX10_isHad yX10_isHad, Cond.code yX10_isHad cX10_isHad 2 (some .boolean), Cond.fieldLink RX10 322 "PaidBySignsModel" "isFound" "Z", Cond.methodLink RX10 343 yX10_makeBounds, Cond.instanceMethod yX10_makeBounds]
def wsX10_merged_r2 : List Cond := [Cond.selects RX10 yX10_makeBounds yX10_makeBounds, Cond.code yX10_makeBounds cX10_makeBounds 5 none, Cond.fieldLink RX10 292 "PaidBySignsModel" "bounds" "I", Cond.fieldLink RX10 31 "PaidBySignsModel" "costs" "[I", Cond.fieldLink RX10 49 "PaidBySignsModel" "row" "[J", Cond.fieldLink RX10 299 "PaidBySignsModel" "asked" "I", Cond.fieldLink RX10 40 "PaidBySignsModel" "marks" "[I", Cond.methodLink RX10 295 yX10_addBound, Cond.instanceMethod yX10_addBound, Cond.selects RX10 yX10_addBound yX10_addBound, Cond.code yX10_addBound cX10_addBound 4 (some .int), Cond.fieldLink RX10 52 "PaidBySignsModel" "least" "[J", Cond.methodLink RX10 259 yX10_chanceOf, Cond.instanceMethod yX10_chanceOf, Cond.selects RX10 yX10_chanceOf yX10_chanceOf, Cond.code yX10_chanceOf cX10_chanceOf 3 (some .int), Cond.fieldLink RX10 34 "PaidBySignsModel" "chances" "[I", Cond.methodLink RX10 264 yX10_feel, Cond.instanceMethod yX10_feel, Cond.selects RX10 yX10_feel yX10_feel, Cond.code yX10_feel cX10_feel 6 (some .int), Cond.fieldLink RX10 37 "PaidBySignsModel" "rates" "[I", Cond.methodLink RX10 339 yX10_choose, Cond.instanceMethod yX10_choose]
def wsX10_merged_r3 : List Cond := [Cond.selects RX10 yX10_choose yX10_choose, Cond.code yX10_choose cX10_choose 5 none, Cond.fieldLink RX10 55 "PaidBySignsModel" "chosen" "[I", Cond.methodLink RX10 335 yX10_look, Cond.instanceMethod yX10_look, Cond.selects RX10 yX10_look yX10_look, Cond.code yX10_look cX10_look 10 none, Cond.fieldLink RX10 61 "PaidBySignsModel" "x" "[J", Cond.fieldLink RX10 310 "PaidBySignsModel" "det" "J", Cond.fieldLink RX10 67 "PaidBySignsModel" "wageLow" "[J", Cond.fieldLink RX10 64 "PaidBySignsModel" "wageUp" "[J", Cond.constantLong RX10 313 (-1), Cond.fieldLink RX10 70 "PaidBySignsModel" "bestUp" "[J", Cond.fieldLink RX10 73 "PaidBySignsModel" "bestLow" "[J", Cond.methodLink RX10 315 yX10_isCorner, Cond.instanceMethod yX10_isCorner, Cond.selects RX10 yX10_isCorner yX10_isCorner, Cond.code yX10_isCorner cX10_isCorner 7 (some .boolean), Cond.methodLink RX10 306 yX10_determinant, Cond.instanceMethod yX10_determinant, Cond.selects RX10 yX10_determinant yX10_determinant, Cond.code yX10_determinant cX10_determinant 4 (some .long), Cond.fieldLink RX10 58 "PaidBySignsModel" "matrix" "[J", Cond.methodLink RX10 302 yX10_minor]
def wsX10_merged_r4 : List Cond := [Cond.instanceMethod yX10_minor, Cond.selects RX10 yX10_minor yX10_minor, Cond.code yX10_minor cX10_minor 7 (some .long), Cond.methodLink RX10 318 yX10_wageOf, Cond.instanceMethod yX10_wageOf, Cond.selects RX10 yX10_wageOf yX10_wageOf, Cond.code yX10_wageOf cX10_wageOf 13 none, Cond.methodLink RX10 277 yX10_common, Cond.static yX10_common, Cond.code yX10_common cX10_common 10 (some .long), Cond.methodLink RX10 331 yX10_apart, Cond.static yX10_apart, Cond.code yX10_apart cX10_apart 8 (some .long), Cond.methodLink RX10 355 yX10_tell, Cond.instanceMethod yX10_tell, Cond.selects RX10 yX10_tell yX10_tell, Cond.code yX10_tell cX10_tell 7 none, Cond.fieldLink RX10 281 "PaidBySignsModel" "upper" "J", Cond.fieldLink RX10 284 "PaidBySignsModel" "lower" "J", Cond.fieldLink RX10 202 "PaidBySignsModel" "hasFraction" "Z"]
def wsX10_merged : List Cond := .code yX10_merged cX10_merged 7 (some .int) :: ((wsX10_merged_r1 ++ (wsX10_merged_r2 ++ (wsX10_merged_r3 ++ wsX10_merged_r4))) ++ wsX100)
def wsX10_isDone : List Cond := .code yX10_isDone cX10_isDone 8 (some .boolean) :: ([.fieldLink RX10 17 "PaidBySignsModel" "num" "[I", .fieldLink RX10 82 "PaidBySignsModel" "coin" "[I", .fieldLink RX10 31 "PaidBySignsModel" "costs" "[I", .methodLink RX10 259 yX10_chanceOf, .instanceMethod yX10_chanceOf, .selects RX10 yX10_chanceOf yX10_chanceOf, .initialized RX10, .code yX10_chanceOf cX10_chanceOf 3 (some .int), .fieldLink RX10 34 "PaidBySignsModel" "chances" "[I", .methodLink RX10 264 yX10_feel, .instanceMethod yX10_feel, .selects RX10 yX10_feel yX10_feel, .code yX10_feel cX10_feel 6 (some .int), .fieldLink RX10 40 "PaidBySignsModel" "marks" "[I", .fieldLink RX10 37 "PaidBySignsModel" "rates" "[I"] ++ wsX100)
theorem pm_X10_seen_r1 : ∀ w ∈ wsX10_seen_r1, w ∈ wsX10_seen := fun _ h => List.mem_cons_of_mem _ (List.mem_append_left _ (List.mem_append_left _ h))
theorem pm_X10_seen_r2 : ∀ w ∈ wsX10_seen_r2, w ∈ wsX10_seen := fun _ h => List.mem_cons_of_mem _ (List.mem_append_left _ (List.mem_append_right _ (h)))
theorem pw_X10_seen_X10 : ∀ w ∈ wsX100, w ∈ wsX10_seen := fun _ h => List.mem_cons_of_mem _ (List.mem_append_right _ h)
set_option maxRecDepth 20000 in
theorem ggX10_seen_X10_isWork : GoodIn wsX10_seen wsX10_isWork := goodIn_sub (List.forall_mem_cons.mpr ⟨pm_X10_seen_r1 _ (List.mem_of_getElem? (i := 8) rfl), List.forall_mem_append.mpr ⟨List.forall_mem_cons.mpr ⟨pm_X10_seen_r1 _ (List.mem_of_getElem? (i := 1) rfl), List.forall_mem_cons.mpr ⟨pm_X10_seen_r1 _ (List.mem_of_getElem? (i := 9) rfl), List.forall_mem_cons.mpr ⟨pm_X10_seen_r1 _ (List.mem_of_getElem? (i := 10) rfl), List.forall_mem_cons.mpr ⟨pm_X10_seen_r1 _ (List.mem_of_getElem? (i := 7) rfl), List.forall_mem_cons.mpr ⟨pm_X10_seen_r1 _ (List.mem_of_getElem? (i := 11) rfl), fun _ h => absurd h List.not_mem_nil⟩⟩⟩⟩⟩, pw_X10_seen_X10⟩⟩) (by decide +kernel)
set_option maxRecDepth 20000 in
theorem gX10_seen_X10_isWork : GoodIn wsX10_seen (wsV RX10 253 RX10 yX10_isWork wsX10_isWork) := goodIn_app (goodIn_of _ (by decide +kernel)) ggX10_seen_X10_isWork
set_option maxRecDepth 20000 in
theorem ggX10_seen_X10_feel : GoodIn wsX10_seen wsX10_feel := goodIn_sub (List.forall_mem_cons.mpr ⟨pm_X10_seen_r1 _ (List.mem_of_getElem? (i := 15) rfl), List.forall_mem_append.mpr ⟨List.forall_mem_cons.mpr ⟨pm_X10_seen_r1 _ (List.mem_of_getElem? (i := 1) rfl), List.forall_mem_cons.mpr ⟨pm_X10_seen_r1 _ (List.mem_of_getElem? (i := 16) rfl), List.forall_mem_cons.mpr ⟨pm_X10_seen_r1 _ (List.mem_of_getElem? (i := 17) rfl), fun _ h => absurd h List.not_mem_nil⟩⟩⟩, pw_X10_seen_X10⟩⟩) (by decide +kernel)
set_option maxRecDepth 20000 in
theorem gX10_seen_X10_feel : GoodIn wsX10_seen (wsV RX10 264 RX10 yX10_feel wsX10_feel) := goodIn_app (goodIn_of _ (by decide +kernel)) ggX10_seen_X10_feel
set_option maxRecDepth 20000 in
theorem ggX10_seen_X10_wageOf : GoodIn wsX10_seen wsX10_wageOf := goodIn_sub (List.forall_mem_cons.mpr ⟨pm_X10_seen_r1 _ (List.mem_of_getElem? (i := 21) rfl), List.forall_mem_append.mpr ⟨List.forall_mem_cons.mpr ⟨pm_X10_seen_r1 _ (List.mem_of_getElem? (i := 1) rfl), List.forall_mem_cons.mpr ⟨pm_X10_seen_r1 _ (List.mem_of_getElem? (i := 16) rfl), List.forall_mem_cons.mpr ⟨pm_X10_seen_r1 _ (List.mem_of_getElem? (i := 2) rfl), List.forall_mem_cons.mpr ⟨pm_X10_seen_r1 _ (List.mem_of_getElem? (i := 17) rfl), List.forall_mem_cons.mpr ⟨pm_X10_seen_r1 _ (List.mem_of_getElem? (i := 3) rfl), List.forall_mem_cons.mpr ⟨pm_X10_seen_r1 _ (List.mem_of_getElem? (i := 12) rfl), List.forall_mem_cons.mpr ⟨pm_X10_seen_r1 _ (List.mem_of_getElem? (i := 13) rfl), List.forall_mem_cons.mpr ⟨pm_X10_seen_r1 _ (List.mem_of_getElem? (i := 14) rfl), List.forall_mem_cons.mpr ⟨pm_X10_seen_r1 _ (List.mem_of_getElem? (i := 7) rfl), List.forall_mem_cons.mpr ⟨pm_X10_seen_r1 _ (List.mem_of_getElem? (i := 15) rfl), List.forall_mem_cons.mpr ⟨pm_X10_seen_r1 _ (List.mem_of_getElem? (i := 22) rfl), List.forall_mem_cons.mpr ⟨pm_X10_seen_r1 _ (List.mem_of_getElem? (i := 23) rfl), List.forall_mem_cons.mpr ⟨pm_X10_seen_r2 _ (List.mem_of_getElem? (i := 0) rfl), fun _ h => absurd h List.not_mem_nil⟩⟩⟩⟩⟩⟩⟩⟩⟩⟩⟩⟩⟩, pw_X10_seen_X10⟩⟩) (by decide +kernel)
set_option maxRecDepth 20000 in
theorem gX10_seen_X10_wageOf : GoodIn wsX10_seen (wsV RX10 318 RX10 yX10_wageOf wsX10_wageOf) := goodIn_app (goodIn_of _ (by decide +kernel)) ggX10_seen_X10_wageOf
set_option maxRecDepth 20000 in
theorem ggX10_seen_X10_tell : GoodIn wsX10_seen wsX10_tell := goodIn_sub (List.forall_mem_cons.mpr ⟨pm_X10_seen_r2 _ (List.mem_of_getElem? (i := 4) rfl), List.forall_mem_append.mpr ⟨List.forall_mem_cons.mpr ⟨pm_X10_seen_r2 _ (List.mem_of_getElem? (i := 5) rfl), List.forall_mem_cons.mpr ⟨pm_X10_seen_r2 _ (List.mem_of_getElem? (i := 6) rfl), List.forall_mem_cons.mpr ⟨pm_X10_seen_r2 _ (List.mem_of_getElem? (i := 7) rfl), List.forall_mem_cons.mpr ⟨pm_X10_seen_r1 _ (List.mem_of_getElem? (i := 22) rfl), List.forall_mem_cons.mpr ⟨pm_X10_seen_r1 _ (List.mem_of_getElem? (i := 23) rfl), List.forall_mem_cons.mpr ⟨pm_X10_seen_r1 _ (List.mem_of_getElem? (i := 7) rfl), List.forall_mem_cons.mpr ⟨pm_X10_seen_r2 _ (List.mem_of_getElem? (i := 0) rfl), fun _ h => absurd h List.not_mem_nil⟩⟩⟩⟩⟩⟩⟩, pw_X10_seen_X10⟩⟩) (by decide +kernel)
set_option maxRecDepth 20000 in
theorem gX10_seen_X10_tell : GoodIn wsX10_seen (wsV RX10 355 RX10 yX10_tell wsX10_tell) := goodIn_app (goodIn_of _ (by decide +kernel)) ggX10_seen_X10_tell
theorem dX10_seen_0 : decode cX10_seen 0 = .ok (.aload_n 0, 1) := by decide +kernel
theorem dX10_seen_1 : decode cX10_seen 1 = .ok (.iload_n 1, 1) := by decide +kernel
theorem dX10_seen_2 : decode cX10_seen 2 = .ok (.invokevirtual 253, 3) := by decide +kernel
theorem dX10_seen_5 : decode cX10_seen 5 = .ok (.ifCond .ne 6, 3) := by decide +kernel
theorem dX10_seen_8 : decode cX10_seen 8 = .ok (.bipush (-2), 2) := by decide +kernel
theorem dX10_seen_10 : decode cX10_seen 10 = .ok (.ireturn, 1) := by decide +kernel
theorem dX10_seen_11 : decode cX10_seen 11 = .ok (.aload_n 0, 1) := by decide +kernel
theorem dX10_seen_12 : decode cX10_seen 12 = .ok (.getfield 31, 3) := by decide +kernel
theorem dX10_seen_15 : decode cX10_seen 15 = .ok (.iload_n 1, 1) := by decide +kernel
theorem dX10_seen_16 : decode cX10_seen 16 = .ok (.iaload, 1) := by decide +kernel
theorem dX10_seen_17 : decode cX10_seen 17 = .ok (.aload_n 0, 1) := by decide +kernel
theorem dX10_seen_18 : decode cX10_seen 18 = .ok (.getfield 17, 3) := by decide +kernel
theorem dX10_seen_21 : decode cX10_seen 21 = .ok (.iconst 1, 1) := by decide +kernel
theorem dX10_seen_22 : decode cX10_seen 22 = .ok (.iaload, 1) := by decide +kernel
theorem dX10_seen_23 : decode cX10_seen 23 = .ok (.iadd, 1) := by decide +kernel
theorem dX10_seen_24 : decode cX10_seen 24 = .ok (.i2l, 1) := by decide +kernel
theorem dX10_seen_25 : decode cX10_seen 25 = .ok (.lstore_n 2, 1) := by decide +kernel
theorem dX10_seen_26 : decode cX10_seen 26 = .ok (.lload_n 2, 1) := by decide +kernel
theorem dX10_seen_27 : decode cX10_seen 27 = .ok (.aload_n 0, 1) := by decide +kernel
theorem dX10_seen_28 : decode cX10_seen 28 = .ok (.aload_n 0, 1) := by decide +kernel
theorem dX10_seen_29 : decode cX10_seen 29 = .ok (.getfield 17, 3) := by decide +kernel
theorem dX10_seen_32 : decode cX10_seen 32 = .ok (.iconst 2, 1) := by decide +kernel
theorem dX10_seen_33 : decode cX10_seen 33 = .ok (.iaload, 1) := by decide +kernel
theorem dX10_seen_34 : decode cX10_seen 34 = .ok (.invokevirtual 264, 3) := by decide +kernel
theorem dX10_seen_37 : decode cX10_seen 37 = .ok (.i2l, 1) := by decide +kernel
theorem dX10_seen_38 : decode cX10_seen 38 = .ok (.lcmp, 1) := by decide +kernel
theorem dX10_seen_39 : decode cX10_seen 39 = .ok (.ifCond .ge 15, 3) := by decide +kernel
theorem dX10_seen_42 : decode cX10_seen 42 = .ok (.aload_n 0, 1) := by decide +kernel
theorem dX10_seen_43 : decode cX10_seen 43 = .ok (.aload_n 0, 1) := by decide +kernel
theorem dX10_seen_44 : decode cX10_seen 44 = .ok (.getfield 17, 3) := by decide +kernel
theorem dX10_seen_47 : decode cX10_seen 47 = .ok (.iconst 2, 1) := by decide +kernel
theorem dX10_seen_48 : decode cX10_seen 48 = .ok (.iaload, 1) := by decide +kernel
theorem dX10_seen_49 : decode cX10_seen 49 = .ok (.invokevirtual 264, 3) := by decide +kernel
theorem dX10_seen_52 : decode cX10_seen 52 = .ok (.i2l, 1) := by decide +kernel
theorem dX10_seen_53 : decode cX10_seen 53 = .ok (.lstore_n 2, 1) := by decide +kernel
theorem dX10_seen_54 : decode cX10_seen 54 = .ok (.aload_n 0, 1) := by decide +kernel
theorem dX10_seen_55 : decode cX10_seen 55 = .ok (.lload_n 2, 1) := by decide +kernel
theorem dX10_seen_56 : decode cX10_seen 56 = .ok (.lconst 1, 1) := by decide +kernel
theorem dX10_seen_57 : decode cX10_seen 57 = .ok (.iconst 0, 1) := by decide +kernel
theorem dX10_seen_58 : decode cX10_seen 58 = .ok (.invokevirtual 318, 3) := by decide +kernel
theorem dX10_seen_61 : decode cX10_seen 61 = .ok (.aload_n 0, 1) := by decide +kernel
theorem dX10_seen_62 : decode cX10_seen 62 = .ok (.aload_n 0, 1) := by decide +kernel
theorem dX10_seen_63 : decode cX10_seen 63 = .ok (.getfield 64, 3) := by decide +kernel
theorem dX10_seen_66 : decode cX10_seen 66 = .ok (.iconst 0, 1) := by decide +kernel
theorem dX10_seen_67 : decode cX10_seen 67 = .ok (.laload, 1) := by decide +kernel
theorem dX10_seen_68 : decode cX10_seen 68 = .ok (.aload_n 0, 1) := by decide +kernel
theorem dX10_seen_69 : decode cX10_seen 69 = .ok (.getfield 67, 3) := by decide +kernel
theorem dX10_seen_72 : decode cX10_seen 72 = .ok (.iconst 0, 1) := by decide +kernel
theorem dX10_seen_73 : decode cX10_seen 73 = .ok (.laload, 1) := by decide +kernel
theorem dX10_seen_74 : decode cX10_seen 74 = .ok (.invokevirtual 355, 3) := by decide +kernel
theorem dX10_seen_77 : decode cX10_seen 77 = .ok (.iconst 1, 1) := by decide +kernel
theorem dX10_seen_78 : decode cX10_seen 78 = .ok (.ireturn, 1) := by decide +kernel
theorem pm_X10_bestWork_r1 : ∀ w ∈ wsX10_bestWork_r1, w ∈ wsX10_bestWork := fun _ h => List.mem_cons_of_mem _ (List.mem_append_left _ (List.mem_append_left _ h))
theorem pm_X10_bestWork_r2 : ∀ w ∈ wsX10_bestWork_r2, w ∈ wsX10_bestWork := fun _ h => List.mem_cons_of_mem _ (List.mem_append_left _ (List.mem_append_right _ (List.mem_append_left _ h)))
theorem pm_X10_bestWork_r3 : ∀ w ∈ wsX10_bestWork_r3, w ∈ wsX10_bestWork := fun _ h => List.mem_cons_of_mem _ (List.mem_append_left _ (List.mem_append_right _ (List.mem_append_right _ (List.mem_append_left _ h))))
theorem pm_X10_bestWork_r4 : ∀ w ∈ wsX10_bestWork_r4, w ∈ wsX10_bestWork := fun _ h => List.mem_cons_of_mem _ (List.mem_append_left _ (List.mem_append_right _ (List.mem_append_right _ (List.mem_append_right _ (h)))))
theorem pw_X10_bestWork_X10 : ∀ w ∈ wsX100, w ∈ wsX10_bestWork := fun _ h => List.mem_cons_of_mem _ (List.mem_append_right _ h)
set_option maxRecDepth 20000 in
theorem ggX10_bestWork_X10_eachAlone : GoodIn wsX10_bestWork wsX10_eachAlone := goodIn_sub (List.forall_mem_cons.mpr ⟨pm_X10_bestWork_r1 _ (List.mem_of_getElem? (i := 10) rfl), List.forall_mem_append.mpr ⟨List.forall_mem_cons.mpr ⟨pm_X10_bestWork_r1 _ (List.mem_of_getElem? (i := 0) rfl), List.forall_mem_cons.mpr ⟨pm_X10_bestWork_r1 _ (List.mem_of_getElem? (i := 11) rfl), List.forall_mem_cons.mpr ⟨pm_X10_bestWork_r1 _ (List.mem_of_getElem? (i := 12) rfl), fun _ h => absurd h List.not_mem_nil⟩⟩⟩, pw_X10_bestWork_X10⟩⟩) (by decide +kernel)
set_option maxRecDepth 20000 in
theorem gX10_bestWork_X10_eachAlone : GoodIn wsX10_bestWork (wsV RX10 349 RX10 yX10_eachAlone wsX10_eachAlone) := goodIn_app (goodIn_of _ (by decide +kernel)) ggX10_bestWork_X10_eachAlone
set_option maxRecDepth 20000 in
theorem pq_X10_bestWork_X10_isHad_r1 : ∀ w ∈ wsX10_isHad_r1, w ∈ wsX10_bestWork := List.forall_mem_cons.mpr ⟨pm_X10_bestWork_r1 _ (List.mem_of_getElem? (i := 17) rfl), List.forall_mem_cons.mpr ⟨pm_X10_bestWork_r1 _ (List.mem_of_getElem? (i := 18) rfl), List.forall_mem_cons.mpr ⟨pm_X10_bestWork_r1 _ (List.mem_of_getElem? (i := 19) rfl), List.forall_mem_cons.mpr ⟨pm_X10_bestWork_r1 _ (List.mem_of_getElem? (i := 20) rfl), List.forall_mem_cons.mpr ⟨pm_X10_bestWork_r1 _ (List.mem_of_getElem? (i := 9) rfl), List.forall_mem_cons.mpr ⟨pm_X10_bestWork_r1 _ (List.mem_of_getElem? (i := 21) rfl), List.forall_mem_cons.mpr ⟨pm_X10_bestWork_r1 _ (List.mem_of_getElem? (i := 22) rfl), List.forall_mem_cons.mpr ⟨pm_X10_bestWork_r1 _ (List.mem_of_getElem? (i := 0) rfl), List.forall_mem_cons.mpr ⟨pm_X10_bestWork_r1 _ (List.mem_of_getElem? (i := 23) rfl), List.forall_mem_cons.mpr ⟨pm_X10_bestWork_r2 _ (List.mem_of_getElem? (i := 0) rfl), List.forall_mem_cons.mpr ⟨pm_X10_bestWork_r1 _ (List.mem_of_getElem? (i := 12) rfl), List.forall_mem_cons.mpr ⟨pm_X10_bestWork_r1 _ (List.mem_of_getElem? (i := 11) rfl), List.forall_mem_cons.mpr ⟨pm_X10_bestWork_r2 _ (List.mem_of_getElem? (i := 1) rfl), List.forall_mem_cons.mpr ⟨pm_X10_bestWork_r2 _ (List.mem_of_getElem? (i := 2) rfl), List.forall_mem_cons.mpr ⟨pm_X10_bestWork_r2 _ (List.mem_of_getElem? (i := 3) rfl), List.forall_mem_cons.mpr ⟨pm_X10_bestWork_r2 _ (List.mem_of_getElem? (i := 4) rfl), List.forall_mem_cons.mpr ⟨pm_X10_bestWork_r2 _ (List.mem_of_getElem? (i := 5) rfl), List.forall_mem_cons.mpr ⟨pm_X10_bestWork_r2 _ (List.mem_of_getElem? (i := 6) rfl), List.forall_mem_cons.mpr ⟨pm_X10_bestWork_r2 _ (List.mem_of_getElem? (i := 7) rfl), List.forall_mem_cons.mpr ⟨pm_X10_bestWork_r2 _ (List.mem_of_getElem? (i := 8) rfl), List.forall_mem_cons.mpr ⟨pm_X10_bestWork_r2 _ (List.mem_of_getElem? (i := 9) rfl), List.forall_mem_cons.mpr ⟨pm_X10_bestWork_r2 _ (List.mem_of_getElem? (i := 10) rfl), List.forall_mem_cons.mpr ⟨pm_X10_bestWork_r2 _ (List.mem_of_getElem? (i := 11) rfl), List.forall_mem_cons.mpr ⟨pm_X10_bestWork_r2 _ (List.mem_of_getElem? (i := 12) rfl), fun _ h => absurd h List.not_mem_nil⟩⟩⟩⟩⟩⟩⟩⟩⟩⟩⟩⟩⟩⟩⟩⟩⟩⟩⟩⟩⟩⟩⟩⟩
set_option maxRecDepth 20000 in
theorem pq_X10_bestWork_X10_isHad_r2 : ∀ w ∈ wsX10_isHad_r2, w ∈ wsX10_bestWork := List.forall_mem_cons.mpr ⟨pm_X10_bestWork_r2 _ (List.mem_of_getElem? (i := 13) rfl), List.forall_mem_cons.mpr ⟨pm_X10_bestWork_r2 _ (List.mem_of_getElem? (i := 14) rfl), List.forall_mem_cons.mpr ⟨pm_X10_bestWork_r2 _ (List.mem_of_getElem? (i := 15) rfl), List.forall_mem_cons.mpr ⟨pm_X10_bestWork_r2 _ (List.mem_of_getElem? (i := 16) rfl), List.forall_mem_cons.mpr ⟨pm_X10_bestWork_r2 _ (List.mem_of_getElem? (i := 17) rfl), List.forall_mem_cons.mpr ⟨pm_X10_bestWork_r2 _ (List.mem_of_getElem? (i := 18) rfl), List.forall_mem_cons.mpr ⟨pm_X10_bestWork_r2 _ (List.mem_of_getElem? (i := 19) rfl), List.forall_mem_cons.mpr ⟨pm_X10_bestWork_r2 _ (List.mem_of_getElem? (i := 20) rfl), List.forall_mem_cons.mpr ⟨pm_X10_bestWork_r2 _ (List.mem_of_getElem? (i := 21) rfl), List.forall_mem_cons.mpr ⟨pm_X10_bestWork_r2 _ (List.mem_of_getElem? (i := 22) rfl), List.forall_mem_cons.mpr ⟨pm_X10_bestWork_r2 _ (List.mem_of_getElem? (i := 23) rfl), List.forall_mem_cons.mpr ⟨pm_X10_bestWork_r3 _ (List.mem_of_getElem? (i := 0) rfl), List.forall_mem_cons.mpr ⟨pm_X10_bestWork_r3 _ (List.mem_of_getElem? (i := 1) rfl), List.forall_mem_cons.mpr ⟨pm_X10_bestWork_r3 _ (List.mem_of_getElem? (i := 2) rfl), List.forall_mem_cons.mpr ⟨pm_X10_bestWork_r3 _ (List.mem_of_getElem? (i := 3) rfl), List.forall_mem_cons.mpr ⟨pm_X10_bestWork_r3 _ (List.mem_of_getElem? (i := 4) rfl), List.forall_mem_cons.mpr ⟨pm_X10_bestWork_r3 _ (List.mem_of_getElem? (i := 5) rfl), List.forall_mem_cons.mpr ⟨pm_X10_bestWork_r3 _ (List.mem_of_getElem? (i := 6) rfl), List.forall_mem_cons.mpr ⟨pm_X10_bestWork_r1 _ (List.mem_of_getElem? (i := 3) rfl), List.forall_mem_cons.mpr ⟨pm_X10_bestWork_r1 _ (List.mem_of_getElem? (i := 2) rfl), List.forall_mem_cons.mpr ⟨pm_X10_bestWork_r3 _ (List.mem_of_getElem? (i := 7) rfl), List.forall_mem_cons.mpr ⟨pm_X10_bestWork_r3 _ (List.mem_of_getElem? (i := 8) rfl), List.forall_mem_cons.mpr ⟨pm_X10_bestWork_r3 _ (List.mem_of_getElem? (i := 9) rfl), List.forall_mem_cons.mpr ⟨pm_X10_bestWork_r3 _ (List.mem_of_getElem? (i := 10) rfl), fun _ h => absurd h List.not_mem_nil⟩⟩⟩⟩⟩⟩⟩⟩⟩⟩⟩⟩⟩⟩⟩⟩⟩⟩⟩⟩⟩⟩⟩⟩
set_option maxRecDepth 20000 in
theorem pq_X10_bestWork_X10_isHad_r3 : ∀ w ∈ wsX10_isHad_r3, w ∈ wsX10_bestWork := List.forall_mem_cons.mpr ⟨pm_X10_bestWork_r3 _ (List.mem_of_getElem? (i := 11) rfl), List.forall_mem_cons.mpr ⟨pm_X10_bestWork_r3 _ (List.mem_of_getElem? (i := 12) rfl), List.forall_mem_cons.mpr ⟨pm_X10_bestWork_r3 _ (List.mem_of_getElem? (i := 13) rfl), List.forall_mem_cons.mpr ⟨pm_X10_bestWork_r3 _ (List.mem_of_getElem? (i := 14) rfl), List.forall_mem_cons.mpr ⟨pm_X10_bestWork_r3 _ (List.mem_of_getElem? (i := 15) rfl), List.forall_mem_cons.mpr ⟨pm_X10_bestWork_r3 _ (List.mem_of_getElem? (i := 16) rfl), List.forall_mem_cons.mpr ⟨pm_X10_bestWork_r3 _ (List.mem_of_getElem? (i := 17) rfl), List.forall_mem_cons.mpr ⟨pm_X10_bestWork_r3 _ (List.mem_of_getElem? (i := 18) rfl), List.forall_mem_cons.mpr ⟨pm_X10_bestWork_r3 _ (List.mem_of_getElem? (i := 19) rfl), List.forall_mem_cons.mpr ⟨pm_X10_bestWork_r3 _ (List.mem_of_getElem? (i := 20) rfl), List.forall_mem_cons.mpr ⟨pm_X10_bestWork_r3 _ (List.mem_of_getElem? (i := 21) rfl), List.forall_mem_cons.mpr ⟨pm_X10_bestWork_r3 _ (List.mem_of_getElem? (i := 22) rfl), List.forall_mem_cons.mpr ⟨pm_X10_bestWork_r3 _ (List.mem_of_getElem? (i := 23) rfl), List.forall_mem_cons.mpr ⟨pm_X10_bestWork_r4 _ (List.mem_of_getElem? (i := 0) rfl), List.forall_mem_cons.mpr ⟨pm_X10_bestWork_r4 _ (List.mem_of_getElem? (i := 1) rfl), List.forall_mem_cons.mpr ⟨pm_X10_bestWork_r4 _ (List.mem_of_getElem? (i := 2) rfl), List.forall_mem_cons.mpr ⟨pm_X10_bestWork_r4 _ (List.mem_of_getElem? (i := 3) rfl), List.forall_mem_cons.mpr ⟨pm_X10_bestWork_r4 _ (List.mem_of_getElem? (i := 4) rfl), List.forall_mem_cons.mpr ⟨pm_X10_bestWork_r4 _ (List.mem_of_getElem? (i := 5) rfl), List.forall_mem_cons.mpr ⟨pm_X10_bestWork_r4 _ (List.mem_of_getElem? (i := 6) rfl), List.forall_mem_cons.mpr ⟨pm_X10_bestWork_r4 _ (List.mem_of_getElem? (i := 7) rfl), List.forall_mem_cons.mpr ⟨pm_X10_bestWork_r4 _ (List.mem_of_getElem? (i := 8) rfl), fun _ h => absurd h List.not_mem_nil⟩⟩⟩⟩⟩⟩⟩⟩⟩⟩⟩⟩⟩⟩⟩⟩⟩⟩⟩⟩⟩⟩
set_option maxRecDepth 20000 in
theorem ggX10_bestWork_X10_isHad : GoodIn wsX10_bestWork wsX10_isHad := goodIn_sub (List.forall_mem_cons.mpr ⟨pm_X10_bestWork_r1 _ (List.mem_of_getElem? (i := 16) rfl), List.forall_mem_append.mpr ⟨List.forall_mem_append.mpr ⟨pq_X10_bestWork_X10_isHad_r1, List.forall_mem_append.mpr ⟨pq_X10_bestWork_X10_isHad_r2, pq_X10_bestWork_X10_isHad_r3⟩⟩, pw_X10_bestWork_X10⟩⟩) (by decide +kernel)
set_option maxRecDepth 20000 in
theorem gX10_bestWork_X10_isHad : GoodIn wsX10_bestWork (wsV RX10 352 RX10 yX10_isHad wsX10_isHad) := goodIn_app (goodIn_of _ (by decide +kernel)) ggX10_bestWork_X10_isHad
set_option maxRecDepth 20000 in
theorem ggX10_bestWork_X10_chanceOf : GoodIn wsX10_bestWork wsX10_chanceOf := goodIn_sub (List.forall_mem_cons.mpr ⟨pm_X10_bestWork_r2 _ (List.mem_of_getElem? (i := 11) rfl), List.forall_mem_append.mpr ⟨List.forall_mem_cons.mpr ⟨pm_X10_bestWork_r2 _ (List.mem_of_getElem? (i := 12) rfl), fun _ h => absurd h List.not_mem_nil⟩, pw_X10_bestWork_X10⟩⟩) (by decide +kernel)
set_option maxRecDepth 20000 in
theorem gX10_bestWork_X10_chanceOf : GoodIn wsX10_bestWork (wsV RX10 259 RX10 yX10_chanceOf wsX10_chanceOf) := goodIn_app (goodIn_of _ (by decide +kernel)) ggX10_bestWork_X10_chanceOf
set_option maxRecDepth 20000 in
theorem ggX10_bestWork_X10_common : GoodIn wsX10_bestWork wsX10_common := goodIn_sub (List.forall_mem_cons.mpr ⟨pm_X10_bestWork_r4 _ (List.mem_of_getElem? (i := 5) rfl), fun _ h => absurd h List.not_mem_nil⟩) (by decide +kernel)
set_option maxRecDepth 20000 in
theorem gX10_bestWork_X10_common : GoodIn wsX10_bestWork (va_wsS RX10 277 yX10_common wsX10_common) := goodIn_app (goodIn_of _ (by decide +kernel)) ggX10_bestWork_X10_common
set_option maxRecDepth 20000 in
theorem ggX10_bestWork_X10_apart : GoodIn wsX10_bestWork wsX10_apart := goodIn_sub (List.forall_mem_cons.mpr ⟨pm_X10_bestWork_r4 _ (List.mem_of_getElem? (i := 8) rfl), fun _ h => absurd h List.not_mem_nil⟩) (by decide +kernel)
set_option maxRecDepth 20000 in
theorem gX10_bestWork_X10_apart : GoodIn wsX10_bestWork (va_wsS RX10 331 yX10_apart wsX10_apart) := goodIn_app (goodIn_of _ (by decide +kernel)) ggX10_bestWork_X10_apart
theorem dX10_bestWork_0 : decode cX10_bestWork 0 = .ok (.iconst (-1), 1) := by decide +kernel
theorem dX10_bestWork_1 : decode cX10_bestWork 1 = .ok (.istore_n 1, 1) := by decide +kernel
theorem dX10_bestWork_2 : decode cX10_bestWork 2 = .ok (.aload_n 0, 1) := by decide +kernel
theorem dX10_bestWork_3 : decode cX10_bestWork 3 = .ok (.invokevirtual 349, 3) := by decide +kernel
theorem dX10_bestWork_6 : decode cX10_bestWork 6 = .ok (.iconst 0, 1) := by decide +kernel
theorem dX10_bestWork_7 : decode cX10_bestWork 7 = .ok (.istore_n 2, 1) := by decide +kernel
theorem dX10_bestWork_8 : decode cX10_bestWork 8 = .ok (.iload_n 2, 1) := by decide +kernel
theorem dX10_bestWork_9 : decode cX10_bestWork 9 = .ok (.aload_n 0, 1) := by decide +kernel
theorem dX10_bestWork_10 : decode cX10_bestWork 10 = .ok (.getfield 17, 3) := by decide +kernel
theorem dX10_bestWork_13 : decode cX10_bestWork 13 = .ok (.iconst 4, 1) := by decide +kernel
theorem dX10_bestWork_14 : decode cX10_bestWork 14 = .ok (.iaload, 1) := by decide +kernel
theorem dX10_bestWork_15 : decode cX10_bestWork 15 = .ok (.if_icmp .ge 161, 3) := by decide +kernel
theorem dX10_bestWork_18 : decode cX10_bestWork 18 = .ok (.aload_n 0, 1) := by decide +kernel
theorem dX10_bestWork_19 : decode cX10_bestWork 19 = .ok (.iload_n 2, 1) := by decide +kernel
theorem dX10_bestWork_20 : decode cX10_bestWork 20 = .ok (.invokevirtual 352, 3) := by decide +kernel
theorem dX10_bestWork_23 : decode cX10_bestWork 23 = .ok (.ifCond .ne 6, 3) := by decide +kernel
theorem dX10_bestWork_26 : decode cX10_bestWork 26 = .ok (.goto 144, 3) := by decide +kernel
theorem dX10_bestWork_29 : decode cX10_bestWork 29 = .ok (.lconst 0, 1) := by decide +kernel
theorem dX10_bestWork_30 : decode cX10_bestWork 30 = .ok (.lstore_n 3, 1) := by decide +kernel
theorem dX10_bestWork_31 : decode cX10_bestWork 31 = .ok (.iconst 0, 1) := by decide +kernel
theorem dX10_bestWork_32 : decode cX10_bestWork 32 = .ok (.istore 5, 2) := by decide +kernel
theorem dX10_bestWork_34 : decode cX10_bestWork 34 = .ok (.iload 5, 2) := by decide +kernel
theorem dX10_bestWork_36 : decode cX10_bestWork 36 = .ok (.aload_n 0, 1) := by decide +kernel
theorem dX10_bestWork_37 : decode cX10_bestWork 37 = .ok (.getfield 17, 3) := by decide +kernel
theorem dX10_bestWork_40 : decode cX10_bestWork 40 = .ok (.iconst 3, 1) := by decide +kernel
theorem dX10_bestWork_41 : decode cX10_bestWork 41 = .ok (.iaload, 1) := by decide +kernel
theorem dX10_bestWork_42 : decode cX10_bestWork 42 = .ok (.if_icmp .ge 28, 3) := by decide +kernel
theorem dX10_bestWork_45 : decode cX10_bestWork 45 = .ok (.lload_n 3, 1) := by decide +kernel
theorem dX10_bestWork_46 : decode cX10_bestWork 46 = .ok (.aload_n 0, 1) := by decide +kernel
theorem dX10_bestWork_47 : decode cX10_bestWork 47 = .ok (.iload_n 2, 1) := by decide +kernel
theorem dX10_bestWork_48 : decode cX10_bestWork 48 = .ok (.iload 5, 2) := by decide +kernel
theorem dX10_bestWork_50 : decode cX10_bestWork 50 = .ok (.invokevirtual 259, 3) := by decide +kernel
theorem dX10_bestWork_53 : decode cX10_bestWork 53 = .ok (.aload_n 0, 1) := by decide +kernel
theorem dX10_bestWork_54 : decode cX10_bestWork 54 = .ok (.getfield 28, 3) := by decide +kernel
theorem dX10_bestWork_57 : decode cX10_bestWork 57 = .ok (.iload 5, 2) := by decide +kernel
theorem dX10_bestWork_59 : decode cX10_bestWork 59 = .ok (.iaload, 1) := by decide +kernel
theorem dX10_bestWork_60 : decode cX10_bestWork 60 = .ok (.imul, 1) := by decide +kernel
theorem dX10_bestWork_61 : decode cX10_bestWork 61 = .ok (.i2l, 1) := by decide +kernel
theorem dX10_bestWork_62 : decode cX10_bestWork 62 = .ok (.ladd, 1) := by decide +kernel
theorem dX10_bestWork_63 : decode cX10_bestWork 63 = .ok (.lstore_n 3, 1) := by decide +kernel
theorem dX10_bestWork_64 : decode cX10_bestWork 64 = .ok (.iinc 5 1, 3) := by decide +kernel
theorem dX10_bestWork_67 : decode cX10_bestWork 67 = .ok (.goto (-33), 3) := by decide +kernel
theorem dX10_bestWork_70 : decode cX10_bestWork 70 = .ok (.lload_n 3, 1) := by decide +kernel
theorem dX10_bestWork_71 : decode cX10_bestWork 71 = .ok (.aload_n 0, 1) := by decide +kernel
theorem dX10_bestWork_72 : decode cX10_bestWork 72 = .ok (.getfield 328, 3) := by decide +kernel
theorem dX10_bestWork_75 : decode cX10_bestWork 75 = .ok (.lmul, 1) := by decide +kernel
theorem dX10_bestWork_76 : decode cX10_bestWork 76 = .ok (.aload_n 0, 1) := by decide +kernel
theorem dX10_bestWork_77 : decode cX10_bestWork 77 = .ok (.getfield 325, 3) := by decide +kernel
theorem dX10_bestWork_80 : decode cX10_bestWork 80 = .ok (.aload_n 0, 1) := by decide +kernel
theorem dX10_bestWork_81 : decode cX10_bestWork 81 = .ok (.getfield 17, 3) := by decide +kernel
theorem dX10_bestWork_84 : decode cX10_bestWork 84 = .ok (.iconst 0, 1) := by decide +kernel
theorem dX10_bestWork_85 : decode cX10_bestWork 85 = .ok (.iaload, 1) := by decide +kernel
theorem dX10_bestWork_86 : decode cX10_bestWork 86 = .ok (.i2l, 1) := by decide +kernel
theorem dX10_bestWork_87 : decode cX10_bestWork 87 = .ok (.lmul, 1) := by decide +kernel
theorem dX10_bestWork_88 : decode cX10_bestWork 88 = .ok (.lsub, 1) := by decide +kernel
theorem dX10_bestWork_89 : decode cX10_bestWork 89 = .ok (.lstore 5, 2) := by decide +kernel
theorem dX10_bestWork_91 : decode cX10_bestWork 91 = .ok (.aload_n 0, 1) := by decide +kernel
theorem dX10_bestWork_92 : decode cX10_bestWork 92 = .ok (.getfield 328, 3) := by decide +kernel
theorem dX10_bestWork_95 : decode cX10_bestWork 95 = .ok (.aload_n 0, 1) := by decide +kernel
theorem dX10_bestWork_96 : decode cX10_bestWork 96 = .ok (.getfield 17, 3) := by decide +kernel
theorem dX10_bestWork_99 : decode cX10_bestWork 99 = .ok (.iconst 0, 1) := by decide +kernel
theorem dX10_bestWork_100 : decode cX10_bestWork 100 = .ok (.iaload, 1) := by decide +kernel
theorem dX10_bestWork_101 : decode cX10_bestWork 101 = .ok (.i2l, 1) := by decide +kernel
theorem dX10_bestWork_102 : decode cX10_bestWork 102 = .ok (.lmul, 1) := by decide +kernel
theorem dX10_bestWork_103 : decode cX10_bestWork 103 = .ok (.lstore 7, 2) := by decide +kernel
theorem dX10_bestWork_105 : decode cX10_bestWork 105 = .ok (.lload 5, 2) := by decide +kernel
theorem dX10_bestWork_107 : decode cX10_bestWork 107 = .ok (.lload 7, 2) := by decide +kernel
theorem dX10_bestWork_109 : decode cX10_bestWork 109 = .ok (.invokestatic 277, 3) := by decide +kernel
theorem dX10_bestWork_112 : decode cX10_bestWork 112 = .ok (.lstore 9, 2) := by decide +kernel
theorem dX10_bestWork_114 : decode cX10_bestWork 114 = .ok (.lload 5, 2) := by decide +kernel
theorem dX10_bestWork_116 : decode cX10_bestWork 116 = .ok (.lload 9, 2) := by decide +kernel
theorem dX10_bestWork_118 : decode cX10_bestWork 118 = .ok (.ldiv, 1) := by decide +kernel
theorem dX10_bestWork_119 : decode cX10_bestWork 119 = .ok (.lstore 5, 2) := by decide +kernel
theorem dX10_bestWork_121 : decode cX10_bestWork 121 = .ok (.lload 7, 2) := by decide +kernel
theorem dX10_bestWork_123 : decode cX10_bestWork 123 = .ok (.lload 9, 2) := by decide +kernel
theorem dX10_bestWork_125 : decode cX10_bestWork 125 = .ok (.ldiv, 1) := by decide +kernel
theorem dX10_bestWork_126 : decode cX10_bestWork 126 = .ok (.lstore 7, 2) := by decide +kernel
theorem dX10_bestWork_128 : decode cX10_bestWork 128 = .ok (.iload_n 1, 1) := by decide +kernel
theorem dX10_bestWork_129 : decode cX10_bestWork 129 = .ok (.iconst (-1), 1) := by decide +kernel
theorem dX10_bestWork_130 : decode cX10_bestWork 130 = .ok (.if_icmp .eq 26, 3) := by decide +kernel
theorem dX10_bestWork_133 : decode cX10_bestWork 133 = .ok (.lload 5, 2) := by decide +kernel
theorem dX10_bestWork_135 : decode cX10_bestWork 135 = .ok (.lload 7, 2) := by decide +kernel
theorem dX10_bestWork_137 : decode cX10_bestWork 137 = .ok (.aload_n 0, 1) := by decide +kernel
theorem dX10_bestWork_138 : decode cX10_bestWork 138 = .ok (.getfield 362, 3) := by decide +kernel
theorem dX10_bestWork_141 : decode cX10_bestWork 141 = .ok (.aload_n 0, 1) := by decide +kernel
theorem dX10_bestWork_142 : decode cX10_bestWork 142 = .ok (.getfield 365, 3) := by decide +kernel
theorem dX10_bestWork_145 : decode cX10_bestWork 145 = .ok (.invokestatic 331, 3) := by decide +kernel
theorem dX10_bestWork_148 : decode cX10_bestWork 148 = .ok (.lconst 0, 1) := by decide +kernel
theorem dX10_bestWork_149 : decode cX10_bestWork 149 = .ok (.lcmp, 1) := by decide +kernel
theorem dX10_bestWork_150 : decode cX10_bestWork 150 = .ok (.ifCond .gt 6, 3) := by decide +kernel
theorem dX10_bestWork_153 : decode cX10_bestWork 153 = .ok (.goto 17, 3) := by decide +kernel
theorem dX10_bestWork_156 : decode cX10_bestWork 156 = .ok (.iload_n 2, 1) := by decide +kernel
theorem dX10_bestWork_157 : decode cX10_bestWork 157 = .ok (.istore_n 1, 1) := by decide +kernel
theorem dX10_bestWork_158 : decode cX10_bestWork 158 = .ok (.aload_n 0, 1) := by decide +kernel
theorem dX10_bestWork_159 : decode cX10_bestWork 159 = .ok (.lload 5, 2) := by decide +kernel
theorem dX10_bestWork_161 : decode cX10_bestWork 161 = .ok (.putfield 362, 3) := by decide +kernel
theorem dX10_bestWork_164 : decode cX10_bestWork 164 = .ok (.aload_n 0, 1) := by decide +kernel
theorem dX10_bestWork_165 : decode cX10_bestWork 165 = .ok (.lload 7, 2) := by decide +kernel
theorem dX10_bestWork_167 : decode cX10_bestWork 167 = .ok (.putfield 365, 3) := by decide +kernel
theorem dX10_bestWork_170 : decode cX10_bestWork 170 = .ok (.iinc 2 1, 3) := by decide +kernel
theorem dX10_bestWork_173 : decode cX10_bestWork 173 = .ok (.goto (-165), 3) := by decide +kernel
theorem dX10_bestWork_176 : decode cX10_bestWork 176 = .ok (.iload_n 1, 1) := by decide +kernel
theorem dX10_bestWork_177 : decode cX10_bestWork 177 = .ok (.ireturn, 1) := by decide +kernel
theorem pm_X10_best_r1 : ∀ w ∈ wsX10_best_r1, w ∈ wsX10_best := fun _ h => List.mem_cons_of_mem _ (List.mem_append_left _ (List.mem_append_left _ h))
theorem pm_X10_best_r2 : ∀ w ∈ wsX10_best_r2, w ∈ wsX10_best := fun _ h => List.mem_cons_of_mem _ (List.mem_append_left _ (List.mem_append_right _ (List.mem_append_left _ h)))
theorem pm_X10_best_r3 : ∀ w ∈ wsX10_best_r3, w ∈ wsX10_best := fun _ h => List.mem_cons_of_mem _ (List.mem_append_left _ (List.mem_append_right _ (List.mem_append_right _ (List.mem_append_left _ h))))
theorem pm_X10_best_r4 : ∀ w ∈ wsX10_best_r4, w ∈ wsX10_best := fun _ h => List.mem_cons_of_mem _ (List.mem_append_left _ (List.mem_append_right _ (List.mem_append_right _ (List.mem_append_right _ (h)))))
theorem pw_X10_best_X10 : ∀ w ∈ wsX100, w ∈ wsX10_best := fun _ h => List.mem_cons_of_mem _ (List.mem_append_right _ h)
set_option maxRecDepth 20000 in
theorem pq_X10_best_X10_bestWork_r1 : ∀ w ∈ wsX10_bestWork_r1, w ∈ wsX10_best := List.forall_mem_cons.mpr ⟨pm_X10_best_r1 _ (List.mem_of_getElem? (i := 7) rfl), List.forall_mem_cons.mpr ⟨pm_X10_best_r1 _ (List.mem_of_getElem? (i := 8) rfl), List.forall_mem_cons.mpr ⟨pm_X10_best_r1 _ (List.mem_of_getElem? (i := 9) rfl), List.forall_mem_cons.mpr ⟨pm_X10_best_r1 _ (List.mem_of_getElem? (i := 10) rfl), List.forall_mem_cons.mpr ⟨pm_X10_best_r1 _ (List.mem_of_getElem? (i := 0) rfl), List.forall_mem_cons.mpr ⟨pm_X10_best_r1 _ (List.mem_of_getElem? (i := 1) rfl), List.forall_mem_cons.mpr ⟨pm_X10_best_r1 _ (List.mem_of_getElem? (i := 11) rfl), List.forall_mem_cons.mpr ⟨pm_X10_best_r1 _ (List.mem_of_getElem? (i := 12) rfl), List.forall_mem_cons.mpr ⟨pm_X10_best_r1 _ (List.mem_of_getElem? (i := 13) rfl), List.forall_mem_cons.mpr ⟨pm_X10_best_r1 _ (List.mem_of_getElem? (i := 5) rfl), List.forall_mem_cons.mpr ⟨pm_X10_best_r1 _ (List.mem_of_getElem? (i := 14) rfl), List.forall_mem_cons.mpr ⟨pm_X10_best_r1 _ (List.mem_of_getElem? (i := 15) rfl), List.forall_mem_cons.mpr ⟨pm_X10_best_r1 _ (List.mem_of_getElem? (i := 16) rfl), List.forall_mem_cons.mpr ⟨pm_X10_best_r1 _ (List.mem_of_getElem? (i := 17) rfl), List.forall_mem_cons.mpr ⟨pm_X10_best_r1 _ (List.mem_of_getElem? (i := 18) rfl), List.forall_mem_cons.mpr ⟨pm_X10_best_r1 _ (List.mem_of_getElem? (i := 19) rfl), List.forall_mem_cons.mpr ⟨pm_X10_best_r1 _ (List.mem_of_getElem? (i := 20) rfl), List.forall_mem_cons.mpr ⟨pm_X10_best_r1 _ (List.mem_of_getElem? (i := 21) rfl), List.forall_mem_cons.mpr ⟨pm_X10_best_r1 _ (List.mem_of_getElem? (i := 22) rfl), List.forall_mem_cons.mpr ⟨pm_X10_best_r1 _ (List.mem_of_getElem? (i := 23) rfl), List.forall_mem_cons.mpr ⟨pm_X10_best_r2 _ (List.mem_of_getElem? (i := 0) rfl), List.forall_mem_cons.mpr ⟨pm_X10_best_r2 _ (List.mem_of_getElem? (i := 1) rfl), List.forall_mem_cons.mpr ⟨pm_X10_best_r2 _ (List.mem_of_getElem? (i := 2) rfl), List.forall_mem_cons.mpr ⟨pm_X10_best_r2 _ (List.mem_of_getElem? (i := 3) rfl), fun _ h => absurd h List.not_mem_nil⟩⟩⟩⟩⟩⟩⟩⟩⟩⟩⟩⟩⟩⟩⟩⟩⟩⟩⟩⟩⟩⟩⟩⟩
set_option maxRecDepth 20000 in
theorem pq_X10_best_X10_bestWork_r2 : ∀ w ∈ wsX10_bestWork_r2, w ∈ wsX10_best := List.forall_mem_cons.mpr ⟨pm_X10_best_r2 _ (List.mem_of_getElem? (i := 4) rfl), List.forall_mem_cons.mpr ⟨pm_X10_best_r2 _ (List.mem_of_getElem? (i := 5) rfl), List.forall_mem_cons.mpr ⟨pm_X10_best_r2 _ (List.mem_of_getElem? (i := 6) rfl), List.forall_mem_cons.mpr ⟨pm_X10_best_r2 _ (List.mem_of_getElem? (i := 7) rfl), List.forall_mem_cons.mpr ⟨pm_X10_best_r2 _ (List.mem_of_getElem? (i := 8) rfl), List.forall_mem_cons.mpr ⟨pm_X10_best_r2 _ (List.mem_of_getElem? (i := 9) rfl), List.forall_mem_cons.mpr ⟨pm_X10_best_r2 _ (List.mem_of_getElem? (i := 10) rfl), List.forall_mem_cons.mpr ⟨pm_X10_best_r2 _ (List.mem_of_getElem? (i := 11) rfl), List.forall_mem_cons.mpr ⟨pm_X10_best_r2 _ (List.mem_of_getElem? (i := 12) rfl), List.forall_mem_cons.mpr ⟨pm_X10_best_r2 _ (List.mem_of_getElem? (i := 13) rfl), List.forall_mem_cons.mpr ⟨pm_X10_best_r2 _ (List.mem_of_getElem? (i := 14) rfl), List.forall_mem_cons.mpr ⟨pm_X10_best_r2 _ (List.mem_of_getElem? (i := 15) rfl), List.forall_mem_cons.mpr ⟨pm_X10_best_r2 _ (List.mem_of_getElem? (i := 16) rfl), List.forall_mem_cons.mpr ⟨pm_X10_best_r2 _ (List.mem_of_getElem? (i := 17) rfl), List.forall_mem_cons.mpr ⟨pm_X10_best_r2 _ (List.mem_of_getElem? (i := 18) rfl), List.forall_mem_cons.mpr ⟨pm_X10_best_r2 _ (List.mem_of_getElem? (i := 19) rfl), List.forall_mem_cons.mpr ⟨pm_X10_best_r2 _ (List.mem_of_getElem? (i := 20) rfl), List.forall_mem_cons.mpr ⟨pm_X10_best_r2 _ (List.mem_of_getElem? (i := 21) rfl), List.forall_mem_cons.mpr ⟨pm_X10_best_r2 _ (List.mem_of_getElem? (i := 22) rfl), List.forall_mem_cons.mpr ⟨pm_X10_best_r2 _ (List.mem_of_getElem? (i := 23) rfl), List.forall_mem_cons.mpr ⟨pm_X10_best_r3 _ (List.mem_of_getElem? (i := 0) rfl), List.forall_mem_cons.mpr ⟨pm_X10_best_r3 _ (List.mem_of_getElem? (i := 1) rfl), List.forall_mem_cons.mpr ⟨pm_X10_best_r3 _ (List.mem_of_getElem? (i := 2) rfl), List.forall_mem_cons.mpr ⟨pm_X10_best_r3 _ (List.mem_of_getElem? (i := 3) rfl), fun _ h => absurd h List.not_mem_nil⟩⟩⟩⟩⟩⟩⟩⟩⟩⟩⟩⟩⟩⟩⟩⟩⟩⟩⟩⟩⟩⟩⟩⟩
set_option maxRecDepth 20000 in
theorem pq_X10_best_X10_bestWork_r3 : ∀ w ∈ wsX10_bestWork_r3, w ∈ wsX10_best := List.forall_mem_cons.mpr ⟨pm_X10_best_r3 _ (List.mem_of_getElem? (i := 4) rfl), List.forall_mem_cons.mpr ⟨pm_X10_best_r3 _ (List.mem_of_getElem? (i := 5) rfl), List.forall_mem_cons.mpr ⟨pm_X10_best_r3 _ (List.mem_of_getElem? (i := 6) rfl), List.forall_mem_cons.mpr ⟨pm_X10_best_r3 _ (List.mem_of_getElem? (i := 7) rfl), List.forall_mem_cons.mpr ⟨pm_X10_best_r3 _ (List.mem_of_getElem? (i := 8) rfl), List.forall_mem_cons.mpr ⟨pm_X10_best_r3 _ (List.mem_of_getElem? (i := 9) rfl), List.forall_mem_cons.mpr ⟨pm_X10_best_r3 _ (List.mem_of_getElem? (i := 10) rfl), List.forall_mem_cons.mpr ⟨pm_X10_best_r3 _ (List.mem_of_getElem? (i := 11) rfl), List.forall_mem_cons.mpr ⟨pm_X10_best_r3 _ (List.mem_of_getElem? (i := 12) rfl), List.forall_mem_cons.mpr ⟨pm_X10_best_r3 _ (List.mem_of_getElem? (i := 13) rfl), List.forall_mem_cons.mpr ⟨pm_X10_best_r3 _ (List.mem_of_getElem? (i := 14) rfl), List.forall_mem_cons.mpr ⟨pm_X10_best_r3 _ (List.mem_of_getElem? (i := 15) rfl), List.forall_mem_cons.mpr ⟨pm_X10_best_r3 _ (List.mem_of_getElem? (i := 16) rfl), List.forall_mem_cons.mpr ⟨pm_X10_best_r3 _ (List.mem_of_getElem? (i := 17) rfl), List.forall_mem_cons.mpr ⟨pm_X10_best_r3 _ (List.mem_of_getElem? (i := 18) rfl), List.forall_mem_cons.mpr ⟨pm_X10_best_r3 _ (List.mem_of_getElem? (i := 19) rfl), List.forall_mem_cons.mpr ⟨pm_X10_best_r3 _ (List.mem_of_getElem? (i := 20) rfl), List.forall_mem_cons.mpr ⟨pm_X10_best_r3 _ (List.mem_of_getElem? (i := 21) rfl), List.forall_mem_cons.mpr ⟨pm_X10_best_r3 _ (List.mem_of_getElem? (i := 22) rfl), List.forall_mem_cons.mpr ⟨pm_X10_best_r3 _ (List.mem_of_getElem? (i := 23) rfl), List.forall_mem_cons.mpr ⟨pm_X10_best_r4 _ (List.mem_of_getElem? (i := 0) rfl), List.forall_mem_cons.mpr ⟨pm_X10_best_r4 _ (List.mem_of_getElem? (i := 1) rfl), List.forall_mem_cons.mpr ⟨pm_X10_best_r4 _ (List.mem_of_getElem? (i := 2) rfl), List.forall_mem_cons.mpr ⟨pm_X10_best_r4 _ (List.mem_of_getElem? (i := 3) rfl), fun _ h => absurd h List.not_mem_nil⟩⟩⟩⟩⟩⟩⟩⟩⟩⟩⟩⟩⟩⟩⟩⟩⟩⟩⟩⟩⟩⟩⟩⟩
set_option maxRecDepth 20000 in
theorem pq_X10_best_X10_bestWork_r4 : ∀ w ∈ wsX10_bestWork_r4, w ∈ wsX10_best := List.forall_mem_cons.mpr ⟨pm_X10_best_r4 _ (List.mem_of_getElem? (i := 4) rfl), List.forall_mem_cons.mpr ⟨pm_X10_best_r4 _ (List.mem_of_getElem? (i := 5) rfl), List.forall_mem_cons.mpr ⟨pm_X10_best_r4 _ (List.mem_of_getElem? (i := 6) rfl), List.forall_mem_cons.mpr ⟨pm_X10_best_r4 _ (List.mem_of_getElem? (i := 7) rfl), List.forall_mem_cons.mpr ⟨pm_X10_best_r4 _ (List.mem_of_getElem? (i := 8) rfl), List.forall_mem_cons.mpr ⟨pm_X10_best_r4 _ (List.mem_of_getElem? (i := 9) rfl), List.forall_mem_cons.mpr ⟨pm_X10_best_r4 _ (List.mem_of_getElem? (i := 10) rfl), List.forall_mem_cons.mpr ⟨pm_X10_best_r4 _ (List.mem_of_getElem? (i := 11) rfl), List.forall_mem_cons.mpr ⟨pm_X10_best_r4 _ (List.mem_of_getElem? (i := 12) rfl), fun _ h => absurd h List.not_mem_nil⟩⟩⟩⟩⟩⟩⟩⟩⟩
set_option maxRecDepth 20000 in
theorem ggX10_best_X10_bestWork : GoodIn wsX10_best wsX10_bestWork := goodIn_sub (List.forall_mem_cons.mpr ⟨pm_X10_best_r1 _ (List.mem_of_getElem? (i := 6) rfl), List.forall_mem_append.mpr ⟨List.forall_mem_append.mpr ⟨pq_X10_best_X10_bestWork_r1, List.forall_mem_append.mpr ⟨pq_X10_best_X10_bestWork_r2, List.forall_mem_append.mpr ⟨pq_X10_best_X10_bestWork_r3, pq_X10_best_X10_bestWork_r4⟩⟩⟩, pw_X10_best_X10⟩⟩) (by decide +kernel)
set_option maxRecDepth 20000 in
theorem gX10_best_X10_bestWork : GoodIn wsX10_best (wsV RX10 368 RX10 yX10_bestWork wsX10_bestWork) := goodIn_app (goodIn_of _ (by decide +kernel)) ggX10_best_X10_bestWork
set_option maxRecDepth 20000 in
theorem ggX10_best_X10_tell : GoodIn wsX10_best wsX10_tell := goodIn_sub (List.forall_mem_cons.mpr ⟨pm_X10_best_r4 _ (List.mem_of_getElem? (i := 16) rfl), List.forall_mem_append.mpr ⟨List.forall_mem_cons.mpr ⟨pm_X10_best_r4 _ (List.mem_of_getElem? (i := 17) rfl), List.forall_mem_cons.mpr ⟨pm_X10_best_r4 _ (List.mem_of_getElem? (i := 18) rfl), List.forall_mem_cons.mpr ⟨pm_X10_best_r4 _ (List.mem_of_getElem? (i := 19) rfl), List.forall_mem_cons.mpr ⟨pm_X10_best_r4 _ (List.mem_of_getElem? (i := 7) rfl), List.forall_mem_cons.mpr ⟨pm_X10_best_r4 _ (List.mem_of_getElem? (i := 8) rfl), List.forall_mem_cons.mpr ⟨pm_X10_best_r1 _ (List.mem_of_getElem? (i := 5) rfl), List.forall_mem_cons.mpr ⟨pm_X10_best_r4 _ (List.mem_of_getElem? (i := 9) rfl), fun _ h => absurd h List.not_mem_nil⟩⟩⟩⟩⟩⟩⟩, pw_X10_best_X10⟩⟩) (by decide +kernel)
set_option maxRecDepth 20000 in
theorem gX10_best_X10_tell : GoodIn wsX10_best (wsV RX10 355 RX10 yX10_tell wsX10_tell) := goodIn_app (goodIn_of _ (by decide +kernel)) ggX10_best_X10_tell
theorem dX10_best_0 : decode cX10_best 0 = .ok (.aload_n 0, 1) := by decide +kernel
theorem dX10_best_1 : decode cX10_best 1 = .ok (.invokevirtual 368, 3) := by decide +kernel
theorem dX10_best_4 : decode cX10_best 4 = .ok (.istore_n 1, 1) := by decide +kernel
theorem dX10_best_5 : decode cX10_best 5 = .ok (.iload_n 1, 1) := by decide +kernel
theorem dX10_best_6 : decode cX10_best 6 = .ok (.iconst (-1), 1) := by decide +kernel
theorem dX10_best_7 : decode cX10_best 7 = .ok (.if_icmp .eq 15, 3) := by decide +kernel
theorem dX10_best_10 : decode cX10_best 10 = .ok (.aload_n 0, 1) := by decide +kernel
theorem dX10_best_11 : decode cX10_best 11 = .ok (.aload_n 0, 1) := by decide +kernel
theorem dX10_best_12 : decode cX10_best 12 = .ok (.getfield 362, 3) := by decide +kernel
theorem dX10_best_15 : decode cX10_best 15 = .ok (.aload_n 0, 1) := by decide +kernel
theorem dX10_best_16 : decode cX10_best 16 = .ok (.getfield 365, 3) := by decide +kernel
theorem dX10_best_19 : decode cX10_best 19 = .ok (.invokevirtual 355, 3) := by decide +kernel
theorem dX10_best_22 : decode cX10_best 22 = .ok (.iload_n 1, 1) := by decide +kernel
theorem dX10_best_23 : decode cX10_best 23 = .ok (.ireturn, 1) := by decide +kernel
theorem pm_X10_merged_r1 : ∀ w ∈ wsX10_merged_r1, w ∈ wsX10_merged := fun _ h => List.mem_cons_of_mem _ (List.mem_append_left _ (List.mem_append_left _ h))
theorem pm_X10_merged_r2 : ∀ w ∈ wsX10_merged_r2, w ∈ wsX10_merged := fun _ h => List.mem_cons_of_mem _ (List.mem_append_left _ (List.mem_append_right _ (List.mem_append_left _ h)))
theorem pm_X10_merged_r3 : ∀ w ∈ wsX10_merged_r3, w ∈ wsX10_merged := fun _ h => List.mem_cons_of_mem _ (List.mem_append_left _ (List.mem_append_right _ (List.mem_append_right _ (List.mem_append_left _ h))))
theorem pm_X10_merged_r4 : ∀ w ∈ wsX10_merged_r4, w ∈ wsX10_merged := fun _ h => List.mem_cons_of_mem _ (List.mem_append_left _ (List.mem_append_right _ (List.mem_append_right _ (List.mem_append_right _ (h)))))
theorem pw_X10_merged_X10 : ∀ w ∈ wsX100, w ∈ wsX10_merged := fun _ h => List.mem_cons_of_mem _ (List.mem_append_right _ h)
set_option maxRecDepth 20000 in
theorem ggX10_merged_X10_isWork : GoodIn wsX10_merged wsX10_isWork := goodIn_sub (List.forall_mem_cons.mpr ⟨pm_X10_merged_r1 _ (List.mem_of_getElem? (i := 9) rfl), List.forall_mem_append.mpr ⟨List.forall_mem_cons.mpr ⟨pm_X10_merged_r1 _ (List.mem_of_getElem? (i := 1) rfl), List.forall_mem_cons.mpr ⟨pm_X10_merged_r1 _ (List.mem_of_getElem? (i := 10) rfl), List.forall_mem_cons.mpr ⟨pm_X10_merged_r1 _ (List.mem_of_getElem? (i := 11) rfl), List.forall_mem_cons.mpr ⟨pm_X10_merged_r1 _ (List.mem_of_getElem? (i := 8) rfl), List.forall_mem_cons.mpr ⟨pm_X10_merged_r1 _ (List.mem_of_getElem? (i := 12) rfl), fun _ h => absurd h List.not_mem_nil⟩⟩⟩⟩⟩, pw_X10_merged_X10⟩⟩) (by decide +kernel)
set_option maxRecDepth 20000 in
theorem gX10_merged_X10_isWork : GoodIn wsX10_merged (wsV RX10 253 RX10 yX10_isWork wsX10_isWork) := goodIn_app (goodIn_of _ (by decide +kernel)) ggX10_merged_X10_isWork
set_option maxRecDepth 20000 in
theorem ggX10_merged_X10_isSign : GoodIn wsX10_merged wsX10_isSign := goodIn_sub (List.forall_mem_cons.mpr ⟨pm_X10_merged_r1 _ (List.mem_of_getElem? (i := 16) rfl), List.forall_mem_append.mpr ⟨List.forall_mem_cons.mpr ⟨pm_X10_merged_r1 _ (List.mem_of_getElem? (i := 1) rfl), List.forall_mem_cons.mpr ⟨pm_X10_merged_r1 _ (List.mem_of_getElem? (i := 10) rfl), List.forall_mem_cons.mpr ⟨pm_X10_merged_r1 _ (List.mem_of_getElem? (i := 11) rfl), List.forall_mem_cons.mpr ⟨pm_X10_merged_r1 _ (List.mem_of_getElem? (i := 8) rfl), List.forall_mem_cons.mpr ⟨pm_X10_merged_r1 _ (List.mem_of_getElem? (i := 12) rfl), fun _ h => absurd h List.not_mem_nil⟩⟩⟩⟩⟩, pw_X10_merged_X10⟩⟩) (by decide +kernel)
set_option maxRecDepth 20000 in
theorem gX10_merged_X10_isSign : GoodIn wsX10_merged (wsV RX10 256 RX10 yX10_isSign wsX10_isSign) := goodIn_app (goodIn_of _ (by decide +kernel)) ggX10_merged_X10_isSign
set_option maxRecDepth 20000 in
theorem pq_X10_merged_X10_isHad_r1 : ∀ w ∈ wsX10_isHad_r1, w ∈ wsX10_merged := List.forall_mem_cons.mpr ⟨pm_X10_merged_r1 _ (List.mem_of_getElem? (i := 21) rfl), List.forall_mem_cons.mpr ⟨pm_X10_merged_r1 _ (List.mem_of_getElem? (i := 22) rfl), List.forall_mem_cons.mpr ⟨pm_X10_merged_r1 _ (List.mem_of_getElem? (i := 23) rfl), List.forall_mem_cons.mpr ⟨pm_X10_merged_r2 _ (List.mem_of_getElem? (i := 0) rfl), List.forall_mem_cons.mpr ⟨pm_X10_merged_r1 _ (List.mem_of_getElem? (i := 8) rfl), List.forall_mem_cons.mpr ⟨pm_X10_merged_r2 _ (List.mem_of_getElem? (i := 1) rfl), List.forall_mem_cons.mpr ⟨pm_X10_merged_r2 _ (List.mem_of_getElem? (i := 2) rfl), List.forall_mem_cons.mpr ⟨pm_X10_merged_r1 _ (List.mem_of_getElem? (i := 1) rfl), List.forall_mem_cons.mpr ⟨pm_X10_merged_r2 _ (List.mem_of_getElem? (i := 3) rfl), List.forall_mem_cons.mpr ⟨pm_X10_merged_r2 _ (List.mem_of_getElem? (i := 4) rfl), List.forall_mem_cons.mpr ⟨pm_X10_merged_r1 _ (List.mem_of_getElem? (i := 2) rfl), List.forall_mem_cons.mpr ⟨pm_X10_merged_r1 _ (List.mem_of_getElem? (i := 0) rfl), List.forall_mem_cons.mpr ⟨pm_X10_merged_r2 _ (List.mem_of_getElem? (i := 5) rfl), List.forall_mem_cons.mpr ⟨pm_X10_merged_r2 _ (List.mem_of_getElem? (i := 6) rfl), List.forall_mem_cons.mpr ⟨pm_X10_merged_r2 _ (List.mem_of_getElem? (i := 7) rfl), List.forall_mem_cons.mpr ⟨pm_X10_merged_r2 _ (List.mem_of_getElem? (i := 8) rfl), List.forall_mem_cons.mpr ⟨pm_X10_merged_r2 _ (List.mem_of_getElem? (i := 9) rfl), List.forall_mem_cons.mpr ⟨pm_X10_merged_r2 _ (List.mem_of_getElem? (i := 10) rfl), List.forall_mem_cons.mpr ⟨pm_X10_merged_r2 _ (List.mem_of_getElem? (i := 11) rfl), List.forall_mem_cons.mpr ⟨pm_X10_merged_r2 _ (List.mem_of_getElem? (i := 12) rfl), List.forall_mem_cons.mpr ⟨pm_X10_merged_r2 _ (List.mem_of_getElem? (i := 13) rfl), List.forall_mem_cons.mpr ⟨pm_X10_merged_r2 _ (List.mem_of_getElem? (i := 14) rfl), List.forall_mem_cons.mpr ⟨pm_X10_merged_r2 _ (List.mem_of_getElem? (i := 15) rfl), List.forall_mem_cons.mpr ⟨pm_X10_merged_r2 _ (List.mem_of_getElem? (i := 16) rfl), fun _ h => absurd h List.not_mem_nil⟩⟩⟩⟩⟩⟩⟩⟩⟩⟩⟩⟩⟩⟩⟩⟩⟩⟩⟩⟩⟩⟩⟩⟩
set_option maxRecDepth 20000 in
theorem pq_X10_merged_X10_isHad_r2 : ∀ w ∈ wsX10_isHad_r2, w ∈ wsX10_merged := List.forall_mem_cons.mpr ⟨pm_X10_merged_r2 _ (List.mem_of_getElem? (i := 17) rfl), List.forall_mem_cons.mpr ⟨pm_X10_merged_r2 _ (List.mem_of_getElem? (i := 18) rfl), List.forall_mem_cons.mpr ⟨pm_X10_merged_r2 _ (List.mem_of_getElem? (i := 19) rfl), List.forall_mem_cons.mpr ⟨pm_X10_merged_r2 _ (List.mem_of_getElem? (i := 20) rfl), List.forall_mem_cons.mpr ⟨pm_X10_merged_r2 _ (List.mem_of_getElem? (i := 21) rfl), List.forall_mem_cons.mpr ⟨pm_X10_merged_r2 _ (List.mem_of_getElem? (i := 22) rfl), List.forall_mem_cons.mpr ⟨pm_X10_merged_r2 _ (List.mem_of_getElem? (i := 23) rfl), List.forall_mem_cons.mpr ⟨pm_X10_merged_r3 _ (List.mem_of_getElem? (i := 0) rfl), List.forall_mem_cons.mpr ⟨pm_X10_merged_r3 _ (List.mem_of_getElem? (i := 1) rfl), List.forall_mem_cons.mpr ⟨pm_X10_merged_r3 _ (List.mem_of_getElem? (i := 2) rfl), List.forall_mem_cons.mpr ⟨pm_X10_merged_r3 _ (List.mem_of_getElem? (i := 3) rfl), List.forall_mem_cons.mpr ⟨pm_X10_merged_r3 _ (List.mem_of_getElem? (i := 4) rfl), List.forall_mem_cons.mpr ⟨pm_X10_merged_r3 _ (List.mem_of_getElem? (i := 5) rfl), List.forall_mem_cons.mpr ⟨pm_X10_merged_r3 _ (List.mem_of_getElem? (i := 6) rfl), List.forall_mem_cons.mpr ⟨pm_X10_merged_r3 _ (List.mem_of_getElem? (i := 7) rfl), List.forall_mem_cons.mpr ⟨pm_X10_merged_r3 _ (List.mem_of_getElem? (i := 8) rfl), List.forall_mem_cons.mpr ⟨pm_X10_merged_r3 _ (List.mem_of_getElem? (i := 9) rfl), List.forall_mem_cons.mpr ⟨pm_X10_merged_r3 _ (List.mem_of_getElem? (i := 10) rfl), List.forall_mem_cons.mpr ⟨pm_X10_merged_r1 _ (List.mem_of_getElem? (i := 3) rfl), List.forall_mem_cons.mpr ⟨pm_X10_merged_r1 _ (List.mem_of_getElem? (i := 4) rfl), List.forall_mem_cons.mpr ⟨pm_X10_merged_r3 _ (List.mem_of_getElem? (i := 11) rfl), List.forall_mem_cons.mpr ⟨pm_X10_merged_r3 _ (List.mem_of_getElem? (i := 12) rfl), List.forall_mem_cons.mpr ⟨pm_X10_merged_r3 _ (List.mem_of_getElem? (i := 13) rfl), List.forall_mem_cons.mpr ⟨pm_X10_merged_r3 _ (List.mem_of_getElem? (i := 14) rfl), fun _ h => absurd h List.not_mem_nil⟩⟩⟩⟩⟩⟩⟩⟩⟩⟩⟩⟩⟩⟩⟩⟩⟩⟩⟩⟩⟩⟩⟩⟩
set_option maxRecDepth 20000 in
theorem pq_X10_merged_X10_isHad_r3 : ∀ w ∈ wsX10_isHad_r3, w ∈ wsX10_merged := List.forall_mem_cons.mpr ⟨pm_X10_merged_r3 _ (List.mem_of_getElem? (i := 15) rfl), List.forall_mem_cons.mpr ⟨pm_X10_merged_r3 _ (List.mem_of_getElem? (i := 16) rfl), List.forall_mem_cons.mpr ⟨pm_X10_merged_r3 _ (List.mem_of_getElem? (i := 17) rfl), List.forall_mem_cons.mpr ⟨pm_X10_merged_r3 _ (List.mem_of_getElem? (i := 18) rfl), List.forall_mem_cons.mpr ⟨pm_X10_merged_r3 _ (List.mem_of_getElem? (i := 19) rfl), List.forall_mem_cons.mpr ⟨pm_X10_merged_r3 _ (List.mem_of_getElem? (i := 20) rfl), List.forall_mem_cons.mpr ⟨pm_X10_merged_r3 _ (List.mem_of_getElem? (i := 21) rfl), List.forall_mem_cons.mpr ⟨pm_X10_merged_r3 _ (List.mem_of_getElem? (i := 22) rfl), List.forall_mem_cons.mpr ⟨pm_X10_merged_r3 _ (List.mem_of_getElem? (i := 23) rfl), List.forall_mem_cons.mpr ⟨pm_X10_merged_r4 _ (List.mem_of_getElem? (i := 0) rfl), List.forall_mem_cons.mpr ⟨pm_X10_merged_r4 _ (List.mem_of_getElem? (i := 1) rfl), List.forall_mem_cons.mpr ⟨pm_X10_merged_r4 _ (List.mem_of_getElem? (i := 2) rfl), List.forall_mem_cons.mpr ⟨pm_X10_merged_r4 _ (List.mem_of_getElem? (i := 3) rfl), List.forall_mem_cons.mpr ⟨pm_X10_merged_r4 _ (List.mem_of_getElem? (i := 4) rfl), List.forall_mem_cons.mpr ⟨pm_X10_merged_r4 _ (List.mem_of_getElem? (i := 5) rfl), List.forall_mem_cons.mpr ⟨pm_X10_merged_r4 _ (List.mem_of_getElem? (i := 6) rfl), List.forall_mem_cons.mpr ⟨pm_X10_merged_r4 _ (List.mem_of_getElem? (i := 7) rfl), List.forall_mem_cons.mpr ⟨pm_X10_merged_r4 _ (List.mem_of_getElem? (i := 8) rfl), List.forall_mem_cons.mpr ⟨pm_X10_merged_r4 _ (List.mem_of_getElem? (i := 9) rfl), List.forall_mem_cons.mpr ⟨pm_X10_merged_r4 _ (List.mem_of_getElem? (i := 10) rfl), List.forall_mem_cons.mpr ⟨pm_X10_merged_r4 _ (List.mem_of_getElem? (i := 11) rfl), List.forall_mem_cons.mpr ⟨pm_X10_merged_r4 _ (List.mem_of_getElem? (i := 12) rfl), fun _ h => absurd h List.not_mem_nil⟩⟩⟩⟩⟩⟩⟩⟩⟩⟩⟩⟩⟩⟩⟩⟩⟩⟩⟩⟩⟩⟩
set_option maxRecDepth 20000 in
theorem ggX10_merged_X10_isHad : GoodIn wsX10_merged wsX10_isHad := goodIn_sub (List.forall_mem_cons.mpr ⟨pm_X10_merged_r1 _ (List.mem_of_getElem? (i := 20) rfl), List.forall_mem_append.mpr ⟨List.forall_mem_append.mpr ⟨pq_X10_merged_X10_isHad_r1, List.forall_mem_append.mpr ⟨pq_X10_merged_X10_isHad_r2, pq_X10_merged_X10_isHad_r3⟩⟩, pw_X10_merged_X10⟩⟩) (by decide +kernel)
set_option maxRecDepth 20000 in
theorem gX10_merged_X10_isHad : GoodIn wsX10_merged (wsV RX10 352 RX10 yX10_isHad wsX10_isHad) := goodIn_app (goodIn_of _ (by decide +kernel)) ggX10_merged_X10_isHad
set_option maxRecDepth 20000 in
theorem ggX10_merged_X10_tell : GoodIn wsX10_merged wsX10_tell := goodIn_sub (List.forall_mem_cons.mpr ⟨pm_X10_merged_r4 _ (List.mem_of_getElem? (i := 16) rfl), List.forall_mem_append.mpr ⟨List.forall_mem_cons.mpr ⟨pm_X10_merged_r4 _ (List.mem_of_getElem? (i := 17) rfl), List.forall_mem_cons.mpr ⟨pm_X10_merged_r4 _ (List.mem_of_getElem? (i := 18) rfl), List.forall_mem_cons.mpr ⟨pm_X10_merged_r4 _ (List.mem_of_getElem? (i := 19) rfl), List.forall_mem_cons.mpr ⟨pm_X10_merged_r4 _ (List.mem_of_getElem? (i := 7) rfl), List.forall_mem_cons.mpr ⟨pm_X10_merged_r4 _ (List.mem_of_getElem? (i := 8) rfl), List.forall_mem_cons.mpr ⟨pm_X10_merged_r1 _ (List.mem_of_getElem? (i := 8) rfl), List.forall_mem_cons.mpr ⟨pm_X10_merged_r4 _ (List.mem_of_getElem? (i := 9) rfl), fun _ h => absurd h List.not_mem_nil⟩⟩⟩⟩⟩⟩⟩, pw_X10_merged_X10⟩⟩) (by decide +kernel)
set_option maxRecDepth 20000 in
theorem gX10_merged_X10_tell : GoodIn wsX10_merged (wsV RX10 355 RX10 yX10_tell wsX10_tell) := goodIn_app (goodIn_of _ (by decide +kernel)) ggX10_merged_X10_tell
theorem dX10_merged_0 : decode cX10_merged 0 = .ok (.aload_n 0, 1) := by decide +kernel
theorem dX10_merged_1 : decode cX10_merged 1 = .ok (.iload_n 1, 1) := by decide +kernel
theorem dX10_merged_2 : decode cX10_merged 2 = .ok (.invokevirtual 253, 3) := by decide +kernel
theorem dX10_merged_5 : decode cX10_merged 5 = .ok (.ifCond .eq 24, 3) := by decide +kernel
theorem dX10_merged_8 : decode cX10_merged 8 = .ok (.aload_n 0, 1) := by decide +kernel
theorem dX10_merged_9 : decode cX10_merged 9 = .ok (.iload_n 2, 1) := by decide +kernel
theorem dX10_merged_10 : decode cX10_merged 10 = .ok (.invokevirtual 256, 3) := by decide +kernel
theorem dX10_merged_13 : decode cX10_merged 13 = .ok (.ifCond .eq 16, 3) := by decide +kernel
theorem dX10_merged_16 : decode cX10_merged 16 = .ok (.aload_n 0, 1) := by decide +kernel
theorem dX10_merged_17 : decode cX10_merged 17 = .ok (.iload_n 3, 1) := by decide +kernel
theorem dX10_merged_18 : decode cX10_merged 18 = .ok (.invokevirtual 256, 3) := by decide +kernel
theorem dX10_merged_21 : decode cX10_merged 21 = .ok (.ifCond .eq 8, 3) := by decide +kernel
theorem dX10_merged_24 : decode cX10_merged 24 = .ok (.iload_n 2, 1) := by decide +kernel
theorem dX10_merged_25 : decode cX10_merged 25 = .ok (.iload_n 3, 1) := by decide +kernel
theorem dX10_merged_26 : decode cX10_merged 26 = .ok (.if_icmp .ne 6, 3) := by decide +kernel
theorem dX10_merged_29 : decode cX10_merged 29 = .ok (.bipush (-2), 2) := by decide +kernel
theorem dX10_merged_31 : decode cX10_merged 31 = .ok (.ireturn, 1) := by decide +kernel
theorem dX10_merged_32 : decode cX10_merged 32 = .ok (.aload_n 0, 1) := by decide +kernel
theorem dX10_merged_33 : decode cX10_merged 33 = .ok (.iconst 0, 1) := by decide +kernel
theorem dX10_merged_34 : decode cX10_merged 34 = .ok (.putfield 289, 3) := by decide +kernel
theorem dX10_merged_37 : decode cX10_merged 37 = .ok (.iconst 0, 1) := by decide +kernel
theorem dX10_merged_38 : decode cX10_merged 38 = .ok (.istore 4, 2) := by decide +kernel
theorem dX10_merged_40 : decode cX10_merged 40 = .ok (.iload 4, 2) := by decide +kernel
theorem dX10_merged_42 : decode cX10_merged 42 = .ok (.aload_n 0, 1) := by decide +kernel
theorem dX10_merged_43 : decode cX10_merged 43 = .ok (.getfield 17, 3) := by decide +kernel
theorem dX10_merged_46 : decode cX10_merged 46 = .ok (.iconst 3, 1) := by decide +kernel
theorem dX10_merged_47 : decode cX10_merged 47 = .ok (.iaload, 1) := by decide +kernel
theorem dX10_merged_48 : decode cX10_merged 48 = .ok (.if_icmp .ge 78, 3) := by decide +kernel
theorem dX10_merged_51 : decode cX10_merged 51 = .ok (.iload_n 2, 1) := by decide +kernel
theorem dX10_merged_52 : decode cX10_merged 52 = .ok (.iload_n 3, 1) := by decide +kernel
theorem dX10_merged_53 : decode cX10_merged 53 = .ok (.if_icmp .ge 7, 3) := by decide +kernel
theorem dX10_merged_56 : decode cX10_merged 56 = .ok (.iload_n 2, 1) := by decide +kernel
theorem dX10_merged_57 : decode cX10_merged 57 = .ok (.goto 4, 3) := by decide +kernel
theorem dX10_merged_60 : decode cX10_merged 60 = .ok (.iload_n 3, 1) := by decide +kernel
theorem dX10_merged_61 : decode cX10_merged 61 = .ok (.istore 5, 2) := by decide +kernel
theorem dX10_merged_63 : decode cX10_merged 63 = .ok (.iload_n 2, 1) := by decide +kernel
theorem dX10_merged_64 : decode cX10_merged 64 = .ok (.iload_n 3, 1) := by decide +kernel
theorem dX10_merged_65 : decode cX10_merged 65 = .ok (.if_icmp .ge 7, 3) := by decide +kernel
theorem dX10_merged_68 : decode cX10_merged 68 = .ok (.iload_n 3, 1) := by decide +kernel
theorem dX10_merged_69 : decode cX10_merged 69 = .ok (.goto 4, 3) := by decide +kernel
theorem dX10_merged_72 : decode cX10_merged 72 = .ok (.iload_n 2, 1) := by decide +kernel
theorem dX10_merged_73 : decode cX10_merged 73 = .ok (.istore 6, 2) := by decide +kernel
theorem dX10_merged_75 : decode cX10_merged 75 = .ok (.iload 4, 2) := by decide +kernel
theorem dX10_merged_77 : decode cX10_merged 77 = .ok (.iload 6, 2) := by decide +kernel
theorem dX10_merged_79 : decode cX10_merged 79 = .ok (.if_icmp .ne 20, 3) := by decide +kernel
theorem dX10_merged_82 : decode cX10_merged 82 = .ok (.aload_n 0, 1) := by decide +kernel
theorem dX10_merged_83 : decode cX10_merged 83 = .ok (.getfield 46, 3) := by decide +kernel
theorem dX10_merged_86 : decode cX10_merged 86 = .ok (.iload 4, 2) := by decide +kernel
theorem dX10_merged_88 : decode cX10_merged 88 = .ok (.aload_n 0, 1) := by decide +kernel
theorem dX10_merged_89 : decode cX10_merged 89 = .ok (.getfield 46, 3) := by decide +kernel
theorem dX10_merged_92 : decode cX10_merged 92 = .ok (.iload 5, 2) := by decide +kernel
theorem dX10_merged_94 : decode cX10_merged 94 = .ok (.iaload, 1) := by decide +kernel
theorem dX10_merged_95 : decode cX10_merged 95 = .ok (.iastore, 1) := by decide +kernel
theorem dX10_merged_96 : decode cX10_merged 96 = .ok (.goto 24, 3) := by decide +kernel
theorem dX10_merged_99 : decode cX10_merged 99 = .ok (.aload_n 0, 1) := by decide +kernel
theorem dX10_merged_100 : decode cX10_merged 100 = .ok (.getfield 46, 3) := by decide +kernel
theorem dX10_merged_103 : decode cX10_merged 103 = .ok (.iload 4, 2) := by decide +kernel
theorem dX10_merged_105 : decode cX10_merged 105 = .ok (.aload_n 0, 1) := by decide +kernel
theorem dX10_merged_106 : decode cX10_merged 106 = .ok (.getfield 289, 3) := by decide +kernel
theorem dX10_merged_109 : decode cX10_merged 109 = .ok (.iastore, 1) := by decide +kernel
theorem dX10_merged_110 : decode cX10_merged 110 = .ok (.aload_n 0, 1) := by decide +kernel
theorem dX10_merged_111 : decode cX10_merged 111 = .ok (.dup, 1) := by decide +kernel
theorem dX10_merged_112 : decode cX10_merged 112 = .ok (.getfield 289, 3) := by decide +kernel
theorem dX10_merged_115 : decode cX10_merged 115 = .ok (.iconst 1, 1) := by decide +kernel
theorem dX10_merged_116 : decode cX10_merged 116 = .ok (.iadd, 1) := by decide +kernel
theorem dX10_merged_117 : decode cX10_merged 117 = .ok (.putfield 289, 3) := by decide +kernel
theorem dX10_merged_120 : decode cX10_merged 120 = .ok (.iinc 4 1, 3) := by decide +kernel
theorem dX10_merged_123 : decode cX10_merged 123 = .ok (.goto (-83), 3) := by decide +kernel
theorem dX10_merged_126 : decode cX10_merged 126 = .ok (.aload_n 0, 1) := by decide +kernel
theorem dX10_merged_127 : decode cX10_merged 127 = .ok (.iload_n 1, 1) := by decide +kernel
theorem dX10_merged_128 : decode cX10_merged 128 = .ok (.invokevirtual 352, 3) := by decide +kernel
theorem dX10_merged_131 : decode cX10_merged 131 = .ok (.ifCond .ne 5, 3) := by decide +kernel
theorem dX10_merged_134 : decode cX10_merged 134 = .ok (.iconst (-1), 1) := by decide +kernel
theorem dX10_merged_135 : decode cX10_merged 135 = .ok (.ireturn, 1) := by decide +kernel
theorem dX10_merged_136 : decode cX10_merged 136 = .ok (.aload_n 0, 1) := by decide +kernel
theorem dX10_merged_137 : decode cX10_merged 137 = .ok (.aload_n 0, 1) := by decide +kernel
theorem dX10_merged_138 : decode cX10_merged 138 = .ok (.getfield 325, 3) := by decide +kernel
theorem dX10_merged_141 : decode cX10_merged 141 = .ok (.aload_n 0, 1) := by decide +kernel
theorem dX10_merged_142 : decode cX10_merged 142 = .ok (.getfield 328, 3) := by decide +kernel
theorem dX10_merged_145 : decode cX10_merged 145 = .ok (.invokevirtual 355, 3) := by decide +kernel
theorem dX10_merged_148 : decode cX10_merged 148 = .ok (.iconst 1, 1) := by decide +kernel
theorem dX10_merged_149 : decode cX10_merged 149 = .ok (.ireturn, 1) := by decide +kernel
set_option maxRecDepth 20000 in
theorem ggX10_isDone_X10_chanceOf : GoodIn wsX10_isDone wsX10_chanceOf := goodIn_r _ [8, 9, 16, 17, 18, 19, 20, 21, 22, 23, 24, 25, 26, 27, 28, 29, 30, 31, 32, 33, 34, 35, 36, 37, 38, 39, 40, 41, 42, 43, 44, 45, 46, 47, 48, 49, 50, 51, 52, 53, 54, 55, 56, 57, 58, 59, 60, 61, 62, 63, 64, 65, 66, 67, 68, 69, 70, 71, 72, 73, 74, 75, 76, 77, 78, 79, 80] (by decide +kernel) (by decide +kernel)
set_option maxRecDepth 20000 in
theorem gX10_isDone_X10_chanceOf : GoodIn wsX10_isDone (wsV RX10 259 RX10 yX10_chanceOf wsX10_chanceOf) := goodIn_app (goodIn_of _ (by decide +kernel)) ggX10_isDone_X10_chanceOf
set_option maxRecDepth 20000 in
theorem ggX10_isDone_X10_feel : GoodIn wsX10_isDone wsX10_feel := goodIn_r _ [13, 1, 14, 15, 16, 17, 18, 19, 20, 21, 22, 23, 24, 25, 26, 27, 28, 29, 30, 31, 32, 33, 34, 35, 36, 37, 38, 39, 40, 41, 42, 43, 44, 45, 46, 47, 48, 49, 50, 51, 52, 53, 54, 55, 56, 57, 58, 59, 60, 61, 62, 63, 64, 65, 66, 67, 68, 69, 70, 71, 72, 73, 74, 75, 76, 77, 78, 79, 80] (by decide +kernel) (by decide +kernel)
set_option maxRecDepth 20000 in
theorem gX10_isDone_X10_feel : GoodIn wsX10_isDone (wsV RX10 264 RX10 yX10_feel wsX10_feel) := goodIn_app (goodIn_of _ (by decide +kernel)) ggX10_isDone_X10_feel
theorem dX10_isDone_0 : decode cX10_isDone 0 = .ok (.lconst 0, 1) := by decide +kernel
theorem dX10_isDone_1 : decode cX10_isDone 1 = .ok (.lstore_n 2, 1) := by decide +kernel
theorem dX10_isDone_2 : decode cX10_isDone 2 = .ok (.iconst 0, 1) := by decide +kernel
theorem dX10_isDone_3 : decode cX10_isDone 3 = .ok (.istore 4, 2) := by decide +kernel
theorem dX10_isDone_5 : decode cX10_isDone 5 = .ok (.iload 4, 2) := by decide +kernel
theorem dX10_isDone_7 : decode cX10_isDone 7 = .ok (.aload_n 0, 1) := by decide +kernel
theorem dX10_isDone_8 : decode cX10_isDone 8 = .ok (.getfield 17, 3) := by decide +kernel
theorem dX10_isDone_11 : decode cX10_isDone 11 = .ok (.iconst 3, 1) := by decide +kernel
theorem dX10_isDone_12 : decode cX10_isDone 12 = .ok (.iaload, 1) := by decide +kernel
theorem dX10_isDone_13 : decode cX10_isDone 13 = .ok (.if_icmp .ge 32, 3) := by decide +kernel
theorem dX10_isDone_16 : decode cX10_isDone 16 = .ok (.lload_n 2, 1) := by decide +kernel
theorem dX10_isDone_17 : decode cX10_isDone 17 = .ok (.aload_n 0, 1) := by decide +kernel
theorem dX10_isDone_18 : decode cX10_isDone 18 = .ok (.iload_n 1, 1) := by decide +kernel
theorem dX10_isDone_19 : decode cX10_isDone 19 = .ok (.iload 4, 2) := by decide +kernel
theorem dX10_isDone_21 : decode cX10_isDone 21 = .ok (.invokevirtual 259, 3) := by decide +kernel
theorem dX10_isDone_24 : decode cX10_isDone 24 = .ok (.aload_n 0, 1) := by decide +kernel
theorem dX10_isDone_25 : decode cX10_isDone 25 = .ok (.aload_n 0, 1) := by decide +kernel
theorem dX10_isDone_26 : decode cX10_isDone 26 = .ok (.getfield 82, 3) := by decide +kernel
theorem dX10_isDone_29 : decode cX10_isDone 29 = .ok (.iload 4, 2) := by decide +kernel
theorem dX10_isDone_31 : decode cX10_isDone 31 = .ok (.iaload, 1) := by decide +kernel
theorem dX10_isDone_32 : decode cX10_isDone 32 = .ok (.invokevirtual 264, 3) := by decide +kernel
theorem dX10_isDone_35 : decode cX10_isDone 35 = .ok (.imul, 1) := by decide +kernel
theorem dX10_isDone_36 : decode cX10_isDone 36 = .ok (.i2l, 1) := by decide +kernel
theorem dX10_isDone_37 : decode cX10_isDone 37 = .ok (.ladd, 1) := by decide +kernel
theorem dX10_isDone_38 : decode cX10_isDone 38 = .ok (.lstore_n 2, 1) := by decide +kernel
theorem dX10_isDone_39 : decode cX10_isDone 39 = .ok (.iinc 4 1, 3) := by decide +kernel
theorem dX10_isDone_42 : decode cX10_isDone 42 = .ok (.goto (-37), 3) := by decide +kernel
theorem dX10_isDone_45 : decode cX10_isDone 45 = .ok (.lload_n 2, 1) := by decide +kernel
theorem dX10_isDone_46 : decode cX10_isDone 46 = .ok (.aload_n 0, 1) := by decide +kernel
theorem dX10_isDone_47 : decode cX10_isDone 47 = .ok (.getfield 17, 3) := by decide +kernel
theorem dX10_isDone_50 : decode cX10_isDone 50 = .ok (.iconst 0, 1) := by decide +kernel
theorem dX10_isDone_51 : decode cX10_isDone 51 = .ok (.iaload, 1) := by decide +kernel
theorem dX10_isDone_52 : decode cX10_isDone 52 = .ok (.i2l, 1) := by decide +kernel
theorem dX10_isDone_53 : decode cX10_isDone 53 = .ok (.aload_n 0, 1) := by decide +kernel
theorem dX10_isDone_54 : decode cX10_isDone 54 = .ok (.getfield 31, 3) := by decide +kernel
theorem dX10_isDone_57 : decode cX10_isDone 57 = .ok (.iload_n 1, 1) := by decide +kernel
theorem dX10_isDone_58 : decode cX10_isDone 58 = .ok (.iaload, 1) := by decide +kernel
theorem dX10_isDone_59 : decode cX10_isDone 59 = .ok (.i2l, 1) := by decide +kernel
theorem dX10_isDone_60 : decode cX10_isDone 60 = .ok (.lmul, 1) := by decide +kernel
theorem dX10_isDone_61 : decode cX10_isDone 61 = .ok (.lsub, 1) := by decide +kernel
theorem dX10_isDone_62 : decode cX10_isDone 62 = .ok (.lstore_n 2, 1) := by decide +kernel
theorem dX10_isDone_63 : decode cX10_isDone 63 = .ok (.lload_n 2, 1) := by decide +kernel
theorem dX10_isDone_64 : decode cX10_isDone 64 = .ok (.aload_n 0, 1) := by decide +kernel
theorem dX10_isDone_65 : decode cX10_isDone 65 = .ok (.getfield 17, 3) := by decide +kernel
theorem dX10_isDone_68 : decode cX10_isDone 68 = .ok (.iconst 0, 1) := by decide +kernel
theorem dX10_isDone_69 : decode cX10_isDone 69 = .ok (.iaload, 1) := by decide +kernel
theorem dX10_isDone_70 : decode cX10_isDone 70 = .ok (.i2l, 1) := by decide +kernel
theorem dX10_isDone_71 : decode cX10_isDone 71 = .ok (.aload_n 0, 1) := by decide +kernel
theorem dX10_isDone_72 : decode cX10_isDone 72 = .ok (.getfield 17, 3) := by decide +kernel
theorem dX10_isDone_75 : decode cX10_isDone 75 = .ok (.iconst 1, 1) := by decide +kernel
theorem dX10_isDone_76 : decode cX10_isDone 76 = .ok (.iaload, 1) := by decide +kernel
theorem dX10_isDone_77 : decode cX10_isDone 77 = .ok (.i2l, 1) := by decide +kernel
theorem dX10_isDone_78 : decode cX10_isDone 78 = .ok (.lmul, 1) := by decide +kernel
theorem dX10_isDone_79 : decode cX10_isDone 79 = .ok (.lcmp, 1) := by decide +kernel
theorem dX10_isDone_80 : decode cX10_isDone 80 = .ok (.ifCond .ge 5, 3) := by decide +kernel
theorem dX10_isDone_83 : decode cX10_isDone 83 = .ok (.iconst 0, 1) := by decide +kernel
theorem dX10_isDone_84 : decode cX10_isDone 84 = .ok (.ireturn, 1) := by decide +kernel
theorem dX10_isDone_85 : decode cX10_isDone 85 = .ok (.iconst 0, 1) := by decide +kernel
theorem dX10_isDone_86 : decode cX10_isDone 86 = .ok (.istore 4, 2) := by decide +kernel
theorem dX10_isDone_88 : decode cX10_isDone 88 = .ok (.iload 4, 2) := by decide +kernel
theorem dX10_isDone_90 : decode cX10_isDone 90 = .ok (.aload_n 0, 1) := by decide +kernel
theorem dX10_isDone_91 : decode cX10_isDone 91 = .ok (.getfield 17, 3) := by decide +kernel
theorem dX10_isDone_94 : decode cX10_isDone 94 = .ok (.iconst 4, 1) := by decide +kernel
theorem dX10_isDone_95 : decode cX10_isDone 95 = .ok (.iaload, 1) := by decide +kernel
theorem dX10_isDone_96 : decode cX10_isDone 96 = .ok (.if_icmp .ge 83, 3) := by decide +kernel
theorem dX10_isDone_99 : decode cX10_isDone 99 = .ok (.aload_n 0, 1) := by decide +kernel
theorem dX10_isDone_100 : decode cX10_isDone 100 = .ok (.getfield 17, 3) := by decide +kernel
theorem dX10_isDone_103 : decode cX10_isDone 103 = .ok (.iconst 0, 1) := by decide +kernel
theorem dX10_isDone_104 : decode cX10_isDone 104 = .ok (.iaload, 1) := by decide +kernel
theorem dX10_isDone_105 : decode cX10_isDone 105 = .ok (.i2l, 1) := by decide +kernel
theorem dX10_isDone_106 : decode cX10_isDone 106 = .ok (.lneg, 1) := by decide +kernel
theorem dX10_isDone_107 : decode cX10_isDone 107 = .ok (.aload_n 0, 1) := by decide +kernel
theorem dX10_isDone_108 : decode cX10_isDone 108 = .ok (.getfield 31, 3) := by decide +kernel
theorem dX10_isDone_111 : decode cX10_isDone 111 = .ok (.iload 4, 2) := by decide +kernel
theorem dX10_isDone_113 : decode cX10_isDone 113 = .ok (.iaload, 1) := by decide +kernel
theorem dX10_isDone_114 : decode cX10_isDone 114 = .ok (.i2l, 1) := by decide +kernel
theorem dX10_isDone_115 : decode cX10_isDone 115 = .ok (.lmul, 1) := by decide +kernel
theorem dX10_isDone_116 : decode cX10_isDone 116 = .ok (.lstore 5, 2) := by decide +kernel
theorem dX10_isDone_118 : decode cX10_isDone 118 = .ok (.iconst 0, 1) := by decide +kernel
theorem dX10_isDone_119 : decode cX10_isDone 119 = .ok (.istore 7, 2) := by decide +kernel
theorem dX10_isDone_121 : decode cX10_isDone 121 = .ok (.iload 7, 2) := by decide +kernel
theorem dX10_isDone_123 : decode cX10_isDone 123 = .ok (.aload_n 0, 1) := by decide +kernel
theorem dX10_isDone_124 : decode cX10_isDone 124 = .ok (.getfield 17, 3) := by decide +kernel
theorem dX10_isDone_127 : decode cX10_isDone 127 = .ok (.iconst 3, 1) := by decide +kernel
theorem dX10_isDone_128 : decode cX10_isDone 128 = .ok (.iaload, 1) := by decide +kernel
theorem dX10_isDone_129 : decode cX10_isDone 129 = .ok (.if_icmp .ge 35, 3) := by decide +kernel
theorem dX10_isDone_132 : decode cX10_isDone 132 = .ok (.lload 5, 2) := by decide +kernel
theorem dX10_isDone_134 : decode cX10_isDone 134 = .ok (.aload_n 0, 1) := by decide +kernel
theorem dX10_isDone_135 : decode cX10_isDone 135 = .ok (.iload 4, 2) := by decide +kernel
theorem dX10_isDone_137 : decode cX10_isDone 137 = .ok (.iload 7, 2) := by decide +kernel
theorem dX10_isDone_139 : decode cX10_isDone 139 = .ok (.invokevirtual 259, 3) := by decide +kernel
theorem dX10_isDone_142 : decode cX10_isDone 142 = .ok (.aload_n 0, 1) := by decide +kernel
theorem dX10_isDone_143 : decode cX10_isDone 143 = .ok (.aload_n 0, 1) := by decide +kernel
theorem dX10_isDone_144 : decode cX10_isDone 144 = .ok (.getfield 82, 3) := by decide +kernel
theorem dX10_isDone_147 : decode cX10_isDone 147 = .ok (.iload 7, 2) := by decide +kernel
theorem dX10_isDone_149 : decode cX10_isDone 149 = .ok (.iaload, 1) := by decide +kernel
theorem dX10_isDone_150 : decode cX10_isDone 150 = .ok (.invokevirtual 264, 3) := by decide +kernel
theorem dX10_isDone_153 : decode cX10_isDone 153 = .ok (.imul, 1) := by decide +kernel
theorem dX10_isDone_154 : decode cX10_isDone 154 = .ok (.i2l, 1) := by decide +kernel
theorem dX10_isDone_155 : decode cX10_isDone 155 = .ok (.ladd, 1) := by decide +kernel
theorem dX10_isDone_156 : decode cX10_isDone 156 = .ok (.lstore 5, 2) := by decide +kernel
theorem dX10_isDone_158 : decode cX10_isDone 158 = .ok (.iinc 7 1, 3) := by decide +kernel
theorem dX10_isDone_161 : decode cX10_isDone 161 = .ok (.goto (-40), 3) := by decide +kernel
theorem dX10_isDone_164 : decode cX10_isDone 164 = .ok (.lload 5, 2) := by decide +kernel
theorem dX10_isDone_166 : decode cX10_isDone 166 = .ok (.lload_n 2, 1) := by decide +kernel
theorem dX10_isDone_167 : decode cX10_isDone 167 = .ok (.lcmp, 1) := by decide +kernel
theorem dX10_isDone_168 : decode cX10_isDone 168 = .ok (.ifCond .le 5, 3) := by decide +kernel
theorem dX10_isDone_171 : decode cX10_isDone 171 = .ok (.iconst 0, 1) := by decide +kernel
theorem dX10_isDone_172 : decode cX10_isDone 172 = .ok (.ireturn, 1) := by decide +kernel
theorem dX10_isDone_173 : decode cX10_isDone 173 = .ok (.iinc 4 1, 3) := by decide +kernel
theorem dX10_isDone_176 : decode cX10_isDone 176 = .ok (.goto (-88), 3) := by decide +kernel
theorem dX10_isDone_179 : decode cX10_isDone 179 = .ok (.iconst 1, 1) := by decide +kernel
theorem dX10_isDone_180 : decode cX10_isDone 180 = .ok (.ireturn, 1) := by decide +kernel
theorem kk_X10_seen_0 : Cond.fieldLink RX10 31 "PaidBySignsModel" "costs" "[I" ∈ wsX10_seen := pm_X10_seen_r1 _ (List.mem_of_getElem? (i := 0) rfl)
theorem kk_X10_seen_1 : Cond.fieldLink RX10 17 "PaidBySignsModel" "num" "[I" ∈ wsX10_seen := pm_X10_seen_r1 _ (List.mem_of_getElem? (i := 1) rfl)
theorem kk_X10_seen_2 : Cond.fieldLink RX10 64 "PaidBySignsModel" "wageUp" "[J" ∈ wsX10_seen := pm_X10_seen_r1 _ (List.mem_of_getElem? (i := 2) rfl)
theorem kk_X10_seen_3 : Cond.fieldLink RX10 67 "PaidBySignsModel" "wageLow" "[J" ∈ wsX10_seen := pm_X10_seen_r1 _ (List.mem_of_getElem? (i := 3) rfl)
theorem kk_X10_bestWork_0 : Cond.fieldLink RX10 17 "PaidBySignsModel" "num" "[I" ∈ wsX10_bestWork := pm_X10_bestWork_r1 _ (List.mem_of_getElem? (i := 0) rfl)
theorem kk_X10_bestWork_1 : Cond.fieldLink RX10 328 "PaidBySignsModel" "costLow" "J" ∈ wsX10_bestWork := pm_X10_bestWork_r1 _ (List.mem_of_getElem? (i := 2) rfl)
theorem kk_X10_bestWork_2 : Cond.fieldLink RX10 325 "PaidBySignsModel" "costUp" "J" ∈ wsX10_bestWork := pm_X10_bestWork_r1 _ (List.mem_of_getElem? (i := 3) rfl)
theorem kk_X10_bestWork_3 : Cond.fieldLink RX10 362 "PaidBySignsModel" "bestLeftUp" "J" ∈ wsX10_bestWork := pm_X10_bestWork_r1 _ (List.mem_of_getElem? (i := 4) rfl)
theorem kk_X10_bestWork_4 : Cond.fieldLink RX10 365 "PaidBySignsModel" "bestLeftLow" "J" ∈ wsX10_bestWork := pm_X10_bestWork_r1 _ (List.mem_of_getElem? (i := 5) rfl)
theorem kk_X10_bestWork_5 : Cond.fieldLink RX10 28 "PaidBySignsModel" "brings" "[I" ∈ wsX10_bestWork := pm_X10_bestWork_r1 _ (List.mem_of_getElem? (i := 1) rfl)
theorem kk_X10_best_0 : Cond.fieldLink RX10 362 "PaidBySignsModel" "bestLeftUp" "J" ∈ wsX10_best := pm_X10_best_r1 _ (List.mem_of_getElem? (i := 0) rfl)
theorem kk_X10_best_1 : Cond.fieldLink RX10 365 "PaidBySignsModel" "bestLeftLow" "J" ∈ wsX10_best := pm_X10_best_r1 _ (List.mem_of_getElem? (i := 1) rfl)
theorem kk_X10_merged_0 : Cond.fieldLink RX10 289 "PaidBySignsModel" "groups" "I" ∈ wsX10_merged := pm_X10_merged_r1 _ (List.mem_of_getElem? (i := 0) rfl)
theorem kk_X10_merged_1 : Cond.fieldLink RX10 17 "PaidBySignsModel" "num" "[I" ∈ wsX10_merged := pm_X10_merged_r1 _ (List.mem_of_getElem? (i := 1) rfl)
theorem kk_X10_merged_2 : Cond.fieldLink RX10 325 "PaidBySignsModel" "costUp" "J" ∈ wsX10_merged := pm_X10_merged_r1 _ (List.mem_of_getElem? (i := 3) rfl)
theorem kk_X10_merged_3 : Cond.fieldLink RX10 328 "PaidBySignsModel" "costLow" "J" ∈ wsX10_merged := pm_X10_merged_r1 _ (List.mem_of_getElem? (i := 4) rfl)
theorem kk_X10_merged_4 : Cond.fieldLink RX10 46 "PaidBySignsModel" "groupOf" "[I" ∈ wsX10_merged := pm_X10_merged_r1 _ (List.mem_of_getElem? (i := 2) rfl)
theorem kk_X10_isDone_0 : Cond.fieldLink RX10 17 "PaidBySignsModel" "num" "[I" ∈ wsX10_isDone := by decide +kernel
theorem kk_X10_isDone_1 : Cond.fieldLink RX10 31 "PaidBySignsModel" "costs" "[I" ∈ wsX10_isDone := by decide +kernel
theorem kk_X10_isDone_2 : Cond.fieldLink RX10 82 "PaidBySignsModel" "coin" "[I" ∈ wsX10_isDone := by decide +kernel
theorem iw_X10_seen_X10 : ∀ w ∈ wsX100, w ∈ wsX10_seen := pw_X10_seen_X10
theorem iw_X10_bestWork_X10 : ∀ w ∈ wsX100, w ∈ wsX10_bestWork := pw_X10_bestWork_X10
theorem iw_X10_best_X10 : ∀ w ∈ wsX100, w ∈ wsX10_best := pw_X10_best_X10
theorem iw_X10_merged_X10 : ∀ w ∈ wsX100, w ∈ wsX10_merged := pw_X10_merged_X10
theorem iw_X10_isDone_X10 : ∀ w ∈ wsX100, w ∈ wsX10_isDone := by decide +kernel
