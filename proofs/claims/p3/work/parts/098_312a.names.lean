abbrev cX10_isHad : ByteArray := prog_12_method_53_code
def yX10_isHad : MethodName := ⟨RX10, "isHad", "(I)Z"⟩
abbrev cX10_eachAlone : ByteArray := prog_12_method_54_code
def yX10_eachAlone : MethodName := ⟨RX10, "eachAlone", "()V"⟩
abbrev cX10_tellWages : ByteArray := prog_12_method_55_code
def yX10_tellWages : MethodName := ⟨RX10, "tellWages", "()V"⟩
abbrev cX10_make : ByteArray := prog_12_method_56_code
def yX10_make : MethodName := ⟨RX10, "make", "(I)I"⟩
abbrev cX10_wages : ByteArray := prog_12_method_57_code
def yX10_wages : MethodName := ⟨RX10, "wages", "(IZ)J"⟩
def wsX10_isHad_r1 : List Cond := [Cond.fieldLink RX10 322 "PaidBySignsModel" "isFound" "Z", Cond.methodLink RX10 343 yX10_makeBounds, Cond.instanceMethod yX10_makeBounds, Cond.selects RX10 yX10_makeBounds yX10_makeBounds, Cond.initialized RX10, Cond.code yX10_makeBounds cX10_makeBounds 5 none, Cond.fieldLink RX10 292 "PaidBySignsModel" "bounds" "I", Cond.fieldLink RX10 17 "PaidBySignsModel" "num" "[I", Cond.fieldLink RX10 31 "PaidBySignsModel" "costs" "[I", Cond.fieldLink RX10 49 "PaidBySignsModel" "row" "[J", Cond.fieldLink RX10 46 "PaidBySignsModel" "groupOf" "[I", Cond.fieldLink RX10 289 "PaidBySignsModel" "groups" "I", Cond.fieldLink RX10 299 "PaidBySignsModel" "asked" "I", Cond.fieldLink RX10 40 "PaidBySignsModel" "marks" "[I", Cond.methodLink RX10 295 yX10_addBound, Cond.instanceMethod yX10_addBound, Cond.selects RX10 yX10_addBound yX10_addBound, Cond.code yX10_addBound cX10_addBound 4 (some .int), Cond.fieldLink RX10 52 "PaidBySignsModel" "least" "[J", Cond.methodLink RX10 259 yX10_chanceOf, Cond.instanceMethod yX10_chanceOf, Cond.selects RX10 yX10_chanceOf yX10_chanceOf, Cond.code yX10_chanceOf cX10_chanceOf 3 (some .int), Cond.fieldLink RX10 34 "PaidBySignsModel" "chances" "[I"]
def wsX10_isHad_r2 : List Cond := [Cond.methodLink RX10 264 yX10_feel, Cond.instanceMethod yX10_feel, Cond.selects RX10 yX10_feel yX10_feel, Cond.code yX10_feel cX10_feel 6 (some .int), Cond.fieldLink RX10 37 "PaidBySignsModel" "rates" "[I", Cond.methodLink RX10 339 yX10_choose, Cond.instanceMethod yX10_choose, Cond.selects RX10 yX10_choose yX10_choose, Cond.code yX10_choose cX10_choose 5 none, Cond.fieldLink RX10 55 "PaidBySignsModel" "chosen" "[I", Cond.methodLink RX10 335 yX10_look, Cond.instanceMethod yX10_look, Cond.selects RX10 yX10_look yX10_look, Cond.code yX10_look cX10_look 10 none, Cond.fieldLink RX10 61 "PaidBySignsModel" "x" "[J", Cond.fieldLink RX10 310 "PaidBySignsModel" "det" "J", Cond.fieldLink RX10 67 "PaidBySignsModel" "wageLow" "[J", Cond.fieldLink RX10 64 "PaidBySignsModel" "wageUp" "[J", Cond.fieldLink RX10 325 "PaidBySignsModel" "costUp" "J", Cond.fieldLink RX10 328 "PaidBySignsModel" "costLow" "J", Cond.constantLong RX10 313 (-1), Cond.fieldLink RX10 70 "PaidBySignsModel" "bestUp" "[J", Cond.fieldLink RX10 73 "PaidBySignsModel" "bestLow" "[J", Cond.methodLink RX10 315 yX10_isCorner]
def wsX10_isHad_r3 : List Cond := [Cond.instanceMethod yX10_isCorner, Cond.selects RX10 yX10_isCorner yX10_isCorner, Cond.code yX10_isCorner cX10_isCorner 7 (some .boolean), Cond.methodLink RX10 306 yX10_determinant, Cond.instanceMethod yX10_determinant, Cond.selects RX10 yX10_determinant yX10_determinant, Cond.code yX10_determinant cX10_determinant 4 (some .long), Cond.fieldLink RX10 58 "PaidBySignsModel" "matrix" "[J", Cond.methodLink RX10 302 yX10_minor, Cond.instanceMethod yX10_minor, Cond.selects RX10 yX10_minor yX10_minor, Cond.code yX10_minor cX10_minor 7 (some .long), Cond.methodLink RX10 318 yX10_wageOf, Cond.instanceMethod yX10_wageOf, Cond.selects RX10 yX10_wageOf yX10_wageOf, Cond.code yX10_wageOf cX10_wageOf 13 none, Cond.methodLink RX10 277 yX10_common, Cond.static yX10_common, Cond.code yX10_common cX10_common 10 (some .long), Cond.methodLink RX10 331 yX10_apart, Cond.static yX10_apart, Cond.code yX10_apart cX10_apart 8 (some .long)]
def wsX10_isHad : List Cond := .code yX10_isHad cX10_isHad 2 (some .boolean) :: ((wsX10_isHad_r1 ++ (wsX10_isHad_r2 ++ wsX10_isHad_r3)) ++ wsX100)
def wsX10_eachAlone : List Cond := .code yX10_eachAlone cX10_eachAlone 2 none :: ([.fieldLink RX10 17 "PaidBySignsModel" "num" "[I", .fieldLink RX10 289 "PaidBySignsModel" "groups" "I", .fieldLink RX10 46 "PaidBySignsModel" "groupOf" "[I"] ++ wsX100)
def wsX10_tellWages : List Cond := .code yX10_tellWages cX10_tellWages 2 none :: ([.fieldLink RX10 206 "PaidBySignsModel" "hasWages" "Z", .fieldLink RX10 17 "PaidBySignsModel" "num" "[I", .fieldLink RX10 346 "PaidBySignsModel" "wageMany" "I", .fieldLink RX10 76 "PaidBySignsModel" "toldUp" "[J", .fieldLink RX10 70 "PaidBySignsModel" "bestUp" "[J", .fieldLink RX10 79 "PaidBySignsModel" "toldLow" "[J", .fieldLink RX10 73 "PaidBySignsModel" "bestLow" "[J"] ++ wsX100)
def wsX10_make_r1 : List Cond := [Cond.fieldLink RX10 325 "PaidBySignsModel" "costUp" "J", Cond.fieldLink RX10 328 "PaidBySignsModel" "costLow" "J", Cond.methodLink RX10 253 yX10_isWork, Cond.instanceMethod yX10_isWork, Cond.selects RX10 yX10_isWork yX10_isWork, Cond.initialized RX10, Cond.code yX10_isWork cX10_isWork 2 (some .boolean), Cond.fieldLink RX10 17 "PaidBySignsModel" "num" "[I", Cond.methodLink RX10 174 yX10_in, Cond.static yX10_in, Cond.code yX10_in cX10_in 6 (some .boolean), Cond.methodLink RX10 349 yX10_eachAlone, Cond.instanceMethod yX10_eachAlone, Cond.selects RX10 yX10_eachAlone yX10_eachAlone, Cond.code yX10_eachAlone cX10_eachAlone 2 none, Cond.fieldLink RX10 289 "PaidBySignsModel" "groups" "I", Cond.fieldLink RX10 46 "PaidBySignsModel" "groupOf" "[I", Cond.methodLink RX10 352 yX10_isHad, Cond.instanceMethod yX10_isHad, Cond.selects RX10 yX10_isHad yX10_isHad, Cond.code yX10_isHad cX10_isHad 2 (some .boolean), Cond.fieldLink RX10 322 "PaidBySignsModel" "isFound" "Z", Cond.methodLink RX10 343 yX10_makeBounds, Cond.instanceMethod yX10_makeBounds]
def wsX10_make_r2 : List Cond := [Cond.selects RX10 yX10_makeBounds yX10_makeBounds, Cond.code yX10_makeBounds cX10_makeBounds 5 none, Cond.fieldLink RX10 292 "PaidBySignsModel" "bounds" "I", Cond.fieldLink RX10 31 "PaidBySignsModel" "costs" "[I", Cond.fieldLink RX10 49 "PaidBySignsModel" "row" "[J", Cond.fieldLink RX10 299 "PaidBySignsModel" "asked" "I", Cond.fieldLink RX10 40 "PaidBySignsModel" "marks" "[I", Cond.methodLink RX10 295 yX10_addBound, Cond.instanceMethod yX10_addBound, Cond.selects RX10 yX10_addBound yX10_addBound, Cond.code yX10_addBound cX10_addBound 4 (some .int), Cond.fieldLink RX10 52 "PaidBySignsModel" "least" "[J", Cond.methodLink RX10 259 yX10_chanceOf, Cond.instanceMethod yX10_chanceOf, Cond.selects RX10 yX10_chanceOf yX10_chanceOf, Cond.code yX10_chanceOf cX10_chanceOf 3 (some .int), Cond.fieldLink RX10 34 "PaidBySignsModel" "chances" "[I", Cond.methodLink RX10 264 yX10_feel, Cond.instanceMethod yX10_feel, Cond.selects RX10 yX10_feel yX10_feel, Cond.code yX10_feel cX10_feel 6 (some .int), Cond.fieldLink RX10 37 "PaidBySignsModel" "rates" "[I", Cond.methodLink RX10 339 yX10_choose, Cond.instanceMethod yX10_choose]
def wsX10_make_r3 : List Cond := [Cond.selects RX10 yX10_choose yX10_choose, Cond.code yX10_choose cX10_choose 5 none, Cond.fieldLink RX10 55 "PaidBySignsModel" "chosen" "[I", Cond.methodLink RX10 335 yX10_look, Cond.instanceMethod yX10_look, Cond.selects RX10 yX10_look yX10_look, Cond.code yX10_look cX10_look 10 none, Cond.fieldLink RX10 61 "PaidBySignsModel" "x" "[J", Cond.fieldLink RX10 310 "PaidBySignsModel" "det" "J", Cond.fieldLink RX10 67 "PaidBySignsModel" "wageLow" "[J", Cond.fieldLink RX10 64 "PaidBySignsModel" "wageUp" "[J", Cond.constantLong RX10 313 (-1), Cond.fieldLink RX10 70 "PaidBySignsModel" "bestUp" "[J", Cond.fieldLink RX10 73 "PaidBySignsModel" "bestLow" "[J", Cond.methodLink RX10 315 yX10_isCorner, Cond.instanceMethod yX10_isCorner, Cond.selects RX10 yX10_isCorner yX10_isCorner, Cond.code yX10_isCorner cX10_isCorner 7 (some .boolean), Cond.methodLink RX10 306 yX10_determinant, Cond.instanceMethod yX10_determinant, Cond.selects RX10 yX10_determinant yX10_determinant, Cond.code yX10_determinant cX10_determinant 4 (some .long), Cond.fieldLink RX10 58 "PaidBySignsModel" "matrix" "[J", Cond.methodLink RX10 302 yX10_minor]
def wsX10_make_r4 : List Cond := [Cond.instanceMethod yX10_minor, Cond.selects RX10 yX10_minor yX10_minor, Cond.code yX10_minor cX10_minor 7 (some .long), Cond.methodLink RX10 318 yX10_wageOf, Cond.instanceMethod yX10_wageOf, Cond.selects RX10 yX10_wageOf yX10_wageOf, Cond.code yX10_wageOf cX10_wageOf 13 none, Cond.methodLink RX10 277 yX10_common, Cond.static yX10_common, Cond.code yX10_common cX10_common 10 (some .long), Cond.methodLink RX10 331 yX10_apart, Cond.static yX10_apart, Cond.code yX10_apart cX10_apart 8 (some .long), Cond.methodLink RX10 355 yX10_tell, Cond.instanceMethod yX10_tell, Cond.selects RX10 yX10_tell yX10_tell, Cond.code yX10_tell cX10_tell 7 none, Cond.fieldLink RX10 281 "PaidBySignsModel" "upper" "J", Cond.fieldLink RX10 284 "PaidBySignsModel" "lower" "J", Cond.fieldLink RX10 202 "PaidBySignsModel" "hasFraction" "Z", Cond.methodLink RX10 359 yX10_tellWages, Cond.instanceMethod yX10_tellWages, Cond.selects RX10 yX10_tellWages yX10_tellWages, Cond.code yX10_tellWages cX10_tellWages 2 none]
def wsX10_make_r5 : List Cond := [Cond.fieldLink RX10 206 "PaidBySignsModel" "hasWages" "Z", Cond.fieldLink RX10 346 "PaidBySignsModel" "wageMany" "I", Cond.fieldLink RX10 76 "PaidBySignsModel" "toldUp" "[J", Cond.fieldLink RX10 79 "PaidBySignsModel" "toldLow" "[J"]
def wsX10_make : List Cond := .code yX10_make cX10_make 2 (some .int) :: ((wsX10_make_r1 ++ (wsX10_make_r2 ++ (wsX10_make_r3 ++ (wsX10_make_r4 ++ wsX10_make_r5)))) ++ wsX100)
def wsX10_wages : List Cond := .code yX10_wages cX10_wages 3 (some .long) :: ([.fieldLink RX10 206 "PaidBySignsModel" "hasWages" "Z", .fieldLink RX10 346 "PaidBySignsModel" "wageMany" "I", .constantLong RX10 313 (-1), .fieldLink RX10 79 "PaidBySignsModel" "toldLow" "[J", .fieldLink RX10 76 "PaidBySignsModel" "toldUp" "[J", .methodLink RX10 174 yX10_in, .static yX10_in, .initialized RX10, .code yX10_in cX10_in 6 (some .boolean)] ++ wsX100)
theorem pm_X10_isHad_r1 : ∀ w ∈ wsX10_isHad_r1, w ∈ wsX10_isHad := fun _ h => List.mem_cons_of_mem _ (List.mem_append_left _ (List.mem_append_left _ h))
theorem pm_X10_isHad_r2 : ∀ w ∈ wsX10_isHad_r2, w ∈ wsX10_isHad := fun _ h => List.mem_cons_of_mem _ (List.mem_append_left _ (List.mem_append_right _ (List.mem_append_left _ h)))
theorem pm_X10_isHad_r3 : ∀ w ∈ wsX10_isHad_r3, w ∈ wsX10_isHad := fun _ h => List.mem_cons_of_mem _ (List.mem_append_left _ (List.mem_append_right _ (List.mem_append_right _ (h))))
theorem pw_X10_isHad_X10 : ∀ w ∈ wsX100, w ∈ wsX10_isHad := fun _ h => List.mem_cons_of_mem _ (List.mem_append_right _ h)
set_option maxRecDepth 20000 in
theorem ggX10_isHad_X10_makeBounds : GoodIn wsX10_isHad wsX10_makeBounds := goodIn_sub (List.forall_mem_cons.mpr ⟨pm_X10_isHad_r1 _ (List.mem_of_getElem? (i := 5) rfl), List.forall_mem_append.mpr ⟨List.forall_mem_cons.mpr ⟨pm_X10_isHad_r1 _ (List.mem_of_getElem? (i := 6) rfl), List.forall_mem_cons.mpr ⟨pm_X10_isHad_r1 _ (List.mem_of_getElem? (i := 7) rfl), List.forall_mem_cons.mpr ⟨pm_X10_isHad_r1 _ (List.mem_of_getElem? (i := 8) rfl), List.forall_mem_cons.mpr ⟨pm_X10_isHad_r1 _ (List.mem_of_getElem? (i := 9) rfl), List.forall_mem_cons.mpr ⟨pm_X10_isHad_r1 _ (List.mem_of_getElem? (i := 10) rfl), List.forall_mem_cons.mpr ⟨pm_X10_isHad_r1 _ (List.mem_of_getElem? (i := 11) rfl), List.forall_mem_cons.mpr ⟨pm_X10_isHad_r1 _ (List.mem_of_getElem? (i := 12) rfl), List.forall_mem_cons.mpr ⟨pm_X10_isHad_r1 _ (List.mem_of_getElem? (i := 13) rfl), List.forall_mem_cons.mpr ⟨pm_X10_isHad_r1 _ (List.mem_of_getElem? (i := 14) rfl), List.forall_mem_cons.mpr ⟨pm_X10_isHad_r1 _ (List.mem_of_getElem? (i := 15) rfl), List.forall_mem_cons.mpr ⟨pm_X10_isHad_r1 _ (List.mem_of_getElem? (i := 16) rfl), List.forall_mem_cons.mpr ⟨pm_X10_isHad_r1 _ (List.mem_of_getElem? (i := 4) rfl), List.forall_mem_cons.mpr ⟨pm_X10_isHad_r1 _ (List.mem_of_getElem? (i := 17) rfl), List.forall_mem_cons.mpr ⟨pm_X10_isHad_r1 _ (List.mem_of_getElem? (i := 18) rfl), List.forall_mem_cons.mpr ⟨pm_X10_isHad_r1 _ (List.mem_of_getElem? (i := 19) rfl), List.forall_mem_cons.mpr ⟨pm_X10_isHad_r1 _ (List.mem_of_getElem? (i := 20) rfl), List.forall_mem_cons.mpr ⟨pm_X10_isHad_r1 _ (List.mem_of_getElem? (i := 21) rfl), List.forall_mem_cons.mpr ⟨pm_X10_isHad_r1 _ (List.mem_of_getElem? (i := 22) rfl), List.forall_mem_cons.mpr ⟨pm_X10_isHad_r1 _ (List.mem_of_getElem? (i := 23) rfl), List.forall_mem_cons.mpr ⟨pm_X10_isHad_r2 _ (List.mem_of_getElem? (i := 0) rfl), List.forall_mem_cons.mpr ⟨pm_X10_isHad_r2 _ (List.mem_of_getElem? (i := 1) rfl), List.forall_mem_cons.mpr ⟨pm_X10_isHad_r2 _ (List.mem_of_getElem? (i := 2) rfl), List.forall_mem_cons.mpr ⟨pm_X10_isHad_r2 _ (List.mem_of_getElem? (i := 3) rfl), List.forall_mem_cons.mpr ⟨pm_X10_isHad_r2 _ (List.mem_of_getElem? (i := 4) rfl), fun _ h => absurd h List.not_mem_nil⟩⟩⟩⟩⟩⟩⟩⟩⟩⟩⟩⟩⟩⟩⟩⟩⟩⟩⟩⟩⟩⟩⟩⟩, pw_X10_isHad_X10⟩⟩) (by decide +kernel)
set_option maxRecDepth 20000 in
theorem gX10_isHad_X10_makeBounds : GoodIn wsX10_isHad (wsV RX10 343 RX10 yX10_makeBounds wsX10_makeBounds) := goodIn_app (goodIn_of _ (by decide +kernel)) ggX10_isHad_X10_makeBounds
set_option maxRecDepth 20000 in
theorem pq_X10_isHad_X10_choose_r1 : ∀ w ∈ wsX10_choose_r1, w ∈ wsX10_isHad := List.forall_mem_cons.mpr ⟨pm_X10_isHad_r1 _ (List.mem_of_getElem? (i := 11) rfl), List.forall_mem_cons.mpr ⟨pm_X10_isHad_r1 _ (List.mem_of_getElem? (i := 6) rfl), List.forall_mem_cons.mpr ⟨pm_X10_isHad_r2 _ (List.mem_of_getElem? (i := 9) rfl), List.forall_mem_cons.mpr ⟨pm_X10_isHad_r2 _ (List.mem_of_getElem? (i := 10) rfl), List.forall_mem_cons.mpr ⟨pm_X10_isHad_r2 _ (List.mem_of_getElem? (i := 11) rfl), List.forall_mem_cons.mpr ⟨pm_X10_isHad_r2 _ (List.mem_of_getElem? (i := 12) rfl), List.forall_mem_cons.mpr ⟨pm_X10_isHad_r1 _ (List.mem_of_getElem? (i := 4) rfl), List.forall_mem_cons.mpr ⟨pm_X10_isHad_r2 _ (List.mem_of_getElem? (i := 13) rfl), List.forall_mem_cons.mpr ⟨pm_X10_isHad_r2 _ (List.mem_of_getElem? (i := 14) rfl), List.forall_mem_cons.mpr ⟨pm_X10_isHad_r2 _ (List.mem_of_getElem? (i := 15) rfl), List.forall_mem_cons.mpr ⟨pm_X10_isHad_r1 _ (List.mem_of_getElem? (i := 7) rfl), List.forall_mem_cons.mpr ⟨pm_X10_isHad_r1 _ (List.mem_of_getElem? (i := 10) rfl), List.forall_mem_cons.mpr ⟨pm_X10_isHad_r2 _ (List.mem_of_getElem? (i := 16) rfl), List.forall_mem_cons.mpr ⟨pm_X10_isHad_r2 _ (List.mem_of_getElem? (i := 17) rfl), List.forall_mem_cons.mpr ⟨pm_X10_isHad_r1 _ (List.mem_of_getElem? (i := 0) rfl), List.forall_mem_cons.mpr ⟨pm_X10_isHad_r2 _ (List.mem_of_getElem? (i := 18) rfl), List.forall_mem_cons.mpr ⟨pm_X10_isHad_r2 _ (List.mem_of_getElem? (i := 19) rfl), List.forall_mem_cons.mpr ⟨pm_X10_isHad_r2 _ (List.mem_of_getElem? (i := 20) rfl), List.forall_mem_cons.mpr ⟨pm_X10_isHad_r2 _ (List.mem_of_getElem? (i := 21) rfl), List.forall_mem_cons.mpr ⟨pm_X10_isHad_r2 _ (List.mem_of_getElem? (i := 22) rfl), List.forall_mem_cons.mpr ⟨pm_X10_isHad_r2 _ (List.mem_of_getElem? (i := 23) rfl), List.forall_mem_cons.mpr ⟨pm_X10_isHad_r3 _ (List.mem_of_getElem? (i := 0) rfl), List.forall_mem_cons.mpr ⟨pm_X10_isHad_r3 _ (List.mem_of_getElem? (i := 1) rfl), List.forall_mem_cons.mpr ⟨pm_X10_isHad_r3 _ (List.mem_of_getElem? (i := 2) rfl), fun _ h => absurd h List.not_mem_nil⟩⟩⟩⟩⟩⟩⟩⟩⟩⟩⟩⟩⟩⟩⟩⟩⟩⟩⟩⟩⟩⟩⟩⟩
set_option maxRecDepth 20000 in
theorem pq_X10_isHad_X10_choose_r2 : ∀ w ∈ wsX10_choose_r2, w ∈ wsX10_isHad := List.forall_mem_cons.mpr ⟨pm_X10_isHad_r1 _ (List.mem_of_getElem? (i := 12) rfl), List.forall_mem_cons.mpr ⟨pm_X10_isHad_r1 _ (List.mem_of_getElem? (i := 9) rfl), List.forall_mem_cons.mpr ⟨pm_X10_isHad_r1 _ (List.mem_of_getElem? (i := 18) rfl), List.forall_mem_cons.mpr ⟨pm_X10_isHad_r3 _ (List.mem_of_getElem? (i := 3) rfl), List.forall_mem_cons.mpr ⟨pm_X10_isHad_r3 _ (List.mem_of_getElem? (i := 4) rfl), List.forall_mem_cons.mpr ⟨pm_X10_isHad_r3 _ (List.mem_of_getElem? (i := 5) rfl), List.forall_mem_cons.mpr ⟨pm_X10_isHad_r3 _ (List.mem_of_getElem? (i := 6) rfl), List.forall_mem_cons.mpr ⟨pm_X10_isHad_r3 _ (List.mem_of_getElem? (i := 7) rfl), List.forall_mem_cons.mpr ⟨pm_X10_isHad_r3 _ (List.mem_of_getElem? (i := 8) rfl), List.forall_mem_cons.mpr ⟨pm_X10_isHad_r3 _ (List.mem_of_getElem? (i := 9) rfl), List.forall_mem_cons.mpr ⟨pm_X10_isHad_r3 _ (List.mem_of_getElem? (i := 10) rfl), List.forall_mem_cons.mpr ⟨pm_X10_isHad_r3 _ (List.mem_of_getElem? (i := 11) rfl), List.forall_mem_cons.mpr ⟨pm_X10_isHad_r3 _ (List.mem_of_getElem? (i := 12) rfl), List.forall_mem_cons.mpr ⟨pm_X10_isHad_r3 _ (List.mem_of_getElem? (i := 13) rfl), List.forall_mem_cons.mpr ⟨pm_X10_isHad_r3 _ (List.mem_of_getElem? (i := 14) rfl), List.forall_mem_cons.mpr ⟨pm_X10_isHad_r3 _ (List.mem_of_getElem? (i := 15) rfl), List.forall_mem_cons.mpr ⟨pm_X10_isHad_r1 _ (List.mem_of_getElem? (i := 13) rfl), List.forall_mem_cons.mpr ⟨pm_X10_isHad_r2 _ (List.mem_of_getElem? (i := 4) rfl), List.forall_mem_cons.mpr ⟨pm_X10_isHad_r2 _ (List.mem_of_getElem? (i := 0) rfl), List.forall_mem_cons.mpr ⟨pm_X10_isHad_r2 _ (List.mem_of_getElem? (i := 1) rfl), List.forall_mem_cons.mpr ⟨pm_X10_isHad_r2 _ (List.mem_of_getElem? (i := 2) rfl), List.forall_mem_cons.mpr ⟨pm_X10_isHad_r2 _ (List.mem_of_getElem? (i := 3) rfl), List.forall_mem_cons.mpr ⟨pm_X10_isHad_r3 _ (List.mem_of_getElem? (i := 16) rfl), List.forall_mem_cons.mpr ⟨pm_X10_isHad_r3 _ (List.mem_of_getElem? (i := 17) rfl), fun _ h => absurd h List.not_mem_nil⟩⟩⟩⟩⟩⟩⟩⟩⟩⟩⟩⟩⟩⟩⟩⟩⟩⟩⟩⟩⟩⟩⟩⟩
set_option maxRecDepth 20000 in
theorem pq_X10_isHad_X10_choose_r3 : ∀ w ∈ wsX10_choose_r3, w ∈ wsX10_isHad := List.forall_mem_cons.mpr ⟨pm_X10_isHad_r3 _ (List.mem_of_getElem? (i := 18) rfl), List.forall_mem_cons.mpr ⟨pm_X10_isHad_r1 _ (List.mem_of_getElem? (i := 19) rfl), List.forall_mem_cons.mpr ⟨pm_X10_isHad_r1 _ (List.mem_of_getElem? (i := 20) rfl), List.forall_mem_cons.mpr ⟨pm_X10_isHad_r1 _ (List.mem_of_getElem? (i := 21) rfl), List.forall_mem_cons.mpr ⟨pm_X10_isHad_r1 _ (List.mem_of_getElem? (i := 22) rfl), List.forall_mem_cons.mpr ⟨pm_X10_isHad_r1 _ (List.mem_of_getElem? (i := 23) rfl), List.forall_mem_cons.mpr ⟨pm_X10_isHad_r3 _ (List.mem_of_getElem? (i := 19) rfl), List.forall_mem_cons.mpr ⟨pm_X10_isHad_r3 _ (List.mem_of_getElem? (i := 20) rfl), List.forall_mem_cons.mpr ⟨pm_X10_isHad_r3 _ (List.mem_of_getElem? (i := 21) rfl), List.forall_mem_cons.mpr ⟨pm_X10_isHad_r2 _ (List.mem_of_getElem? (i := 5) rfl), List.forall_mem_cons.mpr ⟨pm_X10_isHad_r2 _ (List.mem_of_getElem? (i := 6) rfl), List.forall_mem_cons.mpr ⟨pm_X10_isHad_r2 _ (List.mem_of_getElem? (i := 7) rfl), fun _ h => absurd h List.not_mem_nil⟩⟩⟩⟩⟩⟩⟩⟩⟩⟩⟩⟩
set_option maxRecDepth 20000 in
theorem ggX10_isHad_X10_choose : GoodIn wsX10_isHad wsX10_choose := goodIn_sub (List.forall_mem_cons.mpr ⟨pm_X10_isHad_r2 _ (List.mem_of_getElem? (i := 8) rfl), List.forall_mem_append.mpr ⟨List.forall_mem_append.mpr ⟨pq_X10_isHad_X10_choose_r1, List.forall_mem_append.mpr ⟨pq_X10_isHad_X10_choose_r2, pq_X10_isHad_X10_choose_r3⟩⟩, pw_X10_isHad_X10⟩⟩) (by decide +kernel)
set_option maxRecDepth 20000 in
theorem gX10_isHad_X10_choose : GoodIn wsX10_isHad (wsV RX10 339 RX10 yX10_choose wsX10_choose) := goodIn_app (goodIn_of _ (by decide +kernel)) ggX10_isHad_X10_choose
theorem dX10_isHad_0 : decode cX10_isHad 0 = .ok (.aload_n 0, 1) := by decide +kernel
theorem dX10_isHad_1 : decode cX10_isHad 1 = .ok (.iload_n 1, 1) := by decide +kernel
theorem dX10_isHad_2 : decode cX10_isHad 2 = .ok (.invokevirtual 343, 3) := by decide +kernel
theorem dX10_isHad_5 : decode cX10_isHad 5 = .ok (.aload_n 0, 1) := by decide +kernel
theorem dX10_isHad_6 : decode cX10_isHad 6 = .ok (.iconst 0, 1) := by decide +kernel
theorem dX10_isHad_7 : decode cX10_isHad 7 = .ok (.putfield 322, 3) := by decide +kernel
theorem dX10_isHad_10 : decode cX10_isHad 10 = .ok (.aload_n 0, 1) := by decide +kernel
theorem dX10_isHad_11 : decode cX10_isHad 11 = .ok (.iload_n 1, 1) := by decide +kernel
theorem dX10_isHad_12 : decode cX10_isHad 12 = .ok (.iconst 0, 1) := by decide +kernel
theorem dX10_isHad_13 : decode cX10_isHad 13 = .ok (.iconst 0, 1) := by decide +kernel
theorem dX10_isHad_14 : decode cX10_isHad 14 = .ok (.invokevirtual 339, 3) := by decide +kernel
theorem dX10_isHad_17 : decode cX10_isHad 17 = .ok (.aload_n 0, 1) := by decide +kernel
theorem dX10_isHad_18 : decode cX10_isHad 18 = .ok (.getfield 322, 3) := by decide +kernel
theorem dX10_isHad_21 : decode cX10_isHad 21 = .ok (.ireturn, 1) := by decide +kernel
theorem dX10_eachAlone_0 : decode cX10_eachAlone 0 = .ok (.aload_n 0, 1) := by decide +kernel
theorem dX10_eachAlone_1 : decode cX10_eachAlone 1 = .ok (.aload_n 0, 1) := by decide +kernel
theorem dX10_eachAlone_2 : decode cX10_eachAlone 2 = .ok (.getfield 17, 3) := by decide +kernel
theorem dX10_eachAlone_5 : decode cX10_eachAlone 5 = .ok (.iconst 3, 1) := by decide +kernel
theorem dX10_eachAlone_6 : decode cX10_eachAlone 6 = .ok (.iaload, 1) := by decide +kernel
theorem dX10_eachAlone_7 : decode cX10_eachAlone 7 = .ok (.putfield 289, 3) := by decide +kernel
theorem dX10_eachAlone_10 : decode cX10_eachAlone 10 = .ok (.iconst 0, 1) := by decide +kernel
theorem dX10_eachAlone_11 : decode cX10_eachAlone 11 = .ok (.istore_n 1, 1) := by decide +kernel
theorem dX10_eachAlone_12 : decode cX10_eachAlone 12 = .ok (.iload_n 1, 1) := by decide +kernel
theorem dX10_eachAlone_13 : decode cX10_eachAlone 13 = .ok (.aload_n 0, 1) := by decide +kernel
theorem dX10_eachAlone_14 : decode cX10_eachAlone 14 = .ok (.getfield 289, 3) := by decide +kernel
theorem dX10_eachAlone_17 : decode cX10_eachAlone 17 = .ok (.if_icmp .ge 16, 3) := by decide +kernel
theorem dX10_eachAlone_20 : decode cX10_eachAlone 20 = .ok (.aload_n 0, 1) := by decide +kernel
theorem dX10_eachAlone_21 : decode cX10_eachAlone 21 = .ok (.getfield 46, 3) := by decide +kernel
theorem dX10_eachAlone_24 : decode cX10_eachAlone 24 = .ok (.iload_n 1, 1) := by decide +kernel
theorem dX10_eachAlone_25 : decode cX10_eachAlone 25 = .ok (.iload_n 1, 1) := by decide +kernel
theorem dX10_eachAlone_26 : decode cX10_eachAlone 26 = .ok (.iastore, 1) := by decide +kernel
theorem dX10_eachAlone_27 : decode cX10_eachAlone 27 = .ok (.iinc 1 1, 3) := by decide +kernel
theorem dX10_eachAlone_30 : decode cX10_eachAlone 30 = .ok (.goto (-18), 3) := by decide +kernel
theorem dX10_eachAlone_33 : decode cX10_eachAlone 33 = .ok (.return_, 1) := by decide +kernel
theorem dX10_tellWages_0 : decode cX10_tellWages 0 = .ok (.aload_n 0, 1) := by decide +kernel
theorem dX10_tellWages_1 : decode cX10_tellWages 1 = .ok (.iconst 1, 1) := by decide +kernel
theorem dX10_tellWages_2 : decode cX10_tellWages 2 = .ok (.putfield 206, 3) := by decide +kernel
theorem dX10_tellWages_5 : decode cX10_tellWages 5 = .ok (.aload_n 0, 1) := by decide +kernel
theorem dX10_tellWages_6 : decode cX10_tellWages 6 = .ok (.aload_n 0, 1) := by decide +kernel
theorem dX10_tellWages_7 : decode cX10_tellWages 7 = .ok (.getfield 17, 3) := by decide +kernel
theorem dX10_tellWages_10 : decode cX10_tellWages 10 = .ok (.iconst 3, 1) := by decide +kernel
theorem dX10_tellWages_11 : decode cX10_tellWages 11 = .ok (.iaload, 1) := by decide +kernel
theorem dX10_tellWages_12 : decode cX10_tellWages 12 = .ok (.putfield 346, 3) := by decide +kernel
theorem dX10_tellWages_15 : decode cX10_tellWages 15 = .ok (.iconst 0, 1) := by decide +kernel
theorem dX10_tellWages_16 : decode cX10_tellWages 16 = .ok (.istore_n 1, 1) := by decide +kernel
theorem dX10_tellWages_17 : decode cX10_tellWages 17 = .ok (.iload_n 1, 1) := by decide +kernel
theorem dX10_tellWages_18 : decode cX10_tellWages 18 = .ok (.aload_n 0, 1) := by decide +kernel
theorem dX10_tellWages_19 : decode cX10_tellWages 19 = .ok (.getfield 346, 3) := by decide +kernel
theorem dX10_tellWages_22 : decode cX10_tellWages 22 = .ok (.if_icmp .ge 33, 3) := by decide +kernel
theorem dX10_tellWages_25 : decode cX10_tellWages 25 = .ok (.aload_n 0, 1) := by decide +kernel
theorem dX10_tellWages_26 : decode cX10_tellWages 26 = .ok (.getfield 76, 3) := by decide +kernel
theorem dX10_tellWages_29 : decode cX10_tellWages 29 = .ok (.iload_n 1, 1) := by decide +kernel
theorem dX10_tellWages_30 : decode cX10_tellWages 30 = .ok (.aload_n 0, 1) := by decide +kernel
theorem dX10_tellWages_31 : decode cX10_tellWages 31 = .ok (.getfield 70, 3) := by decide +kernel
theorem dX10_tellWages_34 : decode cX10_tellWages 34 = .ok (.iload_n 1, 1) := by decide +kernel
theorem dX10_tellWages_35 : decode cX10_tellWages 35 = .ok (.laload, 1) := by decide +kernel
theorem dX10_tellWages_36 : decode cX10_tellWages 36 = .ok (.lastore, 1) := by decide +kernel
theorem dX10_tellWages_37 : decode cX10_tellWages 37 = .ok (.aload_n 0, 1) := by decide +kernel
theorem dX10_tellWages_38 : decode cX10_tellWages 38 = .ok (.getfield 79, 3) := by decide +kernel
theorem dX10_tellWages_41 : decode cX10_tellWages 41 = .ok (.iload_n 1, 1) := by decide +kernel
theorem dX10_tellWages_42 : decode cX10_tellWages 42 = .ok (.aload_n 0, 1) := by decide +kernel
theorem dX10_tellWages_43 : decode cX10_tellWages 43 = .ok (.getfield 73, 3) := by decide +kernel
theorem dX10_tellWages_46 : decode cX10_tellWages 46 = .ok (.iload_n 1, 1) := by decide +kernel
theorem dX10_tellWages_47 : decode cX10_tellWages 47 = .ok (.laload, 1) := by decide +kernel
theorem dX10_tellWages_48 : decode cX10_tellWages 48 = .ok (.lastore, 1) := by decide +kernel
theorem dX10_tellWages_49 : decode cX10_tellWages 49 = .ok (.iinc 1 1, 3) := by decide +kernel
theorem dX10_tellWages_52 : decode cX10_tellWages 52 = .ok (.goto (-35), 3) := by decide +kernel
theorem dX10_tellWages_55 : decode cX10_tellWages 55 = .ok (.return_, 1) := by decide +kernel
theorem pm_X10_make_r1 : ∀ w ∈ wsX10_make_r1, w ∈ wsX10_make := fun _ h => List.mem_cons_of_mem _ (List.mem_append_left _ (List.mem_append_left _ h))
theorem pm_X10_make_r2 : ∀ w ∈ wsX10_make_r2, w ∈ wsX10_make := fun _ h => List.mem_cons_of_mem _ (List.mem_append_left _ (List.mem_append_right _ (List.mem_append_left _ h)))
theorem pm_X10_make_r3 : ∀ w ∈ wsX10_make_r3, w ∈ wsX10_make := fun _ h => List.mem_cons_of_mem _ (List.mem_append_left _ (List.mem_append_right _ (List.mem_append_right _ (List.mem_append_left _ h))))
theorem pm_X10_make_r4 : ∀ w ∈ wsX10_make_r4, w ∈ wsX10_make := fun _ h => List.mem_cons_of_mem _ (List.mem_append_left _ (List.mem_append_right _ (List.mem_append_right _ (List.mem_append_right _ (List.mem_append_left _ h)))))
theorem pm_X10_make_r5 : ∀ w ∈ wsX10_make_r5, w ∈ wsX10_make := fun _ h => List.mem_cons_of_mem _ (List.mem_append_left _ (List.mem_append_right _ (List.mem_append_right _ (List.mem_append_right _ (List.mem_append_right _ (h))))))
theorem pw_X10_make_X10 : ∀ w ∈ wsX100, w ∈ wsX10_make := fun _ h => List.mem_cons_of_mem _ (List.mem_append_right _ h)
set_option maxRecDepth 20000 in
theorem ggX10_make_X10_isWork : GoodIn wsX10_make wsX10_isWork := goodIn_sub (List.forall_mem_cons.mpr ⟨pm_X10_make_r1 _ (List.mem_of_getElem? (i := 6) rfl), List.forall_mem_append.mpr ⟨List.forall_mem_cons.mpr ⟨pm_X10_make_r1 _ (List.mem_of_getElem? (i := 7) rfl), List.forall_mem_cons.mpr ⟨pm_X10_make_r1 _ (List.mem_of_getElem? (i := 8) rfl), List.forall_mem_cons.mpr ⟨pm_X10_make_r1 _ (List.mem_of_getElem? (i := 9) rfl), List.forall_mem_cons.mpr ⟨pm_X10_make_r1 _ (List.mem_of_getElem? (i := 5) rfl), List.forall_mem_cons.mpr ⟨pm_X10_make_r1 _ (List.mem_of_getElem? (i := 10) rfl), fun _ h => absurd h List.not_mem_nil⟩⟩⟩⟩⟩, pw_X10_make_X10⟩⟩) (by decide +kernel)
set_option maxRecDepth 20000 in
theorem gX10_make_X10_isWork : GoodIn wsX10_make (wsV RX10 253 RX10 yX10_isWork wsX10_isWork) := goodIn_app (goodIn_of _ (by decide +kernel)) ggX10_make_X10_isWork
set_option maxRecDepth 20000 in
theorem ggX10_make_X10_eachAlone : GoodIn wsX10_make wsX10_eachAlone := goodIn_sub (List.forall_mem_cons.mpr ⟨pm_X10_make_r1 _ (List.mem_of_getElem? (i := 14) rfl), List.forall_mem_append.mpr ⟨List.forall_mem_cons.mpr ⟨pm_X10_make_r1 _ (List.mem_of_getElem? (i := 7) rfl), List.forall_mem_cons.mpr ⟨pm_X10_make_r1 _ (List.mem_of_getElem? (i := 15) rfl), List.forall_mem_cons.mpr ⟨pm_X10_make_r1 _ (List.mem_of_getElem? (i := 16) rfl), fun _ h => absurd h List.not_mem_nil⟩⟩⟩, pw_X10_make_X10⟩⟩) (by decide +kernel)
set_option maxRecDepth 20000 in
theorem gX10_make_X10_eachAlone : GoodIn wsX10_make (wsV RX10 349 RX10 yX10_eachAlone wsX10_eachAlone) := goodIn_app (goodIn_of _ (by decide +kernel)) ggX10_make_X10_eachAlone
set_option maxRecDepth 20000 in
theorem pq_X10_make_X10_isHad_r1 : ∀ w ∈ wsX10_isHad_r1, w ∈ wsX10_make := List.forall_mem_cons.mpr ⟨pm_X10_make_r1 _ (List.mem_of_getElem? (i := 21) rfl), List.forall_mem_cons.mpr ⟨pm_X10_make_r1 _ (List.mem_of_getElem? (i := 22) rfl), List.forall_mem_cons.mpr ⟨pm_X10_make_r1 _ (List.mem_of_getElem? (i := 23) rfl), List.forall_mem_cons.mpr ⟨pm_X10_make_r2 _ (List.mem_of_getElem? (i := 0) rfl), List.forall_mem_cons.mpr ⟨pm_X10_make_r1 _ (List.mem_of_getElem? (i := 5) rfl), List.forall_mem_cons.mpr ⟨pm_X10_make_r2 _ (List.mem_of_getElem? (i := 1) rfl), List.forall_mem_cons.mpr ⟨pm_X10_make_r2 _ (List.mem_of_getElem? (i := 2) rfl), List.forall_mem_cons.mpr ⟨pm_X10_make_r1 _ (List.mem_of_getElem? (i := 7) rfl), List.forall_mem_cons.mpr ⟨pm_X10_make_r2 _ (List.mem_of_getElem? (i := 3) rfl), List.forall_mem_cons.mpr ⟨pm_X10_make_r2 _ (List.mem_of_getElem? (i := 4) rfl), List.forall_mem_cons.mpr ⟨pm_X10_make_r1 _ (List.mem_of_getElem? (i := 16) rfl), List.forall_mem_cons.mpr ⟨pm_X10_make_r1 _ (List.mem_of_getElem? (i := 15) rfl), List.forall_mem_cons.mpr ⟨pm_X10_make_r2 _ (List.mem_of_getElem? (i := 5) rfl), List.forall_mem_cons.mpr ⟨pm_X10_make_r2 _ (List.mem_of_getElem? (i := 6) rfl), List.forall_mem_cons.mpr ⟨pm_X10_make_r2 _ (List.mem_of_getElem? (i := 7) rfl), List.forall_mem_cons.mpr ⟨pm_X10_make_r2 _ (List.mem_of_getElem? (i := 8) rfl), List.forall_mem_cons.mpr ⟨pm_X10_make_r2 _ (List.mem_of_getElem? (i := 9) rfl), List.forall_mem_cons.mpr ⟨pm_X10_make_r2 _ (List.mem_of_getElem? (i := 10) rfl), List.forall_mem_cons.mpr ⟨pm_X10_make_r2 _ (List.mem_of_getElem? (i := 11) rfl), List.forall_mem_cons.mpr ⟨pm_X10_make_r2 _ (List.mem_of_getElem? (i := 12) rfl), List.forall_mem_cons.mpr ⟨pm_X10_make_r2 _ (List.mem_of_getElem? (i := 13) rfl), List.forall_mem_cons.mpr ⟨pm_X10_make_r2 _ (List.mem_of_getElem? (i := 14) rfl), List.forall_mem_cons.mpr ⟨pm_X10_make_r2 _ (List.mem_of_getElem? (i := 15) rfl), List.forall_mem_cons.mpr ⟨pm_X10_make_r2 _ (List.mem_of_getElem? (i := 16) rfl), fun _ h => absurd h List.not_mem_nil⟩⟩⟩⟩⟩⟩⟩⟩⟩⟩⟩⟩⟩⟩⟩⟩⟩⟩⟩⟩⟩⟩⟩⟩
set_option maxRecDepth 20000 in
theorem pq_X10_make_X10_isHad_r2 : ∀ w ∈ wsX10_isHad_r2, w ∈ wsX10_make := List.forall_mem_cons.mpr ⟨pm_X10_make_r2 _ (List.mem_of_getElem? (i := 17) rfl), List.forall_mem_cons.mpr ⟨pm_X10_make_r2 _ (List.mem_of_getElem? (i := 18) rfl), List.forall_mem_cons.mpr ⟨pm_X10_make_r2 _ (List.mem_of_getElem? (i := 19) rfl), List.forall_mem_cons.mpr ⟨pm_X10_make_r2 _ (List.mem_of_getElem? (i := 20) rfl), List.forall_mem_cons.mpr ⟨pm_X10_make_r2 _ (List.mem_of_getElem? (i := 21) rfl), List.forall_mem_cons.mpr ⟨pm_X10_make_r2 _ (List.mem_of_getElem? (i := 22) rfl), List.forall_mem_cons.mpr ⟨pm_X10_make_r2 _ (List.mem_of_getElem? (i := 23) rfl), List.forall_mem_cons.mpr ⟨pm_X10_make_r3 _ (List.mem_of_getElem? (i := 0) rfl), List.forall_mem_cons.mpr ⟨pm_X10_make_r3 _ (List.mem_of_getElem? (i := 1) rfl), List.forall_mem_cons.mpr ⟨pm_X10_make_r3 _ (List.mem_of_getElem? (i := 2) rfl), List.forall_mem_cons.mpr ⟨pm_X10_make_r3 _ (List.mem_of_getElem? (i := 3) rfl), List.forall_mem_cons.mpr ⟨pm_X10_make_r3 _ (List.mem_of_getElem? (i := 4) rfl), List.forall_mem_cons.mpr ⟨pm_X10_make_r3 _ (List.mem_of_getElem? (i := 5) rfl), List.forall_mem_cons.mpr ⟨pm_X10_make_r3 _ (List.mem_of_getElem? (i := 6) rfl), List.forall_mem_cons.mpr ⟨pm_X10_make_r3 _ (List.mem_of_getElem? (i := 7) rfl), List.forall_mem_cons.mpr ⟨pm_X10_make_r3 _ (List.mem_of_getElem? (i := 8) rfl), List.forall_mem_cons.mpr ⟨pm_X10_make_r3 _ (List.mem_of_getElem? (i := 9) rfl), List.forall_mem_cons.mpr ⟨pm_X10_make_r3 _ (List.mem_of_getElem? (i := 10) rfl), List.forall_mem_cons.mpr ⟨pm_X10_make_r1 _ (List.mem_of_getElem? (i := 0) rfl), List.forall_mem_cons.mpr ⟨pm_X10_make_r1 _ (List.mem_of_getElem? (i := 1) rfl), List.forall_mem_cons.mpr ⟨pm_X10_make_r3 _ (List.mem_of_getElem? (i := 11) rfl), List.forall_mem_cons.mpr ⟨pm_X10_make_r3 _ (List.mem_of_getElem? (i := 12) rfl), List.forall_mem_cons.mpr ⟨pm_X10_make_r3 _ (List.mem_of_getElem? (i := 13) rfl), List.forall_mem_cons.mpr ⟨pm_X10_make_r3 _ (List.mem_of_getElem? (i := 14) rfl), fun _ h => absurd h List.not_mem_nil⟩⟩⟩⟩⟩⟩⟩⟩⟩⟩⟩⟩⟩⟩⟩⟩⟩⟩⟩⟩⟩⟩⟩⟩
set_option maxRecDepth 20000 in
theorem pq_X10_make_X10_isHad_r3 : ∀ w ∈ wsX10_isHad_r3, w ∈ wsX10_make := List.forall_mem_cons.mpr ⟨pm_X10_make_r3 _ (List.mem_of_getElem? (i := 15) rfl), List.forall_mem_cons.mpr ⟨pm_X10_make_r3 _ (List.mem_of_getElem? (i := 16) rfl), List.forall_mem_cons.mpr ⟨pm_X10_make_r3 _ (List.mem_of_getElem? (i := 17) rfl), List.forall_mem_cons.mpr ⟨pm_X10_make_r3 _ (List.mem_of_getElem? (i := 18) rfl), List.forall_mem_cons.mpr ⟨pm_X10_make_r3 _ (List.mem_of_getElem? (i := 19) rfl), List.forall_mem_cons.mpr ⟨pm_X10_make_r3 _ (List.mem_of_getElem? (i := 20) rfl), List.forall_mem_cons.mpr ⟨pm_X10_make_r3 _ (List.mem_of_getElem? (i := 21) rfl), List.forall_mem_cons.mpr ⟨pm_X10_make_r3 _ (List.mem_of_getElem? (i := 22) rfl), List.forall_mem_cons.mpr ⟨pm_X10_make_r3 _ (List.mem_of_getElem? (i := 23) rfl), List.forall_mem_cons.mpr ⟨pm_X10_make_r4 _ (List.mem_of_getElem? (i := 0) rfl), List.forall_mem_cons.mpr ⟨pm_X10_make_r4 _ (List.mem_of_getElem? (i := 1) rfl), List.forall_mem_cons.mpr ⟨pm_X10_make_r4 _ (List.mem_of_getElem? (i := 2) rfl), List.forall_mem_cons.mpr ⟨pm_X10_make_r4 _ (List.mem_of_getElem? (i := 3) rfl), List.forall_mem_cons.mpr ⟨pm_X10_make_r4 _ (List.mem_of_getElem? (i := 4) rfl), List.forall_mem_cons.mpr ⟨pm_X10_make_r4 _ (List.mem_of_getElem? (i := 5) rfl), List.forall_mem_cons.mpr ⟨pm_X10_make_r4 _ (List.mem_of_getElem? (i := 6) rfl), List.forall_mem_cons.mpr ⟨pm_X10_make_r4 _ (List.mem_of_getElem? (i := 7) rfl), List.forall_mem_cons.mpr ⟨pm_X10_make_r4 _ (List.mem_of_getElem? (i := 8) rfl), List.forall_mem_cons.mpr ⟨pm_X10_make_r4 _ (List.mem_of_getElem? (i := 9) rfl), List.forall_mem_cons.mpr ⟨pm_X10_make_r4 _ (List.mem_of_getElem? (i := 10) rfl), List.forall_mem_cons.mpr ⟨pm_X10_make_r4 _ (List.mem_of_getElem? (i := 11) rfl), List.forall_mem_cons.mpr ⟨pm_X10_make_r4 _ (List.mem_of_getElem? (i := 12) rfl), fun _ h => absurd h List.not_mem_nil⟩⟩⟩⟩⟩⟩⟩⟩⟩⟩⟩⟩⟩⟩⟩⟩⟩⟩⟩⟩⟩⟩
set_option maxRecDepth 20000 in
theorem ggX10_make_X10_isHad : GoodIn wsX10_make wsX10_isHad := goodIn_sub (List.forall_mem_cons.mpr ⟨pm_X10_make_r1 _ (List.mem_of_getElem? (i := 20) rfl), List.forall_mem_append.mpr ⟨List.forall_mem_append.mpr ⟨pq_X10_make_X10_isHad_r1, List.forall_mem_append.mpr ⟨pq_X10_make_X10_isHad_r2, pq_X10_make_X10_isHad_r3⟩⟩, pw_X10_make_X10⟩⟩) (by decide +kernel)
set_option maxRecDepth 20000 in
theorem gX10_make_X10_isHad : GoodIn wsX10_make (wsV RX10 352 RX10 yX10_isHad wsX10_isHad) := goodIn_app (goodIn_of _ (by decide +kernel)) ggX10_make_X10_isHad
set_option maxRecDepth 20000 in
theorem ggX10_make_X10_tell : GoodIn wsX10_make wsX10_tell := goodIn_sub (List.forall_mem_cons.mpr ⟨pm_X10_make_r4 _ (List.mem_of_getElem? (i := 16) rfl), List.forall_mem_append.mpr ⟨List.forall_mem_cons.mpr ⟨pm_X10_make_r4 _ (List.mem_of_getElem? (i := 17) rfl), List.forall_mem_cons.mpr ⟨pm_X10_make_r4 _ (List.mem_of_getElem? (i := 18) rfl), List.forall_mem_cons.mpr ⟨pm_X10_make_r4 _ (List.mem_of_getElem? (i := 19) rfl), List.forall_mem_cons.mpr ⟨pm_X10_make_r4 _ (List.mem_of_getElem? (i := 7) rfl), List.forall_mem_cons.mpr ⟨pm_X10_make_r4 _ (List.mem_of_getElem? (i := 8) rfl), List.forall_mem_cons.mpr ⟨pm_X10_make_r1 _ (List.mem_of_getElem? (i := 5) rfl), List.forall_mem_cons.mpr ⟨pm_X10_make_r4 _ (List.mem_of_getElem? (i := 9) rfl), fun _ h => absurd h List.not_mem_nil⟩⟩⟩⟩⟩⟩⟩, pw_X10_make_X10⟩⟩) (by decide +kernel)
set_option maxRecDepth 20000 in
theorem gX10_make_X10_tell : GoodIn wsX10_make (wsV RX10 355 RX10 yX10_tell wsX10_tell) := goodIn_app (goodIn_of _ (by decide +kernel)) ggX10_make_X10_tell
set_option maxRecDepth 20000 in
theorem ggX10_make_X10_tellWages : GoodIn wsX10_make wsX10_tellWages := goodIn_sub (List.forall_mem_cons.mpr ⟨pm_X10_make_r4 _ (List.mem_of_getElem? (i := 23) rfl), List.forall_mem_append.mpr ⟨List.forall_mem_cons.mpr ⟨pm_X10_make_r5 _ (List.mem_of_getElem? (i := 0) rfl), List.forall_mem_cons.mpr ⟨pm_X10_make_r1 _ (List.mem_of_getElem? (i := 7) rfl), List.forall_mem_cons.mpr ⟨pm_X10_make_r5 _ (List.mem_of_getElem? (i := 1) rfl), List.forall_mem_cons.mpr ⟨pm_X10_make_r5 _ (List.mem_of_getElem? (i := 2) rfl), List.forall_mem_cons.mpr ⟨pm_X10_make_r3 _ (List.mem_of_getElem? (i := 12) rfl), List.forall_mem_cons.mpr ⟨pm_X10_make_r5 _ (List.mem_of_getElem? (i := 3) rfl), List.forall_mem_cons.mpr ⟨pm_X10_make_r3 _ (List.mem_of_getElem? (i := 13) rfl), fun _ h => absurd h List.not_mem_nil⟩⟩⟩⟩⟩⟩⟩, pw_X10_make_X10⟩⟩) (by decide +kernel)
set_option maxRecDepth 20000 in
theorem gX10_make_X10_tellWages : GoodIn wsX10_make (wsV RX10 359 RX10 yX10_tellWages wsX10_tellWages) := goodIn_app (goodIn_of _ (by decide +kernel)) ggX10_make_X10_tellWages
theorem dX10_make_0 : decode cX10_make 0 = .ok (.aload_n 0, 1) := by decide +kernel
theorem dX10_make_1 : decode cX10_make 1 = .ok (.iload_n 1, 1) := by decide +kernel
theorem dX10_make_2 : decode cX10_make 2 = .ok (.invokevirtual 253, 3) := by decide +kernel
theorem dX10_make_5 : decode cX10_make 5 = .ok (.ifCond .ne 6, 3) := by decide +kernel
theorem dX10_make_8 : decode cX10_make 8 = .ok (.bipush (-2), 2) := by decide +kernel
theorem dX10_make_10 : decode cX10_make 10 = .ok (.ireturn, 1) := by decide +kernel
theorem dX10_make_11 : decode cX10_make 11 = .ok (.aload_n 0, 1) := by decide +kernel
theorem dX10_make_12 : decode cX10_make 12 = .ok (.invokevirtual 349, 3) := by decide +kernel
theorem dX10_make_15 : decode cX10_make 15 = .ok (.aload_n 0, 1) := by decide +kernel
theorem dX10_make_16 : decode cX10_make 16 = .ok (.iload_n 1, 1) := by decide +kernel
theorem dX10_make_17 : decode cX10_make 17 = .ok (.invokevirtual 352, 3) := by decide +kernel
theorem dX10_make_20 : decode cX10_make 20 = .ok (.ifCond .ne 5, 3) := by decide +kernel
theorem dX10_make_23 : decode cX10_make 23 = .ok (.iconst (-1), 1) := by decide +kernel
theorem dX10_make_24 : decode cX10_make 24 = .ok (.ireturn, 1) := by decide +kernel
theorem dX10_make_25 : decode cX10_make 25 = .ok (.aload_n 0, 1) := by decide +kernel
theorem dX10_make_26 : decode cX10_make 26 = .ok (.aload_n 0, 1) := by decide +kernel
theorem dX10_make_27 : decode cX10_make 27 = .ok (.getfield 325, 3) := by decide +kernel
theorem dX10_make_30 : decode cX10_make 30 = .ok (.aload_n 0, 1) := by decide +kernel
theorem dX10_make_31 : decode cX10_make 31 = .ok (.getfield 328, 3) := by decide +kernel
theorem dX10_make_34 : decode cX10_make 34 = .ok (.invokevirtual 355, 3) := by decide +kernel
theorem dX10_make_37 : decode cX10_make 37 = .ok (.aload_n 0, 1) := by decide +kernel
theorem dX10_make_38 : decode cX10_make 38 = .ok (.invokevirtual 359, 3) := by decide +kernel
theorem dX10_make_41 : decode cX10_make 41 = .ok (.iconst 1, 1) := by decide +kernel
theorem dX10_make_42 : decode cX10_make 42 = .ok (.ireturn, 1) := by decide +kernel
set_option maxRecDepth 20000 in
theorem ggX10_wages_X10_in : GoodIn wsX10_wages wsX10_in := goodIn_r _ [9] (by decide +kernel) (by decide +kernel)
set_option maxRecDepth 20000 in
theorem gX10_wages_X10_in : GoodIn wsX10_wages (va_wsS RX10 174 yX10_in wsX10_in) := goodIn_app (goodIn_of _ (by decide +kernel)) ggX10_wages_X10_in
theorem dX10_wages_0 : decode cX10_wages 0 = .ok (.aload_n 0, 1) := by decide +kernel
theorem dX10_wages_1 : decode cX10_wages 1 = .ok (.getfield 206, 3) := by decide +kernel
theorem dX10_wages_4 : decode cX10_wages 4 = .ok (.ifCond .eq 19, 3) := by decide +kernel
theorem dX10_wages_7 : decode cX10_wages 7 = .ok (.iload_n 1, 1) := by decide +kernel
theorem dX10_wages_8 : decode cX10_wages 8 = .ok (.i2l, 1) := by decide +kernel
theorem dX10_wages_9 : decode cX10_wages 9 = .ok (.lconst 0, 1) := by decide +kernel
theorem dX10_wages_10 : decode cX10_wages 10 = .ok (.aload_n 0, 1) := by decide +kernel
theorem dX10_wages_11 : decode cX10_wages 11 = .ok (.getfield 346, 3) := by decide +kernel
theorem dX10_wages_14 : decode cX10_wages 14 = .ok (.iconst 1, 1) := by decide +kernel
theorem dX10_wages_15 : decode cX10_wages 15 = .ok (.isub, 1) := by decide +kernel
theorem dX10_wages_16 : decode cX10_wages 16 = .ok (.i2l, 1) := by decide +kernel
theorem dX10_wages_17 : decode cX10_wages 17 = .ok (.invokestatic 174, 3) := by decide +kernel
theorem dX10_wages_20 : decode cX10_wages 20 = .ok (.ifCond .ne 9, 3) := by decide +kernel
theorem dX10_wages_23 : decode cX10_wages 23 = .ok (.ldc2_w 313, 3) := by decide +kernel
theorem dX10_wages_26 : decode cX10_wages 26 = .ok (.goto 22, 3) := by decide +kernel
theorem dX10_wages_29 : decode cX10_wages 29 = .ok (.iload_n 2, 1) := by decide +kernel
theorem dX10_wages_30 : decode cX10_wages 30 = .ok (.ifCond .eq 12, 3) := by decide +kernel
theorem dX10_wages_33 : decode cX10_wages 33 = .ok (.aload_n 0, 1) := by decide +kernel
theorem dX10_wages_34 : decode cX10_wages 34 = .ok (.getfield 79, 3) := by decide +kernel
theorem dX10_wages_37 : decode cX10_wages 37 = .ok (.iload_n 1, 1) := by decide +kernel
theorem dX10_wages_38 : decode cX10_wages 38 = .ok (.laload, 1) := by decide +kernel
theorem dX10_wages_39 : decode cX10_wages 39 = .ok (.goto 9, 3) := by decide +kernel
theorem dX10_wages_42 : decode cX10_wages 42 = .ok (.aload_n 0, 1) := by decide +kernel
theorem dX10_wages_43 : decode cX10_wages 43 = .ok (.getfield 76, 3) := by decide +kernel
theorem dX10_wages_46 : decode cX10_wages 46 = .ok (.iload_n 1, 1) := by decide +kernel
theorem dX10_wages_47 : decode cX10_wages 47 = .ok (.laload, 1) := by decide +kernel
theorem dX10_wages_48 : decode cX10_wages 48 = .ok (.lreturn, 1) := by decide +kernel
theorem kk_X10_isHad_0 : Cond.fieldLink RX10 322 "PaidBySignsModel" "isFound" "Z" ∈ wsX10_isHad := pm_X10_isHad_r1 _ (List.mem_of_getElem? (i := 0) rfl)
theorem kk_X10_eachAlone_0 : Cond.fieldLink RX10 17 "PaidBySignsModel" "num" "[I" ∈ wsX10_eachAlone := by decide +kernel
theorem kk_X10_eachAlone_1 : Cond.fieldLink RX10 289 "PaidBySignsModel" "groups" "I" ∈ wsX10_eachAlone := by decide +kernel
theorem kk_X10_eachAlone_2 : Cond.fieldLink RX10 46 "PaidBySignsModel" "groupOf" "[I" ∈ wsX10_eachAlone := by decide +kernel
theorem kk_X10_tellWages_0 : Cond.fieldLink RX10 206 "PaidBySignsModel" "hasWages" "Z" ∈ wsX10_tellWages := by decide +kernel
theorem kk_X10_tellWages_1 : Cond.fieldLink RX10 17 "PaidBySignsModel" "num" "[I" ∈ wsX10_tellWages := by decide +kernel
theorem kk_X10_tellWages_2 : Cond.fieldLink RX10 346 "PaidBySignsModel" "wageMany" "I" ∈ wsX10_tellWages := by decide +kernel
theorem kk_X10_tellWages_3 : Cond.fieldLink RX10 76 "PaidBySignsModel" "toldUp" "[J" ∈ wsX10_tellWages := by decide +kernel
theorem kk_X10_tellWages_4 : Cond.fieldLink RX10 70 "PaidBySignsModel" "bestUp" "[J" ∈ wsX10_tellWages := by decide +kernel
theorem kk_X10_tellWages_5 : Cond.fieldLink RX10 79 "PaidBySignsModel" "toldLow" "[J" ∈ wsX10_tellWages := by decide +kernel
theorem kk_X10_tellWages_6 : Cond.fieldLink RX10 73 "PaidBySignsModel" "bestLow" "[J" ∈ wsX10_tellWages := by decide +kernel
theorem kk_X10_make_0 : Cond.fieldLink RX10 325 "PaidBySignsModel" "costUp" "J" ∈ wsX10_make := pm_X10_make_r1 _ (List.mem_of_getElem? (i := 0) rfl)
theorem kk_X10_make_1 : Cond.fieldLink RX10 328 "PaidBySignsModel" "costLow" "J" ∈ wsX10_make := pm_X10_make_r1 _ (List.mem_of_getElem? (i := 1) rfl)
theorem kk_X10_wages_0 : Cond.fieldLink RX10 206 "PaidBySignsModel" "hasWages" "Z" ∈ wsX10_wages := by decide +kernel
theorem kk_X10_wages_1 : Cond.constantLong RX10 313 (-1) ∈ wsX10_wages := by decide +kernel
theorem kk_X10_wages_2 : Cond.fieldLink RX10 346 "PaidBySignsModel" "wageMany" "I" ∈ wsX10_wages := by decide +kernel
theorem kk_X10_wages_3 : Cond.fieldLink RX10 76 "PaidBySignsModel" "toldUp" "[J" ∈ wsX10_wages := by decide +kernel
theorem kk_X10_wages_4 : Cond.fieldLink RX10 79 "PaidBySignsModel" "toldLow" "[J" ∈ wsX10_wages := by decide +kernel
theorem iw_X10_isHad_X10 : ∀ w ∈ wsX100, w ∈ wsX10_isHad := pw_X10_isHad_X10
theorem iw_X10_eachAlone_X10 : ∀ w ∈ wsX100, w ∈ wsX10_eachAlone := by decide +kernel
theorem iw_X10_tellWages_X10 : ∀ w ∈ wsX100, w ∈ wsX10_tellWages := by decide +kernel
theorem iw_X10_make_X10 : ∀ w ∈ wsX100, w ∈ wsX10_make := pw_X10_make_X10
theorem iw_X10_wages_X10 : ∀ w ∈ wsX100, w ∈ wsX10_wages := by decide +kernel

abbrev cX10_seen : ByteArray := prog_12_method_58_code
def yX10_seen : MethodName := ⟨RX10, "seen", "(I)I"⟩
abbrev cX10_bestWork : ByteArray := prog_12_method_59_code
def yX10_bestWork : MethodName := ⟨RX10, "bestWork", "()I"⟩
abbrev cX10_best : ByteArray := prog_12_method_60_code
def yX10_best : MethodName := ⟨RX10, "best", "()I"⟩
abbrev cX10_merged : ByteArray := prog_12_method_61_code
def yX10_merged : MethodName := ⟨RX10, "merged", "(III)I"⟩
abbrev cX10_isDone : ByteArray := prog_12_method_62_code
def yX10_isDone : MethodName := ⟨RX10, "isDone", "(I)Z"⟩
def wsX10_seen_r1 : List Cond := [Cond.fieldLink RX10 31 "PaidBySignsModel" "costs" "[I", Cond.fieldLink RX10 17 "PaidBySignsModel" "num" "[I", Cond.fieldLink RX10 64 "PaidBySignsModel" "wageUp" "[J", Cond.fieldLink RX10 67 "PaidBySignsModel" "wageLow" "[J", Cond.methodLink RX10 253 yX10_isWork, Cond.instanceMethod yX10_isWork, Cond.selects RX10 yX10_isWork yX10_isWork, Cond.initialized RX10, Cond.code yX10_isWork cX10_isWork 2 (some .boolean), Cond.methodLink RX10 174 yX10_in, Cond.static yX10_in, Cond.code yX10_in cX10_in 6 (some .boolean), Cond.methodLink RX10 264 yX10_feel, Cond.instanceMethod yX10_feel, Cond.selects RX10 yX10_feel yX10_feel, Cond.code yX10_feel cX10_feel 6 (some .int), Cond.fieldLink RX10 40 "PaidBySignsModel" "marks" "[I", Cond.fieldLink RX10 37 "PaidBySignsModel" "rates" "[I", Cond.methodLink RX10 318 yX10_wageOf, Cond.instanceMethod yX10_wageOf, Cond.selects RX10 yX10_wageOf yX10_wageOf, Cond.code yX10_wageOf cX10_wageOf 13 none, Cond.methodLink RX10 277 yX10_common, Cond.static yX10_common]
def wsX10_seen_r2 : List Cond := [Cond.code yX10_common cX10_common 10 (some .long), Cond.methodLink RX10 355 yX10_tell, Cond.instanceMethod yX10_tell, Cond.selects RX10 yX10_tell yX10_tell, Cond.code yX10_tell cX10_tell 7 none, Cond.fieldLink RX10 281 "PaidBySignsModel" "upper" "J", Cond.fieldLink RX10 284 "PaidBySignsModel" "lower" "J", Cond.fieldLink RX10 202 "PaidBySignsModel" "hasFraction" "Z"]
def wsX10_seen : List Cond := .code yX10_seen cX10_seen 4 (some .int) :: ((wsX10_seen_r1 ++ wsX10_seen_r2) ++ wsX100)
def wsX10_bestWork_r1 : List Cond := [Cond.fieldLink RX10 17 "PaidBySignsModel" "num" "[I", Cond.fieldLink RX10 28 "PaidBySignsModel" "brings" "[I", Cond.fieldLink RX10 328 "PaidBySignsModel" "costLow" "J", Cond.fieldLink RX10 325 "PaidBySignsModel" "costUp" "J", Cond.fieldLink RX10 362 "PaidBySignsModel" "bestLeftUp" "J", Cond.fieldLink RX10 365 "PaidBySignsModel" "bestLeftLow" "J", Cond.methodLink RX10 349 yX10_eachAlone, Cond.instanceMethod yX10_eachAlone, Cond.selects RX10 yX10_eachAlone yX10_eachAlone, Cond.initialized RX10, Cond.code yX10_eachAlone cX10_eachAlone 2 none, Cond.fieldLink RX10 289 "PaidBySignsModel" "groups" "I", Cond.fieldLink RX10 46 "PaidBySignsModel" "groupOf" "[I", Cond.methodLink RX10 352 yX10_isHad, Cond.instanceMethod yX10_isHad, Cond.selects RX10 yX10_isHad yX10_isHad, Cond.code yX10_isHad cX10_isHad 2 (some .boolean), Cond.fieldLink RX10 322 "PaidBySignsModel" "isFound" "Z", Cond.methodLink RX10 343 yX10_makeBounds, Cond.instanceMethod yX10_makeBounds, Cond.selects RX10 yX10_makeBounds yX10_makeBounds, Cond.code yX10_makeBounds cX10_makeBounds 5 none, Cond.fieldLink RX10 292 "PaidBySignsModel" "bounds" "I", Cond.fieldLink RX10 31 "PaidBySignsModel" "costs" "[I"]
def wsX10_bestWork_r2 : List Cond := [Cond.fieldLink RX10 49 "PaidBySignsModel" "row" "[J", Cond.fieldLink RX10 299 "PaidBySignsModel" "asked" "I", Cond.fieldLink RX10 40 "PaidBySignsModel" "marks" "[I", Cond.methodLink RX10 295 yX10_addBound, Cond.instanceMethod yX10_addBound, Cond.selects RX10 yX10_addBound yX10_addBound, Cond.code yX10_addBound cX10_addBound 4 (some .int), Cond.fieldLink RX10 52 "PaidBySignsModel" "least" "[J", Cond.methodLink RX10 259 yX10_chanceOf, Cond.instanceMethod yX10_chanceOf, Cond.selects RX10 yX10_chanceOf yX10_chanceOf, Cond.code yX10_chanceOf cX10_chanceOf 3 (some .int), Cond.fieldLink RX10 34 "PaidBySignsModel" "chances" "[I", Cond.methodLink RX10 264 yX10_feel, Cond.instanceMethod yX10_feel, Cond.selects RX10 yX10_feel yX10_feel, Cond.code yX10_feel cX10_feel 6 (some .int), Cond.fieldLink RX10 37 "PaidBySignsModel" "rates" "[I", Cond.methodLink RX10 339 yX10_choose, Cond.instanceMethod yX10_choose, Cond.selects RX10 yX10_choose yX10_choose, Cond.code yX10_choose cX10_choose 5 none, Cond.fieldLink RX10 55 "PaidBySignsModel" "chosen" "[I", Cond.methodLink RX10 335 yX10_look]
def wsX10_bestWork_r3 : List Cond := [Cond.instanceMethod yX10_look, Cond.selects RX10 yX10_look yX10_look, Cond.code yX10_look cX10_look 10 none, Cond.fieldLink RX10 61 "PaidBySignsModel" "x" "[J", Cond.fieldLink RX10 310 "PaidBySignsModel" "det" "J", Cond.fieldLink RX10 67 "PaidBySignsModel" "wageLow" "[J", Cond.fieldLink RX10 64 "PaidBySignsModel" "wageUp" "[J", Cond.constantLong RX10 313 (-1), Cond.fieldLink RX10 70 "PaidBySignsModel" "bestUp" "[J", Cond.fieldLink RX10 73 "PaidBySignsModel" "bestLow" "[J", Cond.methodLink RX10 315 yX10_isCorner, Cond.instanceMethod yX10_isCorner, Cond.selects RX10 yX10_isCorner yX10_isCorner, Cond.code yX10_isCorner cX10_isCorner 7 (some .boolean), Cond.methodLink RX10 306 yX10_determinant, Cond.instanceMethod yX10_determinant, Cond.selects RX10 yX10_determinant yX10_determinant, Cond.code yX10_determinant cX10_determinant 4 (some .long), Cond.fieldLink RX10 58 "PaidBySignsModel" "matrix" "[J", Cond.methodLink RX10 302 yX10_minor, Cond.instanceMethod yX10_minor, Cond.selects RX10 yX10_minor yX10_minor, Cond.code yX10_minor cX10_minor 7 (some .long), Cond.methodLink RX10 318 yX10_wageOf]
def wsX10_bestWork_r4 : List Cond := [Cond.instanceMethod yX10_wageOf, Cond.selects RX10 yX10_wageOf yX10_wageOf, Cond.code yX10_wageOf cX10_wageOf 13 none, Cond.methodLink RX10 277 yX10_common, Cond.static yX10_common, Cond.code yX10_common cX10_common 10 (some .long), Cond.methodLink RX10 331 yX10_apart, Cond.static yX10_apart, Cond.code yX10_apart cX10_apart 8 (some .long)]
def wsX10_bestWork : List Cond := .code yX10_bestWork cX10_bestWork 11 (some .int) :: ((wsX10_bestWork_r1 ++ (wsX10_bestWork_r2 ++ (wsX10_bestWork_r3 ++ wsX10_bestWork_r4))) ++ wsX100)
def wsX10_best_r1 : List Cond := [Cond.fieldLink RX10 362 "PaidBySignsModel" "bestLeftUp" "J", Cond.fieldLink RX10 365 "PaidBySignsModel" "bestLeftLow" "J", Cond.methodLink RX10 368 yX10_bestWork, Cond.instanceMethod yX10_bestWork, Cond.selects RX10 yX10_bestWork yX10_bestWork, Cond.initialized RX10, Cond.code yX10_bestWork cX10_bestWork 11 (some .int), Cond.fieldLink RX10 17 "PaidBySignsModel" "num" "[I", Cond.fieldLink RX10 28 "PaidBySignsModel" "brings" "[I", Cond.fieldLink RX10 328 "PaidBySignsModel" "costLow" "J", Cond.fieldLink RX10 325 "PaidBySignsModel" "costUp" "J", Cond.methodLink RX10 349 yX10_eachAlone, Cond.instanceMethod yX10_eachAlone, Cond.selects RX10 yX10_eachAlone yX10_eachAlone, Cond.code yX10_eachAlone cX10_eachAlone 2 none, Cond.fieldLink RX10 289 "PaidBySignsModel" "groups" "I", Cond.fieldLink RX10 46 "PaidBySignsModel" "groupOf" "[I", Cond.methodLink RX10 352 yX10_isHad, Cond.instanceMethod yX10_isHad, Cond.selects RX10 yX10_isHad yX10_isHad, Cond.code yX10_isHad cX10_isHad 2 (some .boolean), Cond.fieldLink RX10 322 "PaidBySignsModel" "isFound" "Z", Cond.methodLink RX10 343 yX10_makeBounds, Cond.instanceMethod yX10_makeBounds]
def wsX10_best_r2 : List Cond := [Cond.selects RX10 yX10_makeBounds yX10_makeBounds, Cond.code yX10_makeBounds cX10_makeBounds 5 none, Cond.fieldLink RX10 292 "PaidBySignsModel" "bounds" "I", Cond.fieldLink RX10 31 "PaidBySignsModel" "costs" "[I", Cond.fieldLink RX10 49 "PaidBySignsModel" "row" "[J", Cond.fieldLink RX10 299 "PaidBySignsModel" "asked" "I", Cond.fieldLink RX10 40 "PaidBySignsModel" "marks" "[I", Cond.methodLink RX10 295 yX10_addBound, Cond.instanceMethod yX10_addBound, Cond.selects RX10 yX10_addBound yX10_addBound, Cond.code yX10_addBound cX10_addBound 4 (some .int), Cond.fieldLink RX10 52 "PaidBySignsModel" "least" "[J", Cond.methodLink RX10 259 yX10_chanceOf, Cond.instanceMethod yX10_chanceOf, Cond.selects RX10 yX10_chanceOf yX10_chanceOf, Cond.code yX10_chanceOf cX10_chanceOf 3 (some .int), Cond.fieldLink RX10 34 "PaidBySignsModel" "chances" "[I", Cond.methodLink RX10 264 yX10_feel, Cond.instanceMethod yX10_feel, Cond.selects RX10 yX10_feel yX10_feel, Cond.code yX10_feel cX10_feel 6 (some .int), Cond.fieldLink RX10 37 "PaidBySignsModel" "rates" "[I", Cond.methodLink RX10 339 yX10_choose, Cond.instanceMethod yX10_choose]
def wsX10_best_r3 : List Cond := [Cond.selects RX10 yX10_choose yX10_choose, Cond.code yX10_choose cX10_choose 5 none, Cond.fieldLink RX10 55 "PaidBySignsModel" "chosen" "[I", Cond.methodLink RX10 335 yX10_look, Cond.instanceMethod yX10_look, Cond.selects RX10 yX10_look yX10_look, Cond.code yX10_look cX10_look 10 none, Cond.fieldLink RX10 61 "PaidBySignsModel" "x" "[J", Cond.fieldLink RX10 310 "PaidBySignsModel" "det" "J", Cond.fieldLink RX10 67 "PaidBySignsModel" "wageLow" "[J", Cond.fieldLink RX10 64 "PaidBySignsModel" "wageUp" "[J", Cond.constantLong RX10 313 (-1), Cond.fieldLink RX10 70 "PaidBySignsModel" "bestUp" "[J", Cond.fieldLink RX10 73 "PaidBySignsModel" "bestLow" "[J", Cond.methodLink RX10 315 yX10_isCorner, Cond.instanceMethod yX10_isCorner, Cond.selects RX10 yX10_isCorner yX10_isCorner, Cond.code yX10_isCorner cX10_isCorner 7 (some .boolean), Cond.methodLink RX10 306 yX10_determinant, Cond.instanceMethod yX10_determinant, Cond.selects RX10 yX10_determinant yX10_determinant, Cond.code yX10_determinant cX10_determinant 4 (some .long), Cond.fieldLink RX10 58 "PaidBySignsModel" "matrix" "[J", Cond.methodLink RX10 302 yX10_minor]
def wsX10_best_r4 : List Cond := [Cond.instanceMethod yX10_minor, Cond.selects RX10 yX10_minor yX10_minor, Cond.code yX10_minor cX10_minor 7 (some .long), Cond.methodLink RX10 318 yX10_wageOf, Cond.instanceMethod yX10_wageOf, Cond.selects RX10 yX10_wageOf yX10_wageOf, Cond.code yX10_wageOf cX10_wageOf 13 none, Cond.methodLink RX10 277 yX10_common, Cond.static yX10_common, Cond.code yX10_common cX10_common 10 (some .long), Cond.methodLink RX10 331 yX10_apart, Cond.static yX10_apart, Cond.code yX10_apart cX10_apart 8 (some .long), Cond.methodLink RX10 355 yX10_tell, Cond.instanceMethod yX10_tell, Cond.selects RX10 yX10_tell yX10_tell, Cond.code yX10_tell cX10_tell 7 none, Cond.fieldLink RX10 281 "PaidBySignsModel" "upper" "J", Cond.fieldLink RX10 284 "PaidBySignsModel" "lower" "J", Cond.fieldLink RX10 202 "PaidBySignsModel" "hasFraction" "Z"]
def wsX10_best : List Cond := .code yX10_best cX10_best 2 (some .int) :: ((wsX10_best_r1 ++ (wsX10_best_r2 ++ (wsX10_best_r3 ++ wsX10_best_r4))) ++ wsX100)
def wsX10_merged_r1 : List Cond := [Cond.fieldLink RX10 289 "PaidBySignsModel" "groups" "I", Cond.fieldLink RX10 17 "PaidBySignsModel" "num" "[I", Cond.fieldLink RX10 46 "PaidBySignsModel" "groupOf" "[I", Cond.fieldLink RX10 325 "PaidBySignsModel" "costUp" "J", Cond.fieldLink RX10 328 "PaidBySignsModel" "costLow" "J", Cond.methodLink RX10 253 yX10_isWork, Cond.instanceMethod yX10_isWork, Cond.selects RX10 yX10_isWork yX10_isWork, Cond.initialized RX10, Cond.code yX10_isWork cX10_isWork 2 (some .boolean), Cond.methodLink RX10 174 yX10_in, Cond.static yX10_in, Cond.code yX10_in cX10_in 6 (some .boolean), Cond.methodLink RX10 256 yX10_isSign, Cond.instanceMethod yX10_isSign, Cond.selects RX10 yX10_isSign yX10_isSign, Cond.code yX10_isSign cX10_isSign 2 (some .boolean), Cond.methodLink RX10 352 yX10_isHad, Cond.instanceMethod yX10_isHad, Cond.selects RX10 yX10_isHad yX10_isHad, Cond.code yX10_isHad cX10_isHad 2 (some .boolean), Cond.fieldLink RX10 322 "PaidBySignsModel" "isFound" "Z", Cond.methodLink RX10 343 yX10_makeBounds, Cond.instanceMethod yX10_makeBounds]
def wsX10_merged_r2 : List Cond := [Cond.selects RX10 yX10_makeBounds yX10_makeBounds, Cond.code yX10_makeBounds cX10_makeBounds 5 none, Cond.fieldLink RX10 292 "PaidBySignsModel" "bounds" "I", Cond.fieldLink RX10 31 "PaidBySignsModel" "costs" "[I", Cond.fieldLink RX10 49 "PaidBySignsModel" "row" "[J", Cond.fieldLink RX10 299 "PaidBySignsModel" "asked" "I", Cond.fieldLink RX10 40 "PaidBySignsModel" "marks" "[I", Cond.methodLink RX10 295 yX10_addBound, Cond.instanceMethod yX10_addBound, Cond.selects RX10 yX10_addBound yX10_addBound, Cond.code yX10_addBound cX10_addBound 4 (some .int), Cond.fieldLink RX10 52 "PaidBySignsModel" "least" "[J", Cond.methodLink RX10 259 yX10_chanceOf, Cond.instanceMethod yX10_chanceOf, Cond.selects RX10 yX10_chanceOf yX10_chanceOf, Cond.code yX10_chanceOf cX10_chanceOf 3 (some .int), Cond.fieldLink RX10 34 "PaidBySignsModel" "chances" "[I", Cond.methodLink RX10 264 yX10_feel, Cond.instanceMethod yX10_feel, Cond.selects RX10 yX10_feel yX10_feel, Cond.code yX10_feel cX10_feel 6 (some .int), Cond.fieldLink RX10 37 "PaidBySignsModel" "rates" "[I", Cond.methodLink RX10 339 yX10_choose, Cond.instanceMethod yX10_choose]
def wsX10_merged_r3 : List Cond := [Cond.selects RX10 yX10_choose yX10_choose, Cond.code yX10_choose cX10_choose 5 none, Cond.fieldLink RX10 55 "PaidBySignsModel" "chosen" "[I", Cond.methodLink RX10 335 yX10_look, Cond.instanceMethod yX10_look, Cond.selects RX10 yX10_look yX10_look, Cond.code yX10_look cX10_look 10 none, Cond.fieldLink RX10 61 "PaidBySignsModel" "x" "[J", Cond.fieldLink RX10 310 "PaidBySignsModel" "det" "J", Cond.fieldLink RX10 67 "PaidBySignsModel" "wageLow" "[J", Cond.fieldLink RX10 64 "PaidBySignsModel" "wageUp" "[J", Cond.constantLong RX10 313 (-1), Cond.fieldLink RX10 70 "PaidBySignsModel" "bestUp" "[J", Cond.fieldLink RX10 73 "PaidBySignsModel" "bestLow" "[J", Cond.methodLink RX10 315 yX10_isCorner, Cond.instanceMethod yX10_isCorner, Cond.selects RX10 yX10_isCorner yX10_isCorner, Cond.code yX10_isCorner cX10_isCorner 7 (some .boolean), Cond.methodLink RX10 306 yX10_determinant, Cond.instanceMethod yX10_determinant, Cond.selects RX10 yX10_determinant yX10_determinant, Cond.code yX10_determinant cX10_determinant 4 (some .long), Cond.fieldLink RX10 58 "PaidBySignsModel" "matrix" "[J", Cond.methodLink RX10 302 yX10_minor]
def wsX10_merged_r4 : List Cond := [Cond.instanceMethod yX10_minor, Cond.selects RX10 yX10_minor yX10_minor, Cond.code yX10_minor cX10_minor 7 (some .long), Cond.methodLink RX10 318 yX10_wageOf, Cond.instanceMethod yX10_wageOf, Cond.selects RX10 yX10_wageOf yX10_wageOf, Cond.code yX10_wageOf cX10_wageOf 13 none, Cond.methodLink RX10 277 yX10_common, Cond.static yX10_common, Cond.code yX10_common cX10_common 10 (some .long), Cond.methodLink RX10 331 yX10_apart, Cond.static yX10_apart, Cond.code yX10_apart cX10_apart 8 (some .long), Cond.methodLink RX10 355 yX10_tell, Cond.instanceMethod yX10_tell, Cond.selects RX10 yX10_tell yX10_tell, Cond.code yX10_tell cX10_tell 7 none, Cond.fieldLink RX10 281 "PaidBySignsModel" "upper" "J", Cond.fieldLink RX10 284 "PaidBySignsModel" "lower" "J", Cond.fieldLink RX10 202 "PaidBySignsModel" "hasFraction" "Z"]
def wsX10_merged : List Cond := .code yX10_merged cX10_merged 7 (some .int) :: ((wsX10_merged_r1 ++ (wsX10_merged_r2 ++ (wsX10_merged_r3 ++ wsX10_merged_r4))) ++ wsX100)
def wsX10_isDone : List Cond := .code yX10_isDone cX10_isDone 8 (some .boolean) :: ([.fieldLink RX10 17 "PaidBySignsModel" "num" "[I", .fieldLink RX10 82 "PaidBySignsModel" "coin" "[I", .fieldLink RX10 31 "PaidBySignsModel" "costs" "[I", .methodLink RX10 259 yX10_chanceOf, .instanceMethod yX10_chanceOf, .selects RX10 yX10_chanceOf yX10_chanceOf, .initialized RX10, .code yX10_chanceOf cX10_chanceOf 3 (some .int), .fieldLink RX10 34 "PaidBySignsModel" "chances" "[I", .methodLink RX10 264 yX10_feel, .instanceMethod yX10_feel, .selects RX10 yX10_feel yX10_feel, .code yX10_feel cX10_feel 6 (some .int), .fieldLink RX10 40 "PaidBySignsModel" "marks" "[I", .fieldLink RX10 37 "PaidBySignsModel" "rates" "[I"] ++ wsX100)
theorem pm_X10_seen_r1 : ∀ w ∈ wsX10_seen_r1, w ∈ wsX10_seen := fun _ h => List.mem_cons_of_mem _ (List.mem_append_left _ (List.mem_append_left _ h))
theorem pm_X10_seen_r2 : ∀ w ∈ wsX10_seen_r2, w ∈ wsX10_seen := fun _ h => List.mem_cons_of_mem _ (List.mem_append_left _ (List.mem_append_right _ (h)))
theorem pw_X10_seen_X10 : ∀ w ∈ wsX100, w ∈ wsX10_seen := fun _ h => List.mem_cons_of_mem _ (List.mem_append_right _ h)
set_option maxRecDepth 20000 in
theorem ggX10_seen_X10_isWork : GoodIn wsX10_seen wsX10_isWork := goodIn_sub (List.forall_mem_cons.mpr ⟨pm_X10_seen_r1 _ (List.mem_of_getElem? (i := 8) rfl), List.forall_mem_append.mpr ⟨List.forall_mem_cons.mpr ⟨pm_X10_seen_r1 _ (List.mem_of_getElem? (i := 1) rfl), List.forall_mem_cons.mpr ⟨pm_X10_seen_r1 _ (List.mem_of_getElem? (i := 9) rfl), List.forall_mem_cons.mpr ⟨pm_X10_seen_r1 _ (List.mem_of_getElem? (i := 10) rfl), List.forall_mem_cons.mpr ⟨pm_X10_seen_r1 _ (List.mem_of_getElem? (i := 7) rfl), List.forall_mem_cons.mpr ⟨pm_X10_seen_r1 _ (List.mem_of_getElem? (i := 11) rfl), fun _ h => absurd h List.not_mem_nil⟩⟩⟩⟩⟩, pw_X10_seen_X10⟩⟩) (by decide +kernel)
set_option maxRecDepth 20000 in
theorem gX10_seen_X10_isWork : GoodIn wsX10_seen (wsV RX10 253 RX10 yX10_isWork wsX10_isWork) := goodIn_app (goodIn_of _ (by decide +kernel)) ggX10_seen_X10_isWork
set_option maxRecDepth 20000 in
theorem ggX10_seen_X10_feel : GoodIn wsX10_seen wsX10_feel := goodIn_sub (List.forall_mem_cons.mpr ⟨pm_X10_seen_r1 _ (List.mem_of_getElem? (i := 15) rfl), List.forall_mem_append.mpr ⟨List.forall_mem_cons.mpr ⟨pm_X10_seen_r1 _ (List.mem_of_getElem? (i := 1) rfl), List.forall_mem_cons.mpr ⟨pm_X10_seen_r1 _ (List.mem_of_getElem? (i := 16) rfl), List.forall_mem_cons.mpr ⟨pm_X10_seen_r1 _ (List.mem_of_getElem? (i := 17) rfl), fun _ h => absurd h List.not_mem_nil⟩⟩⟩, pw_X10_seen_X10⟩⟩) (by decide +kernel)
set_option maxRecDepth 20000 in
theorem gX10_seen_X10_feel : GoodIn wsX10_seen (wsV RX10 264 RX10 yX10_feel wsX10_feel) := goodIn_app (goodIn_of _ (by decide +kernel)) ggX10_seen_X10_feel
set_option maxRecDepth 20000 in
theorem ggX10_seen_X10_wageOf : GoodIn wsX10_seen wsX10_wageOf := goodIn_sub (List.forall_mem_cons.mpr ⟨pm_X10_seen_r1 _ (List.mem_of_getElem? (i := 21) rfl), List.forall_mem_append.mpr ⟨List.forall_mem_cons.mpr ⟨pm_X10_seen_r1 _ (List.mem_of_getElem? (i := 1) rfl), List.forall_mem_cons.mpr ⟨pm_X10_seen_r1 _ (List.mem_of_getElem? (i := 16) rfl), List.forall_mem_cons.mpr ⟨pm_X10_seen_r1 _ (List.mem_of_getElem? (i := 2) rfl), List.forall_mem_cons.mpr ⟨pm_X10_seen_r1 _ (List.mem_of_getElem? (i := 17) rfl), List.forall_mem_cons.mpr ⟨pm_X10_seen_r1 _ (List.mem_of_getElem? (i := 3) rfl), List.forall_mem_cons.mpr ⟨pm_X10_seen_r1 _ (List.mem_of_getElem? (i := 12) rfl), List.forall_mem_cons.mpr ⟨pm_X10_seen_r1 _ (List.mem_of_getElem? (i := 13) rfl), List.forall_mem_cons.mpr ⟨pm_X10_seen_r1 _ (List.mem_of_getElem? (i := 14) rfl), List.forall_mem_cons.mpr ⟨pm_X10_seen_r1 _ (List.mem_of_getElem? (i := 7) rfl), List.forall_mem_cons.mpr ⟨pm_X10_seen_r1 _ (List.mem_of_getElem? (i := 15) rfl), List.forall_mem_cons.mpr ⟨pm_X10_seen_r1 _ (List.mem_of_getElem? (i := 22) rfl), List.forall_mem_cons.mpr ⟨pm_X10_seen_r1 _ (List.mem_of_getElem? (i := 23) rfl), List.forall_mem_cons.mpr ⟨pm_X10_seen_r2 _ (List.mem_of_getElem? (i := 0) rfl), fun _ h => absurd h List.not_mem_nil⟩⟩⟩⟩⟩⟩⟩⟩⟩⟩⟩⟩⟩, pw_X10_seen_X10⟩⟩) (by decide +kernel)
set_option maxRecDepth 20000 in
theorem gX10_seen_X10_wageOf : GoodIn wsX10_seen (wsV RX10 318 RX10 yX10_wageOf wsX10_wageOf) := goodIn_app (goodIn_of _ (by decide +kernel)) ggX10_seen_X10_wageOf
set_option maxRecDepth 20000 in
theorem ggX10_seen_X10_tell : GoodIn wsX10_seen wsX10_tell := goodIn_sub (List.forall_mem_cons.mpr ⟨pm_X10_seen_r2 _ (List.mem_of_getElem? (i := 4) rfl), List.forall_mem_append.mpr ⟨List.forall_mem_cons.mpr ⟨pm_X10_seen_r2 _ (List.mem_of_getElem? (i := 5) rfl), List.forall_mem_cons.mpr ⟨pm_X10_seen_r2 _ (List.mem_of_getElem? (i := 6) rfl), List.forall_mem_cons.mpr ⟨pm_X10_seen_r2 _ (List.mem_of_getElem? (i := 7) rfl), List.forall_mem_cons.mpr ⟨pm_X10_seen_r1 _ (List.mem_of_getElem? (i := 22) rfl), List.forall_mem_cons.mpr ⟨pm_X10_seen_r1 _ (List.mem_of_getElem? (i := 23) rfl), List.forall_mem_cons.mpr ⟨pm_X10_seen_r1 _ (List.mem_of_getElem? (i := 7) rfl), List.forall_mem_cons.mpr ⟨pm_X10_seen_r2 _ (List.mem_of_getElem? (i := 0) rfl), fun _ h => absurd h List.not_mem_nil⟩⟩⟩⟩⟩⟩⟩, pw_X10_seen_X10⟩⟩) (by decide +kernel)
set_option maxRecDepth 20000 in
theorem gX10_seen_X10_tell : GoodIn wsX10_seen (wsV RX10 355 RX10 yX10_tell wsX10_tell) := goodIn_app (goodIn_of _ (by decide +kernel)) ggX10_seen_X10_tell
theorem dX10_seen_0 : decode cX10_seen 0 = .ok (.aload_n 0, 1) := by decide +kernel
theorem dX10_seen_1 : decode cX10_seen 1 = .ok (.iload_n 1, 1) := by decide +kernel
theorem dX10_seen_2 : decode cX10_seen 2 = .ok (.invokevirtual 253, 3) := by decide +kernel
theorem dX10_seen_5 : decode cX10_seen 5 = .ok (.ifCond .ne 6, 3) := by decide +kernel
theorem dX10_seen_8 : decode cX10_seen 8 = .ok (.bipush (-2), 2) := by decide +kernel
theorem dX10_seen_10 : decode cX10_seen 10 = .ok (.ireturn, 1) := by decide +kernel
theorem dX10_seen_11 : decode cX10_seen 11 = .ok (.aload_n 0, 1) := by decide +kernel
theorem dX10_seen_12 : decode cX10_seen 12 = .ok (.getfield 31, 3) := by decide +kernel
theorem dX10_seen_15 : decode cX10_seen 15 = .ok (.iload_n 1, 1) := by decide +kernel
theorem dX10_seen_16 : decode cX10_seen 16 = .ok (.iaload, 1) := by decide +kernel
theorem dX10_seen_17 : decode cX10_seen 17 = .ok (.aload_n 0, 1) := by decide +kernel
theorem dX10_seen_18 : decode cX10_seen 18 = .ok (.getfield 17, 3) := by decide +kernel
theorem dX10_seen_21 : decode cX10_seen 21 = .ok (.iconst 1, 1) := by decide +kernel
theorem dX10_seen_22 : decode cX10_seen 22 = .ok (.iaload, 1) := by decide +kernel
theorem dX10_seen_23 : decode cX10_seen 23 = .ok (.iadd, 1) := by decide +kernel
theorem dX10_seen_24 : decode cX10_seen 24 = .ok (.i2l, 1) := by decide +kernel
theorem dX10_seen_25 : decode cX10_seen 25 = .ok (.lstore_n 2, 1) := by decide +kernel
theorem dX10_seen_26 : decode cX10_seen 26 = .ok (.lload_n 2, 1) := by decide +kernel
theorem dX10_seen_27 : decode cX10_seen 27 = .ok (.aload_n 0, 1) := by decide +kernel
theorem dX10_seen_28 : decode cX10_seen 28 = .ok (.aload_n 0, 1) := by decide +kernel
theorem dX10_seen_29 : decode cX10_seen 29 = .ok (.getfield 17, 3) := by decide +kernel
theorem dX10_seen_32 : decode cX10_seen 32 = .ok (.iconst 2, 1) := by decide +kernel
theorem dX10_seen_33 : decode cX10_seen 33 = .ok (.iaload, 1) := by decide +kernel
theorem dX10_seen_34 : decode cX10_seen 34 = .ok (.invokevirtual 264, 3) := by decide +kernel
theorem dX10_seen_37 : decode cX10_seen 37 = .ok (.i2l, 1) := by decide +kernel
theorem dX10_seen_38 : decode cX10_seen 38 = .ok (.lcmp, 1) := by decide +kernel
theorem dX10_seen_39 : decode cX10_seen 39 = .ok (.ifCond .ge 15, 3) := by decide +kernel
theorem dX10_seen_42 : decode cX10_seen 42 = .ok (.aload_n 0, 1) := by decide +kernel
theorem dX10_seen_43 : decode cX10_seen 43 = .ok (.aload_n 0, 1) := by decide +kernel
theorem dX10_seen_44 : decode cX10_seen 44 = .ok (.getfield 17, 3) := by decide +kernel
theorem dX10_seen_47 : decode cX10_seen 47 = .ok (.iconst 2, 1) := by decide +kernel
theorem dX10_seen_48 : decode cX10_seen 48 = .ok (.iaload, 1) := by decide +kernel
theorem dX10_seen_49 : decode cX10_seen 49 = .ok (.invokevirtual 264, 3) := by decide +kernel
theorem dX10_seen_52 : decode cX10_seen 52 = .ok (.i2l, 1) := by decide +kernel
theorem dX10_seen_53 : decode cX10_seen 53 = .ok (.lstore_n 2, 1) := by decide +kernel
theorem dX10_seen_54 : decode cX10_seen 54 = .ok (.aload_n 0, 1) := by decide +kernel
theorem dX10_seen_55 : decode cX10_seen 55 = .ok (.lload_n 2, 1) := by decide +kernel
theorem dX10_seen_56 : decode cX10_seen 56 = .ok (.lconst 1, 1) := by decide +kernel
theorem dX10_seen_57 : decode cX10_seen 57 = .ok (.iconst 0, 1) := by decide +kernel
theorem dX10_seen_58 : decode cX10_seen 58 = .ok (.invokevirtual 318, 3) := by decide +kernel
theorem dX10_seen_61 : decode cX10_seen 61 = .ok (.aload_n 0, 1) := by decide +kernel
theorem dX10_seen_62 : decode cX10_seen 62 = .ok (.aload_n 0, 1) := by decide +kernel
theorem dX10_seen_63 : decode cX10_seen 63 = .ok (.getfield 64, 3) := by decide +kernel
theorem dX10_seen_66 : decode cX10_seen 66 = .ok (.iconst 0, 1) := by decide +kernel
theorem dX10_seen_67 : decode cX10_seen 67 = .ok (.laload, 1) := by decide +kernel
theorem dX10_seen_68 : decode cX10_seen 68 = .ok (.aload_n 0, 1) := by decide +kernel
theorem dX10_seen_69 : decode cX10_seen 69 = .ok (.getfield 67, 3) := by decide +kernel
theorem dX10_seen_72 : decode cX10_seen 72 = .ok (.iconst 0, 1) := by decide +kernel
theorem dX10_seen_73 : decode cX10_seen 73 = .ok (.laload, 1) := by decide +kernel
theorem dX10_seen_74 : decode cX10_seen 74 = .ok (.invokevirtual 355, 3) := by decide +kernel
theorem dX10_seen_77 : decode cX10_seen 77 = .ok (.iconst 1, 1) := by decide +kernel
theorem dX10_seen_78 : decode cX10_seen 78 = .ok (.ireturn, 1) := by decide +kernel
theorem pm_X10_bestWork_r1 : ∀ w ∈ wsX10_bestWork_r1, w ∈ wsX10_bestWork := fun _ h => List.mem_cons_of_mem _ (List.mem_append_left _ (List.mem_append_left _ h))
theorem pm_X10_bestWork_r2 : ∀ w ∈ wsX10_bestWork_r2, w ∈ wsX10_bestWork := fun _ h => List.mem_cons_of_mem _ (List.mem_append_left _ (List.mem_append_right _ (List.mem_append_left _ h)))
theorem pm_X10_bestWork_r3 : ∀ w ∈ wsX10_bestWork_r3, w ∈ wsX10_bestWork := fun _ h => List.mem_cons_of_mem _ (List.mem_append_left _ (List.mem_append_right _ (List.mem_append_right _ (List.mem_append_left _ h))))
theorem pm_X10_bestWork_r4 : ∀ w ∈ wsX10_bestWork_r4, w ∈ wsX10_bestWork := fun _ h => List.mem_cons_of_mem _ (List.mem_append_left _ (List.mem_append_right _ (List.mem_append_right _ (List.mem_append_right _ (h)))))
theorem pw_X10_bestWork_X10 : ∀ w ∈ wsX100, w ∈ wsX10_bestWork := fun _ h => List.mem_cons_of_mem _ (List.mem_append_right _ h)
set_option maxRecDepth 20000 in
theorem ggX10_bestWork_X10_eachAlone : GoodIn wsX10_bestWork wsX10_eachAlone := goodIn_sub (List.forall_mem_cons.mpr ⟨pm_X10_bestWork_r1 _ (List.mem_of_getElem? (i := 10) rfl), List.forall_mem_append.mpr ⟨List.forall_mem_cons.mpr ⟨pm_X10_bestWork_r1 _ (List.mem_of_getElem? (i := 0) rfl), List.forall_mem_cons.mpr ⟨pm_X10_bestWork_r1 _ (List.mem_of_getElem? (i := 11) rfl), List.forall_mem_cons.mpr ⟨pm_X10_bestWork_r1 _ (List.mem_of_getElem? (i := 12) rfl), fun _ h => absurd h List.not_mem_nil⟩⟩⟩, pw_X10_bestWork_X10⟩⟩) (by decide +kernel)
set_option maxRecDepth 20000 in
theorem gX10_bestWork_X10_eachAlone : GoodIn wsX10_bestWork (wsV RX10 349 RX10 yX10_eachAlone wsX10_eachAlone) := goodIn_app (goodIn_of _ (by decide +kernel)) ggX10_bestWork_X10_eachAlone
set_option maxRecDepth 20000 in
theorem pq_X10_bestWork_X10_isHad_r1 : ∀ w ∈ wsX10_isHad_r1, w ∈ wsX10_bestWork := List.forall_mem_cons.mpr ⟨pm_X10_bestWork_r1 _ (List.mem_of_getElem? (i := 17) rfl), List.forall_mem_cons.mpr ⟨pm_X10_bestWork_r1 _ (List.mem_of_getElem? (i := 18) rfl), List.forall_mem_cons.mpr ⟨pm_X10_bestWork_r1 _ (List.mem_of_getElem? (i := 19) rfl), List.forall_mem_cons.mpr ⟨pm_X10_bestWork_r1 _ (List.mem_of_getElem? (i := 20) rfl), List.forall_mem_cons.mpr ⟨pm_X10_bestWork_r1 _ (List.mem_of_getElem? (i := 9) rfl), List.forall_mem_cons.mpr ⟨pm_X10_bestWork_r1 _ (List.mem_of_getElem? (i := 21) rfl), List.forall_mem_cons.mpr ⟨pm_X10_bestWork_r1 _ (List.mem_of_getElem? (i := 22) rfl), List.forall_mem_cons.mpr ⟨pm_X10_bestWork_r1 _ (List.mem_of_getElem? (i := 0) rfl), List.forall_mem_cons.mpr ⟨pm_X10_bestWork_r1 _ (List.mem_of_getElem? (i := 23) rfl), List.forall_mem_cons.mpr ⟨pm_X10_bestWork_r2 _ (List.mem_of_getElem? (i := 0) rfl), List.forall_mem_cons.mpr ⟨pm_X10_bestWork_r1 _ (List.mem_of_getElem? (i := 12) rfl), List.forall_mem_cons.mpr ⟨pm_X10_bestWork_r1 _ (List.mem_of_getElem? (i := 11) rfl), List.forall_mem_cons.mpr ⟨pm_X10_bestWork_r2 _ (List.mem_of_getElem? (i := 1) rfl), List.forall_mem_cons.mpr ⟨pm_X10_bestWork_r2 _ (List.mem_of_getElem? (i := 2) rfl), List.forall_mem_cons.mpr ⟨pm_X10_bestWork_r2 _ (List.mem_of_getElem? (i := 3) rfl), List.forall_mem_cons.mpr ⟨pm_X10_bestWork_r2 _ (List.mem_of_getElem? (i := 4) rfl), List.forall_mem_cons.mpr ⟨pm_X10_bestWork_r2 _ (List.mem_of_getElem? (i := 5) rfl), List.forall_mem_cons.mpr ⟨pm_X10_bestWork_r2 _ (List.mem_of_getElem? (i := 6) rfl), List.forall_mem_cons.mpr ⟨pm_X10_bestWork_r2 _ (List.mem_of_getElem? (i := 7) rfl), List.forall_mem_cons.mpr ⟨pm_X10_bestWork_r2 _ (List.mem_of_getElem? (i := 8) rfl), List.forall_mem_cons.mpr ⟨pm_X10_bestWork_r2 _ (List.mem_of_getElem? (i := 9) rfl), List.forall_mem_cons.mpr ⟨pm_X10_bestWork_r2 _ (List.mem_of_getElem? (i := 10) rfl), List.forall_mem_cons.mpr ⟨pm_X10_bestWork_r2 _ (List.mem_of_getElem? (i := 11) rfl), List.forall_mem_cons.mpr ⟨pm_X10_bestWork_r2 _ (List.mem_of_getElem? (i := 12) rfl), fun _ h => absurd h List.not_mem_nil⟩⟩⟩⟩⟩⟩⟩⟩⟩⟩⟩⟩⟩⟩⟩⟩⟩⟩⟩⟩⟩⟩⟩⟩
set_option maxRecDepth 20000 in
theorem pq_X10_bestWork_X10_isHad_r2 : ∀ w ∈ wsX10_isHad_r2, w ∈ wsX10_bestWork := List.forall_mem_cons.mpr ⟨pm_X10_bestWork_r2 _ (List.mem_of_getElem? (i := 13) rfl), List.forall_mem_cons.mpr ⟨pm_X10_bestWork_r2 _ (List.mem_of_getElem? (i := 14) rfl), List.forall_mem_cons.mpr ⟨pm_X10_bestWork_r2 _ (List.mem_of_getElem? (i := 15) rfl), List.forall_mem_cons.mpr ⟨pm_X10_bestWork_r2 _ (List.mem_of_getElem? (i := 16) rfl), List.forall_mem_cons.mpr ⟨pm_X10_bestWork_r2 _ (List.mem_of_getElem? (i := 17) rfl), List.forall_mem_cons.mpr ⟨pm_X10_bestWork_r2 _ (List.mem_of_getElem? (i := 18) rfl), List.forall_mem_cons.mpr ⟨pm_X10_bestWork_r2 _ (List.mem_of_getElem? (i := 19) rfl), List.forall_mem_cons.mpr ⟨pm_X10_bestWork_r2 _ (List.mem_of_getElem? (i := 20) rfl), List.forall_mem_cons.mpr ⟨pm_X10_bestWork_r2 _ (List.mem_of_getElem? (i := 21) rfl), List.forall_mem_cons.mpr ⟨pm_X10_bestWork_r2 _ (List.mem_of_getElem? (i := 22) rfl), List.forall_mem_cons.mpr ⟨pm_X10_bestWork_r2 _ (List.mem_of_getElem? (i := 23) rfl), List.forall_mem_cons.mpr ⟨pm_X10_bestWork_r3 _ (List.mem_of_getElem? (i := 0) rfl), List.forall_mem_cons.mpr ⟨pm_X10_bestWork_r3 _ (List.mem_of_getElem? (i := 1) rfl), List.forall_mem_cons.mpr ⟨pm_X10_bestWork_r3 _ (List.mem_of_getElem? (i := 2) rfl), List.forall_mem_cons.mpr ⟨pm_X10_bestWork_r3 _ (List.mem_of_getElem? (i := 3) rfl), List.forall_mem_cons.mpr ⟨pm_X10_bestWork_r3 _ (List.mem_of_getElem? (i := 4) rfl), List.forall_mem_cons.mpr ⟨pm_X10_bestWork_r3 _ (List.mem_of_getElem? (i := 5) rfl), List.forall_mem_cons.mpr ⟨pm_X10_bestWork_r3 _ (List.mem_of_getElem? (i := 6) rfl), List.forall_mem_cons.mpr ⟨pm_X10_bestWork_r1 _ (List.mem_of_getElem? (i := 3) rfl), List.forall_mem_cons.mpr ⟨pm_X10_bestWork_r1 _ (List.mem_of_getElem? (i := 2) rfl), List.forall_mem_cons.mpr ⟨pm_X10_bestWork_r3 _ (List.mem_of_getElem? (i := 7) rfl), List.forall_mem_cons.mpr ⟨pm_X10_bestWork_r3 _ (List.mem_of_getElem? (i := 8) rfl), List.forall_mem_cons.mpr ⟨pm_X10_bestWork_r3 _ (List.mem_of_getElem? (i := 9) rfl), List.forall_mem_cons.mpr ⟨pm_X10_bestWork_r3 _ (List.mem_of_getElem? (i := 10) rfl), fun _ h => absurd h List.not_mem_nil⟩⟩⟩⟩⟩⟩⟩⟩⟩⟩⟩⟩⟩⟩⟩⟩⟩⟩⟩⟩⟩⟩⟩⟩
set_option maxRecDepth 20000 in
theorem pq_X10_bestWork_X10_isHad_r3 : ∀ w ∈ wsX10_isHad_r3, w ∈ wsX10_bestWork := List.forall_mem_cons.mpr ⟨pm_X10_bestWork_r3 _ (List.mem_of_getElem? (i := 11) rfl), List.forall_mem_cons.mpr ⟨pm_X10_bestWork_r3 _ (List.mem_of_getElem? (i := 12) rfl), List.forall_mem_cons.mpr ⟨pm_X10_bestWork_r3 _ (List.mem_of_getElem? (i := 13) rfl), List.forall_mem_cons.mpr ⟨pm_X10_bestWork_r3 _ (List.mem_of_getElem? (i := 14) rfl), List.forall_mem_cons.mpr ⟨pm_X10_bestWork_r3 _ (List.mem_of_getElem? (i := 15) rfl), List.forall_mem_cons.mpr ⟨pm_X10_bestWork_r3 _ (List.mem_of_getElem? (i := 16) rfl), List.forall_mem_cons.mpr ⟨pm_X10_bestWork_r3 _ (List.mem_of_getElem? (i := 17) rfl), List.forall_mem_cons.mpr ⟨pm_X10_bestWork_r3 _ (List.mem_of_getElem? (i := 18) rfl), List.forall_mem_cons.mpr ⟨pm_X10_bestWork_r3 _ (List.mem_of_getElem? (i := 19) rfl), List.forall_mem_cons.mpr ⟨pm_X10_bestWork_r3 _ (List.mem_of_getElem? (i := 20) rfl), List.forall_mem_cons.mpr ⟨pm_X10_bestWork_r3 _ (List.mem_of_getElem? (i := 21) rfl), List.forall_mem_cons.mpr ⟨pm_X10_bestWork_r3 _ (List.mem_of_getElem? (i := 22) rfl), List.forall_mem_cons.mpr ⟨pm_X10_bestWork_r3 _ (List.mem_of_getElem? (i := 23) rfl), List.forall_mem_cons.mpr ⟨pm_X10_bestWork_r4 _ (List.mem_of_getElem? (i := 0) rfl), List.forall_mem_cons.mpr ⟨pm_X10_bestWork_r4 _ (List.mem_of_getElem? (i := 1) rfl), List.forall_mem_cons.mpr ⟨pm_X10_bestWork_r4 _ (List.mem_of_getElem? (i := 2) rfl), List.forall_mem_cons.mpr ⟨pm_X10_bestWork_r4 _ (List.mem_of_getElem? (i := 3) rfl), List.forall_mem_cons.mpr ⟨pm_X10_bestWork_r4 _ (List.mem_of_getElem? (i := 4) rfl), List.forall_mem_cons.mpr ⟨pm_X10_bestWork_r4 _ (List.mem_of_getElem? (i := 5) rfl), List.forall_mem_cons.mpr ⟨pm_X10_bestWork_r4 _ (List.mem_of_getElem? (i := 6) rfl), List.forall_mem_cons.mpr ⟨pm_X10_bestWork_r4 _ (List.mem_of_getElem? (i := 7) rfl), List.forall_mem_cons.mpr ⟨pm_X10_bestWork_r4 _ (List.mem_of_getElem? (i := 8) rfl), fun _ h => absurd h List.not_mem_nil⟩⟩⟩⟩⟩⟩⟩⟩⟩⟩⟩⟩⟩⟩⟩⟩⟩⟩⟩⟩⟩⟩
set_option maxRecDepth 20000 in
theorem ggX10_bestWork_X10_isHad : GoodIn wsX10_bestWork wsX10_isHad := goodIn_sub (List.forall_mem_cons.mpr ⟨pm_X10_bestWork_r1 _ (List.mem_of_getElem? (i := 16) rfl), List.forall_mem_append.mpr ⟨List.forall_mem_append.mpr ⟨pq_X10_bestWork_X10_isHad_r1, List.forall_mem_append.mpr ⟨pq_X10_bestWork_X10_isHad_r2, pq_X10_bestWork_X10_isHad_r3⟩⟩, pw_X10_bestWork_X10⟩⟩) (by decide +kernel)
set_option maxRecDepth 20000 in
theorem gX10_bestWork_X10_isHad : GoodIn wsX10_bestWork (wsV RX10 352 RX10 yX10_isHad wsX10_isHad) := goodIn_app (goodIn_of _ (by decide +kernel)) ggX10_bestWork_X10_isHad
set_option maxRecDepth 20000 in
theorem ggX10_bestWork_X10_chanceOf : GoodIn wsX10_bestWork wsX10_chanceOf := goodIn_sub (List.forall_mem_cons.mpr ⟨pm_X10_bestWork_r2 _ (List.mem_of_getElem? (i := 11) rfl), List.forall_mem_append.mpr ⟨List.forall_mem_cons.mpr ⟨pm_X10_bestWork_r2 _ (List.mem_of_getElem? (i := 12) rfl), fun _ h => absurd h List.not_mem_nil⟩, pw_X10_bestWork_X10⟩⟩) (by decide +kernel)
set_option maxRecDepth 20000 in
theorem gX10_bestWork_X10_chanceOf : GoodIn wsX10_bestWork (wsV RX10 259 RX10 yX10_chanceOf wsX10_chanceOf) := goodIn_app (goodIn_of _ (by decide +kernel)) ggX10_bestWork_X10_chanceOf
set_option maxRecDepth 20000 in
theorem ggX10_bestWork_X10_common : GoodIn wsX10_bestWork wsX10_common := goodIn_sub (List.forall_mem_cons.mpr ⟨pm_X10_bestWork_r4 _ (List.mem_of_getElem? (i := 5) rfl), fun _ h => absurd h List.not_mem_nil⟩) (by decide +kernel)
set_option maxRecDepth 20000 in
theorem gX10_bestWork_X10_common : GoodIn wsX10_bestWork (va_wsS RX10 277 yX10_common wsX10_common) := goodIn_app (goodIn_of _ (by decide +kernel)) ggX10_bestWork_X10_common
set_option maxRecDepth 20000 in
theorem ggX10_bestWork_X10_apart : GoodIn wsX10_bestWork wsX10_apart := goodIn_sub (List.forall_mem_cons.mpr ⟨pm_X10_bestWork_r4 _ (List.mem_of_getElem? (i := 8) rfl), fun _ h => absurd h List.not_mem_nil⟩) (by decide +kernel)
set_option maxRecDepth 20000 in
theorem gX10_bestWork_X10_apart : GoodIn wsX10_bestWork (va_wsS RX10 331 yX10_apart wsX10_apart) := goodIn_app (goodIn_of _ (by decide +kernel)) ggX10_bestWork_X10_apart
theorem dX10_bestWork_0 : decode cX10_bestWork 0 = .ok (.iconst (-1), 1) := by decide +kernel
theorem dX10_bestWork_1 : decode cX10_bestWork 1 = .ok (.istore_n 1, 1) := by decide +kernel
theorem dX10_bestWork_2 : decode cX10_bestWork 2 = .ok (.aload_n 0, 1) := by decide +kernel
theorem dX10_bestWork_3 : decode cX10_bestWork 3 = .ok (.invokevirtual 349, 3) := by decide +kernel
theorem dX10_bestWork_6 : decode cX10_bestWork 6 = .ok (.iconst 0, 1) := by decide +kernel
theorem dX10_bestWork_7 : decode cX10_bestWork 7 = .ok (.istore_n 2, 1) := by decide +kernel
theorem dX10_bestWork_8 : decode cX10_bestWork 8 = .ok (.iload_n 2, 1) := by decide +kernel
theorem dX10_bestWork_9 : decode cX10_bestWork 9 = .ok (.aload_n 0, 1) := by decide +kernel
theorem dX10_bestWork_10 : decode cX10_bestWork 10 = .ok (.getfield 17, 3) := by decide +kernel
theorem dX10_bestWork_13 : decode cX10_bestWork 13 = .ok (.iconst 4, 1) := by decide +kernel
theorem dX10_bestWork_14 : decode cX10_bestWork 14 = .ok (.iaload, 1) := by decide +kernel
theorem dX10_bestWork_15 : decode cX10_bestWork 15 = .ok (.if_icmp .ge 161, 3) := by decide +kernel
theorem dX10_bestWork_18 : decode cX10_bestWork 18 = .ok (.aload_n 0, 1) := by decide +kernel
theorem dX10_bestWork_19 : decode cX10_bestWork 19 = .ok (.iload_n 2, 1) := by decide +kernel
theorem dX10_bestWork_20 : decode cX10_bestWork 20 = .ok (.invokevirtual 352, 3) := by decide +kernel
theorem dX10_bestWork_23 : decode cX10_bestWork 23 = .ok (.ifCond .ne 6, 3) := by decide +kernel
theorem dX10_bestWork_26 : decode cX10_bestWork 26 = .ok (.goto 144, 3) := by decide +kernel
theorem dX10_bestWork_29 : decode cX10_bestWork 29 = .ok (.lconst 0, 1) := by decide +kernel
theorem dX10_bestWork_30 : decode cX10_bestWork 30 = .ok (.lstore_n 3, 1) := by decide +kernel
theorem dX10_bestWork_31 : decode cX10_bestWork 31 = .ok (.iconst 0, 1) := by decide +kernel
theorem dX10_bestWork_32 : decode cX10_bestWork 32 = .ok (.istore 5, 2) := by decide +kernel
theorem dX10_bestWork_34 : decode cX10_bestWork 34 = .ok (.iload 5, 2) := by decide +kernel
theorem dX10_bestWork_36 : decode cX10_bestWork 36 = .ok (.aload_n 0, 1) := by decide +kernel
theorem dX10_bestWork_37 : decode cX10_bestWork 37 = .ok (.getfield 17, 3) := by decide +kernel
theorem dX10_bestWork_40 : decode cX10_bestWork 40 = .ok (.iconst 3, 1) := by decide +kernel
theorem dX10_bestWork_41 : decode cX10_bestWork 41 = .ok (.iaload, 1) := by decide +kernel
theorem dX10_bestWork_42 : decode cX10_bestWork 42 = .ok (.if_icmp .ge 28, 3) := by decide +kernel
theorem dX10_bestWork_45 : decode cX10_bestWork 45 = .ok (.lload_n 3, 1) := by decide +kernel
theorem dX10_bestWork_46 : decode cX10_bestWork 46 = .ok (.aload_n 0, 1) := by decide +kernel
theorem dX10_bestWork_47 : decode cX10_bestWork 47 = .ok (.iload_n 2, 1) := by decide +kernel
theorem dX10_bestWork_48 : decode cX10_bestWork 48 = .ok (.iload 5, 2) := by decide +kernel
theorem dX10_bestWork_50 : decode cX10_bestWork 50 = .ok (.invokevirtual 259, 3) := by decide +kernel
theorem dX10_bestWork_53 : decode cX10_bestWork 53 = .ok (.aload_n 0, 1) := by decide +kernel
theorem dX10_bestWork_54 : decode cX10_bestWork 54 = .ok (.getfield 28, 3) := by decide +kernel
theorem dX10_bestWork_57 : decode cX10_bestWork 57 = .ok (.iload 5, 2) := by decide +kernel
theorem dX10_bestWork_59 : decode cX10_bestWork 59 = .ok (.iaload, 1) := by decide +kernel
theorem dX10_bestWork_60 : decode cX10_bestWork 60 = .ok (.imul, 1) := by decide +kernel
theorem dX10_bestWork_61 : decode cX10_bestWork 61 = .ok (.i2l, 1) := by decide +kernel
theorem dX10_bestWork_62 : decode cX10_bestWork 62 = .ok (.ladd, 1) := by decide +kernel
theorem dX10_bestWork_63 : decode cX10_bestWork 63 = .ok (.lstore_n 3, 1) := by decide +kernel
theorem dX10_bestWork_64 : decode cX10_bestWork 64 = .ok (.iinc 5 1, 3) := by decide +kernel
theorem dX10_bestWork_67 : decode cX10_bestWork 67 = .ok (.goto (-33), 3) := by decide +kernel
theorem dX10_bestWork_70 : decode cX10_bestWork 70 = .ok (.lload_n 3, 1) := by decide +kernel
theorem dX10_bestWork_71 : decode cX10_bestWork 71 = .ok (.aload_n 0, 1) := by decide +kernel
theorem dX10_bestWork_72 : decode cX10_bestWork 72 = .ok (.getfield 328, 3) := by decide +kernel
theorem dX10_bestWork_75 : decode cX10_bestWork 75 = .ok (.lmul, 1) := by decide +kernel
theorem dX10_bestWork_76 : decode cX10_bestWork 76 = .ok (.aload_n 0, 1) := by decide +kernel
theorem dX10_bestWork_77 : decode cX10_bestWork 77 = .ok (.getfield 325, 3) := by decide +kernel
theorem dX10_bestWork_80 : decode cX10_bestWork 80 = .ok (.aload_n 0, 1) := by decide +kernel
theorem dX10_bestWork_81 : decode cX10_bestWork 81 = .ok (.getfield 17, 3) := by decide +kernel
theorem dX10_bestWork_84 : decode cX10_bestWork 84 = .ok (.iconst 0, 1) := by decide +kernel
theorem dX10_bestWork_85 : decode cX10_bestWork 85 = .ok (.iaload, 1) := by decide +kernel
theorem dX10_bestWork_86 : decode cX10_bestWork 86 = .ok (.i2l, 1) := by decide +kernel
theorem dX10_bestWork_87 : decode cX10_bestWork 87 = .ok (.lmul, 1) := by decide +kernel
theorem dX10_bestWork_88 : decode cX10_bestWork 88 = .ok (.lsub, 1) := by decide +kernel
theorem dX10_bestWork_89 : decode cX10_bestWork 89 = .ok (.lstore 5, 2) := by decide +kernel
theorem dX10_bestWork_91 : decode cX10_bestWork 91 = .ok (.aload_n 0, 1) := by decide +kernel
theorem dX10_bestWork_92 : decode cX10_bestWork 92 = .ok (.getfield 328, 3) := by decide +kernel
theorem dX10_bestWork_95 : decode cX10_bestWork 95 = .ok (.aload_n 0, 1) := by decide +kernel
theorem dX10_bestWork_96 : decode cX10_bestWork 96 = .ok (.getfield 17, 3) := by decide +kernel
theorem dX10_bestWork_99 : decode cX10_bestWork 99 = .ok (.iconst 0, 1) := by decide +kernel
theorem dX10_bestWork_100 : decode cX10_bestWork 100 = .ok (.iaload, 1) := by decide +kernel
theorem dX10_bestWork_101 : decode cX10_bestWork 101 = .ok (.i2l, 1) := by decide +kernel
theorem dX10_bestWork_102 : decode cX10_bestWork 102 = .ok (.lmul, 1) := by decide +kernel
theorem dX10_bestWork_103 : decode cX10_bestWork 103 = .ok (.lstore 7, 2) := by decide +kernel
theorem dX10_bestWork_105 : decode cX10_bestWork 105 = .ok (.lload 5, 2) := by decide +kernel
theorem dX10_bestWork_107 : decode cX10_bestWork 107 = .ok (.lload 7, 2) := by decide +kernel
theorem dX10_bestWork_109 : decode cX10_bestWork 109 = .ok (.invokestatic 277, 3) := by decide +kernel
theorem dX10_bestWork_112 : decode cX10_bestWork 112 = .ok (.lstore 9, 2) := by decide +kernel
theorem dX10_bestWork_114 : decode cX10_bestWork 114 = .ok (.lload 5, 2) := by decide +kernel
theorem dX10_bestWork_116 : decode cX10_bestWork 116 = .ok (.lload 9, 2) := by decide +kernel
theorem dX10_bestWork_118 : decode cX10_bestWork 118 = .ok (.ldiv, 1) := by decide +kernel
theorem dX10_bestWork_119 : decode cX10_bestWork 119 = .ok (.lstore 5, 2) := by decide +kernel
theorem dX10_bestWork_121 : decode cX10_bestWork 121 = .ok (.lload 7, 2) := by decide +kernel
theorem dX10_bestWork_123 : decode cX10_bestWork 123 = .ok (.lload 9, 2) := by decide +kernel
theorem dX10_bestWork_125 : decode cX10_bestWork 125 = .ok (.ldiv, 1) := by decide +kernel
theorem dX10_bestWork_126 : decode cX10_bestWork 126 = .ok (.lstore 7, 2) := by decide +kernel
theorem dX10_bestWork_128 : decode cX10_bestWork 128 = .ok (.iload_n 1, 1) := by decide +kernel
theorem dX10_bestWork_129 : decode cX10_bestWork 129 = .ok (.iconst (-1), 1) := by decide +kernel
theorem dX10_bestWork_130 : decode cX10_bestWork 130 = .ok (.if_icmp .eq 26, 3) := by decide +kernel
theorem dX10_bestWork_133 : decode cX10_bestWork 133 = .ok (.lload 5, 2) := by decide +kernel
theorem dX10_bestWork_135 : decode cX10_bestWork 135 = .ok (.lload 7, 2) := by decide +kernel
theorem dX10_bestWork_137 : decode cX10_bestWork 137 = .ok (.aload_n 0, 1) := by decide +kernel
theorem dX10_bestWork_138 : decode cX10_bestWork 138 = .ok (.getfield 362, 3) := by decide +kernel
theorem dX10_bestWork_141 : decode cX10_bestWork 141 = .ok (.aload_n 0, 1) := by decide +kernel
theorem dX10_bestWork_142 : decode cX10_bestWork 142 = .ok (.getfield 365, 3) := by decide +kernel
theorem dX10_bestWork_145 : decode cX10_bestWork 145 = .ok (.invokestatic 331, 3) := by decide +kernel
theorem dX10_bestWork_148 : decode cX10_bestWork 148 = .ok (.lconst 0, 1) := by decide +kernel
theorem dX10_bestWork_149 : decode cX10_bestWork 149 = .ok (.lcmp, 1) := by decide +kernel
theorem dX10_bestWork_150 : decode cX10_bestWork 150 = .ok (.ifCond .gt 6, 3) := by decide +kernel
theorem dX10_bestWork_153 : decode cX10_bestWork 153 = .ok (.goto 17, 3) := by decide +kernel
theorem dX10_bestWork_156 : decode cX10_bestWork 156 = .ok (.iload_n 2, 1) := by decide +kernel
theorem dX10_bestWork_157 : decode cX10_bestWork 157 = .ok (.istore_n 1, 1) := by decide +kernel
theorem dX10_bestWork_158 : decode cX10_bestWork 158 = .ok (.aload_n 0, 1) := by decide +kernel
theorem dX10_bestWork_159 : decode cX10_bestWork 159 = .ok (.lload 5, 2) := by decide +kernel
theorem dX10_bestWork_161 : decode cX10_bestWork 161 = .ok (.putfield 362, 3) := by decide +kernel
theorem dX10_bestWork_164 : decode cX10_bestWork 164 = .ok (.aload_n 0, 1) := by decide +kernel
theorem dX10_bestWork_165 : decode cX10_bestWork 165 = .ok (.lload 7, 2) := by decide +kernel
theorem dX10_bestWork_167 : decode cX10_bestWork 167 = .ok (.putfield 365, 3) := by decide +kernel
theorem dX10_bestWork_170 : decode cX10_bestWork 170 = .ok (.iinc 2 1, 3) := by decide +kernel
theorem dX10_bestWork_173 : decode cX10_bestWork 173 = .ok (.goto (-165), 3) := by decide +kernel
theorem dX10_bestWork_176 : decode cX10_bestWork 176 = .ok (.iload_n 1, 1) := by decide +kernel
theorem dX10_bestWork_177 : decode cX10_bestWork 177 = .ok (.ireturn, 1) := by decide +kernel
theorem pm_X10_best_r1 : ∀ w ∈ wsX10_best_r1, w ∈ wsX10_best := fun _ h => List.mem_cons_of_mem _ (List.mem_append_left _ (List.mem_append_left _ h))
theorem pm_X10_best_r2 : ∀ w ∈ wsX10_best_r2, w ∈ wsX10_best := fun _ h => List.mem_cons_of_mem _ (List.mem_append_left _ (List.mem_append_right _ (List.mem_append_left _ h)))
theorem pm_X10_best_r3 : ∀ w ∈ wsX10_best_r3, w ∈ wsX10_best := fun _ h => List.mem_cons_of_mem _ (List.mem_append_left _ (List.mem_append_right _ (List.mem_append_right _ (List.mem_append_left _ h))))
theorem pm_X10_best_r4 : ∀ w ∈ wsX10_best_r4, w ∈ wsX10_best := fun _ h => List.mem_cons_of_mem _ (List.mem_append_left _ (List.mem_append_right _ (List.mem_append_right _ (List.mem_append_right _ (h)))))
theorem pw_X10_best_X10 : ∀ w ∈ wsX100, w ∈ wsX10_best := fun _ h => List.mem_cons_of_mem _ (List.mem_append_right _ h)
set_option maxRecDepth 20000 in
theorem pq_X10_best_X10_bestWork_r1 : ∀ w ∈ wsX10_bestWork_r1, w ∈ wsX10_best := List.forall_mem_cons.mpr ⟨pm_X10_best_r1 _ (List.mem_of_getElem? (i := 7) rfl), List.forall_mem_cons.mpr ⟨pm_X10_best_r1 _ (List.mem_of_getElem? (i := 8) rfl), List.forall_mem_cons.mpr ⟨pm_X10_best_r1 _ (List.mem_of_getElem? (i := 9) rfl), List.forall_mem_cons.mpr ⟨pm_X10_best_r1 _ (List.mem_of_getElem? (i := 10) rfl), List.forall_mem_cons.mpr ⟨pm_X10_best_r1 _ (List.mem_of_getElem? (i := 0) rfl), List.forall_mem_cons.mpr ⟨pm_X10_best_r1 _ (List.mem_of_getElem? (i := 1) rfl), List.forall_mem_cons.mpr ⟨pm_X10_best_r1 _ (List.mem_of_getElem? (i := 11) rfl), List.forall_mem_cons.mpr ⟨pm_X10_best_r1 _ (List.mem_of_getElem? (i := 12) rfl), List.forall_mem_cons.mpr ⟨pm_X10_best_r1 _ (List.mem_of_getElem? (i := 13) rfl), List.forall_mem_cons.mpr ⟨pm_X10_best_r1 _ (List.mem_of_getElem? (i := 5) rfl), List.forall_mem_cons.mpr ⟨pm_X10_best_r1 _ (List.mem_of_getElem? (i := 14) rfl), List.forall_mem_cons.mpr ⟨pm_X10_best_r1 _ (List.mem_of_getElem? (i := 15) rfl), List.forall_mem_cons.mpr ⟨pm_X10_best_r1 _ (List.mem_of_getElem? (i := 16) rfl), List.forall_mem_cons.mpr ⟨pm_X10_best_r1 _ (List.mem_of_getElem? (i := 17) rfl), List.forall_mem_cons.mpr ⟨pm_X10_best_r1 _ (List.mem_of_getElem? (i := 18) rfl), List.forall_mem_cons.mpr ⟨pm_X10_best_r1 _ (List.mem_of_getElem? (i := 19) rfl), List.forall_mem_cons.mpr ⟨pm_X10_best_r1 _ (List.mem_of_getElem? (i := 20) rfl), List.forall_mem_cons.mpr ⟨pm_X10_best_r1 _ (List.mem_of_getElem? (i := 21) rfl), List.forall_mem_cons.mpr ⟨pm_X10_best_r1 _ (List.mem_of_getElem? (i := 22) rfl), List.forall_mem_cons.mpr ⟨pm_X10_best_r1 _ (List.mem_of_getElem? (i := 23) rfl), List.forall_mem_cons.mpr ⟨pm_X10_best_r2 _ (List.mem_of_getElem? (i := 0) rfl), List.forall_mem_cons.mpr ⟨pm_X10_best_r2 _ (List.mem_of_getElem? (i := 1) rfl), List.forall_mem_cons.mpr ⟨pm_X10_best_r2 _ (List.mem_of_getElem? (i := 2) rfl), List.forall_mem_cons.mpr ⟨pm_X10_best_r2 _ (List.mem_of_getElem? (i := 3) rfl), fun _ h => absurd h List.not_mem_nil⟩⟩⟩⟩⟩⟩⟩⟩⟩⟩⟩⟩⟩⟩⟩⟩⟩⟩⟩⟩⟩⟩⟩⟩
set_option maxRecDepth 20000 in
theorem pq_X10_best_X10_bestWork_r2 : ∀ w ∈ wsX10_bestWork_r2, w ∈ wsX10_best := List.forall_mem_cons.mpr ⟨pm_X10_best_r2 _ (List.mem_of_getElem? (i := 4) rfl), List.forall_mem_cons.mpr ⟨pm_X10_best_r2 _ (List.mem_of_getElem? (i := 5) rfl), List.forall_mem_cons.mpr ⟨pm_X10_best_r2 _ (List.mem_of_getElem? (i := 6) rfl), List.forall_mem_cons.mpr ⟨pm_X10_best_r2 _ (List.mem_of_getElem? (i := 7) rfl), List.forall_mem_cons.mpr ⟨pm_X10_best_r2 _ (List.mem_of_getElem? (i := 8) rfl), List.forall_mem_cons.mpr ⟨pm_X10_best_r2 _ (List.mem_of_getElem? (i := 9) rfl), List.forall_mem_cons.mpr ⟨pm_X10_best_r2 _ (List.mem_of_getElem? (i := 10) rfl), List.forall_mem_cons.mpr ⟨pm_X10_best_r2 _ (List.mem_of_getElem? (i := 11) rfl), List.forall_mem_cons.mpr ⟨pm_X10_best_r2 _ (List.mem_of_getElem? (i := 12) rfl), List.forall_mem_cons.mpr ⟨pm_X10_best_r2 _ (List.mem_of_getElem? (i := 13) rfl), List.forall_mem_cons.mpr ⟨pm_X10_best_r2 _ (List.mem_of_getElem? (i := 14) rfl), List.forall_mem_cons.mpr ⟨pm_X10_best_r2 _ (List.mem_of_getElem? (i := 15) rfl), List.forall_mem_cons.mpr ⟨pm_X10_best_r2 _ (List.mem_of_getElem? (i := 16) rfl), List.forall_mem_cons.mpr ⟨pm_X10_best_r2 _ (List.mem_of_getElem? (i := 17) rfl), List.forall_mem_cons.mpr ⟨pm_X10_best_r2 _ (List.mem_of_getElem? (i := 18) rfl), List.forall_mem_cons.mpr ⟨pm_X10_best_r2 _ (List.mem_of_getElem? (i := 19) rfl), List.forall_mem_cons.mpr ⟨pm_X10_best_r2 _ (List.mem_of_getElem? (i := 20) rfl), List.forall_mem_cons.mpr ⟨pm_X10_best_r2 _ (List.mem_of_getElem? (i := 21) rfl), List.forall_mem_cons.mpr ⟨pm_X10_best_r2 _ (List.mem_of_getElem? (i := 22) rfl), List.forall_mem_cons.mpr ⟨pm_X10_best_r2 _ (List.mem_of_getElem? (i := 23) rfl), List.forall_mem_cons.mpr ⟨pm_X10_best_r3 _ (List.mem_of_getElem? (i := 0) rfl), List.forall_mem_cons.mpr ⟨pm_X10_best_r3 _ (List.mem_of_getElem? (i := 1) rfl), List.forall_mem_cons.mpr ⟨pm_X10_best_r3 _ (List.mem_of_getElem? (i := 2) rfl), List.forall_mem_cons.mpr ⟨pm_X10_best_r3 _ (List.mem_of_getElem? (i := 3) rfl), fun _ h => absurd h List.not_mem_nil⟩⟩⟩⟩⟩⟩⟩⟩⟩⟩⟩⟩⟩⟩⟩⟩⟩⟩⟩⟩⟩⟩⟩⟩
set_option maxRecDepth 20000 in
theorem pq_X10_best_X10_bestWork_r3 : ∀ w ∈ wsX10_bestWork_r3, w ∈ wsX10_best := List.forall_mem_cons.mpr ⟨pm_X10_best_r3 _ (List.mem_of_getElem? (i := 4) rfl), List.forall_mem_cons.mpr ⟨pm_X10_best_r3 _ (List.mem_of_getElem? (i := 5) rfl), List.forall_mem_cons.mpr ⟨pm_X10_best_r3 _ (List.mem_of_getElem? (i := 6) rfl), List.forall_mem_cons.mpr ⟨pm_X10_best_r3 _ (List.mem_of_getElem? (i := 7) rfl), List.forall_mem_cons.mpr ⟨pm_X10_best_r3 _ (List.mem_of_getElem? (i := 8) rfl), List.forall_mem_cons.mpr ⟨pm_X10_best_r3 _ (List.mem_of_getElem? (i := 9) rfl), List.forall_mem_cons.mpr ⟨pm_X10_best_r3 _ (List.mem_of_getElem? (i := 10) rfl), List.forall_mem_cons.mpr ⟨pm_X10_best_r3 _ (List.mem_of_getElem? (i := 11) rfl), List.forall_mem_cons.mpr ⟨pm_X10_best_r3 _ (List.mem_of_getElem? (i := 12) rfl), List.forall_mem_cons.mpr ⟨pm_X10_best_r3 _ (List.mem_of_getElem? (i := 13) rfl), List.forall_mem_cons.mpr ⟨pm_X10_best_r3 _ (List.mem_of_getElem? (i := 14) rfl), List.forall_mem_cons.mpr ⟨pm_X10_best_r3 _ (List.mem_of_getElem? (i := 15) rfl), List.forall_mem_cons.mpr ⟨pm_X10_best_r3 _ (List.mem_of_getElem? (i := 16) rfl), List.forall_mem_cons.mpr ⟨pm_X10_best_r3 _ (List.mem_of_getElem? (i := 17) rfl), List.forall_mem_cons.mpr ⟨pm_X10_best_r3 _ (List.mem_of_getElem? (i := 18) rfl), List.forall_mem_cons.mpr ⟨pm_X10_best_r3 _ (List.mem_of_getElem? (i := 19) rfl), List.forall_mem_cons.mpr ⟨pm_X10_best_r3 _ (List.mem_of_getElem? (i := 20) rfl), List.forall_mem_cons.mpr ⟨pm_X10_best_r3 _ (List.mem_of_getElem? (i := 21) rfl), List.forall_mem_cons.mpr ⟨pm_X10_best_r3 _ (List.mem_of_getElem? (i := 22) rfl), List.forall_mem_cons.mpr ⟨pm_X10_best_r3 _ (List.mem_of_getElem? (i := 23) rfl), List.forall_mem_cons.mpr ⟨pm_X10_best_r4 _ (List.mem_of_getElem? (i := 0) rfl), List.forall_mem_cons.mpr ⟨pm_X10_best_r4 _ (List.mem_of_getElem? (i := 1) rfl), List.forall_mem_cons.mpr ⟨pm_X10_best_r4 _ (List.mem_of_getElem? (i := 2) rfl), List.forall_mem_cons.mpr ⟨pm_X10_best_r4 _ (List.mem_of_getElem? (i := 3) rfl), fun _ h => absurd h List.not_mem_nil⟩⟩⟩⟩⟩⟩⟩⟩⟩⟩⟩⟩⟩⟩⟩⟩⟩⟩⟩⟩⟩⟩⟩⟩
set_option maxRecDepth 20000 in
theorem pq_X10_best_X10_bestWork_r4 : ∀ w ∈ wsX10_bestWork_r4, w ∈ wsX10_best := List.forall_mem_cons.mpr ⟨pm_X10_best_r4 _ (List.mem_of_getElem? (i := 4) rfl), List.forall_mem_cons.mpr ⟨pm_X10_best_r4 _ (List.mem_of_getElem? (i := 5) rfl), List.forall_mem_cons.mpr ⟨pm_X10_best_r4 _ (List.mem_of_getElem? (i := 6) rfl), List.forall_mem_cons.mpr ⟨pm_X10_best_r4 _ (List.mem_of_getElem? (i := 7) rfl), List.forall_mem_cons.mpr ⟨pm_X10_best_r4 _ (List.mem_of_getElem? (i := 8) rfl), List.forall_mem_cons.mpr ⟨pm_X10_best_r4 _ (List.mem_of_getElem? (i := 9) rfl), List.forall_mem_cons.mpr ⟨pm_X10_best_r4 _ (List.mem_of_getElem? (i := 10) rfl), List.forall_mem_cons.mpr ⟨pm_X10_best_r4 _ (List.mem_of_getElem? (i := 11) rfl), List.forall_mem_cons.mpr ⟨pm_X10_best_r4 _ (List.mem_of_getElem? (i := 12) rfl), fun _ h => absurd h List.not_mem_nil⟩⟩⟩⟩⟩⟩⟩⟩⟩
set_option maxRecDepth 20000 in
theorem ggX10_best_X10_bestWork : GoodIn wsX10_best wsX10_bestWork := goodIn_sub (List.forall_mem_cons.mpr ⟨pm_X10_best_r1 _ (List.mem_of_getElem? (i := 6) rfl), List.forall_mem_append.mpr ⟨List.forall_mem_append.mpr ⟨pq_X10_best_X10_bestWork_r1, List.forall_mem_append.mpr ⟨pq_X10_best_X10_bestWork_r2, List.forall_mem_append.mpr ⟨pq_X10_best_X10_bestWork_r3, pq_X10_best_X10_bestWork_r4⟩⟩⟩, pw_X10_best_X10⟩⟩) (by decide +kernel)
set_option maxRecDepth 20000 in
theorem gX10_best_X10_bestWork : GoodIn wsX10_best (wsV RX10 368 RX10 yX10_bestWork wsX10_bestWork) := goodIn_app (goodIn_of _ (by decide +kernel)) ggX10_best_X10_bestWork
set_option maxRecDepth 20000 in
theorem ggX10_best_X10_tell : GoodIn wsX10_best wsX10_tell := goodIn_sub (List.forall_mem_cons.mpr ⟨pm_X10_best_r4 _ (List.mem_of_getElem? (i := 16) rfl), List.forall_mem_append.mpr ⟨List.forall_mem_cons.mpr ⟨pm_X10_best_r4 _ (List.mem_of_getElem? (i := 17) rfl), List.forall_mem_cons.mpr ⟨pm_X10_best_r4 _ (List.mem_of_getElem? (i := 18) rfl), List.forall_mem_cons.mpr ⟨pm_X10_best_r4 _ (List.mem_of_getElem? (i := 19) rfl), List.forall_mem_cons.mpr ⟨pm_X10_best_r4 _ (List.mem_of_getElem? (i := 7) rfl), List.forall_mem_cons.mpr ⟨pm_X10_best_r4 _ (List.mem_of_getElem? (i := 8) rfl), List.forall_mem_cons.mpr ⟨pm_X10_best_r1 _ (List.mem_of_getElem? (i := 5) rfl), List.forall_mem_cons.mpr ⟨pm_X10_best_r4 _ (List.mem_of_getElem? (i := 9) rfl), fun _ h => absurd h List.not_mem_nil⟩⟩⟩⟩⟩⟩⟩, pw_X10_best_X10⟩⟩) (by decide +kernel)
set_option maxRecDepth 20000 in
theorem gX10_best_X10_tell : GoodIn wsX10_best (wsV RX10 355 RX10 yX10_tell wsX10_tell) := goodIn_app (goodIn_of _ (by decide +kernel)) ggX10_best_X10_tell
theorem dX10_best_0 : decode cX10_best 0 = .ok (.aload_n 0, 1) := by decide +kernel
theorem dX10_best_1 : decode cX10_best 1 = .ok (.invokevirtual 368, 3) := by decide +kernel
theorem dX10_best_4 : decode cX10_best 4 = .ok (.istore_n 1, 1) := by decide +kernel
theorem dX10_best_5 : decode cX10_best 5 = .ok (.iload_n 1, 1) := by decide +kernel
theorem dX10_best_6 : decode cX10_best 6 = .ok (.iconst (-1), 1) := by decide +kernel
theorem dX10_best_7 : decode cX10_best 7 = .ok (.if_icmp .eq 15, 3) := by decide +kernel
theorem dX10_best_10 : decode cX10_best 10 = .ok (.aload_n 0, 1) := by decide +kernel
theorem dX10_best_11 : decode cX10_best 11 = .ok (.aload_n 0, 1) := by decide +kernel
theorem dX10_best_12 : decode cX10_best 12 = .ok (.getfield 362, 3) := by decide +kernel
theorem dX10_best_15 : decode cX10_best 15 = .ok (.aload_n 0, 1) := by decide +kernel
theorem dX10_best_16 : decode cX10_best 16 = .ok (.getfield 365, 3) := by decide +kernel
theorem dX10_best_19 : decode cX10_best 19 = .ok (.invokevirtual 355, 3) := by decide +kernel
theorem dX10_best_22 : decode cX10_best 22 = .ok (.iload_n 1, 1) := by decide +kernel
theorem dX10_best_23 : decode cX10_best 23 = .ok (.ireturn, 1) := by decide +kernel
theorem pm_X10_merged_r1 : ∀ w ∈ wsX10_merged_r1, w ∈ wsX10_merged := fun _ h => List.mem_cons_of_mem _ (List.mem_append_left _ (List.mem_append_left _ h))
theorem pm_X10_merged_r2 : ∀ w ∈ wsX10_merged_r2, w ∈ wsX10_merged := fun _ h => List.mem_cons_of_mem _ (List.mem_append_left _ (List.mem_append_right _ (List.mem_append_left _ h)))
theorem pm_X10_merged_r3 : ∀ w ∈ wsX10_merged_r3, w ∈ wsX10_merged := fun _ h => List.mem_cons_of_mem _ (List.mem_append_left _ (List.mem_append_right _ (List.mem_append_right _ (List.mem_append_left _ h))))
theorem pm_X10_merged_r4 : ∀ w ∈ wsX10_merged_r4, w ∈ wsX10_merged := fun _ h => List.mem_cons_of_mem _ (List.mem_append_left _ (List.mem_append_right _ (List.mem_append_right _ (List.mem_append_right _ (h)))))
theorem pw_X10_merged_X10 : ∀ w ∈ wsX100, w ∈ wsX10_merged := fun _ h => List.mem_cons_of_mem _ (List.mem_append_right _ h)
set_option maxRecDepth 20000 in
theorem ggX10_merged_X10_isWork : GoodIn wsX10_merged wsX10_isWork := goodIn_sub (List.forall_mem_cons.mpr ⟨pm_X10_merged_r1 _ (List.mem_of_getElem? (i := 9) rfl), List.forall_mem_append.mpr ⟨List.forall_mem_cons.mpr ⟨pm_X10_merged_r1 _ (List.mem_of_getElem? (i := 1) rfl), List.forall_mem_cons.mpr ⟨pm_X10_merged_r1 _ (List.mem_of_getElem? (i := 10) rfl), List.forall_mem_cons.mpr ⟨pm_X10_merged_r1 _ (List.mem_of_getElem? (i := 11) rfl), List.forall_mem_cons.mpr ⟨pm_X10_merged_r1 _ (List.mem_of_getElem? (i := 8) rfl), List.forall_mem_cons.mpr ⟨pm_X10_merged_r1 _ (List.mem_of_getElem? (i := 12) rfl), fun _ h => absurd h List.not_mem_nil⟩⟩⟩⟩⟩, pw_X10_merged_X10⟩⟩) (by decide +kernel)
set_option maxRecDepth 20000 in
theorem gX10_merged_X10_isWork : GoodIn wsX10_merged (wsV RX10 253 RX10 yX10_isWork wsX10_isWork) := goodIn_app (goodIn_of _ (by decide +kernel)) ggX10_merged_X10_isWork
set_option maxRecDepth 20000 in
theorem ggX10_merged_X10_isSign : GoodIn wsX10_merged wsX10_isSign := goodIn_sub (List.forall_mem_cons.mpr ⟨pm_X10_merged_r1 _ (List.mem_of_getElem? (i := 16) rfl), List.forall_mem_append.mpr ⟨List.forall_mem_cons.mpr ⟨pm_X10_merged_r1 _ (List.mem_of_getElem? (i := 1) rfl), List.forall_mem_cons.mpr ⟨pm_X10_merged_r1 _ (List.mem_of_getElem? (i := 10) rfl), List.forall_mem_cons.mpr ⟨pm_X10_merged_r1 _ (List.mem_of_getElem? (i := 11) rfl), List.forall_mem_cons.mpr ⟨pm_X10_merged_r1 _ (List.mem_of_getElem? (i := 8) rfl), List.forall_mem_cons.mpr ⟨pm_X10_merged_r1 _ (List.mem_of_getElem? (i := 12) rfl), fun _ h => absurd h List.not_mem_nil⟩⟩⟩⟩⟩, pw_X10_merged_X10⟩⟩) (by decide +kernel)
set_option maxRecDepth 20000 in
theorem gX10_merged_X10_isSign : GoodIn wsX10_merged (wsV RX10 256 RX10 yX10_isSign wsX10_isSign) := goodIn_app (goodIn_of _ (by decide +kernel)) ggX10_merged_X10_isSign
set_option maxRecDepth 20000 in
theorem pq_X10_merged_X10_isHad_r1 : ∀ w ∈ wsX10_isHad_r1, w ∈ wsX10_merged := List.forall_mem_cons.mpr ⟨pm_X10_merged_r1 _ (List.mem_of_getElem? (i := 21) rfl), List.forall_mem_cons.mpr ⟨pm_X10_merged_r1 _ (List.mem_of_getElem? (i := 22) rfl), List.forall_mem_cons.mpr ⟨pm_X10_merged_r1 _ (List.mem_of_getElem? (i := 23) rfl), List.forall_mem_cons.mpr ⟨pm_X10_merged_r2 _ (List.mem_of_getElem? (i := 0) rfl), List.forall_mem_cons.mpr ⟨pm_X10_merged_r1 _ (List.mem_of_getElem? (i := 8) rfl), List.forall_mem_cons.mpr ⟨pm_X10_merged_r2 _ (List.mem_of_getElem? (i := 1) rfl), List.forall_mem_cons.mpr ⟨pm_X10_merged_r2 _ (List.mem_of_getElem? (i := 2) rfl), List.forall_mem_cons.mpr ⟨pm_X10_merged_r1 _ (List.mem_of_getElem? (i := 1) rfl), List.forall_mem_cons.mpr ⟨pm_X10_merged_r2 _ (List.mem_of_getElem? (i := 3) rfl), List.forall_mem_cons.mpr ⟨pm_X10_merged_r2 _ (List.mem_of_getElem? (i := 4) rfl), List.forall_mem_cons.mpr ⟨pm_X10_merged_r1 _ (List.mem_of_getElem? (i := 2) rfl), List.forall_mem_cons.mpr ⟨pm_X10_merged_r1 _ (List.mem_of_getElem? (i := 0) rfl), List.forall_mem_cons.mpr ⟨pm_X10_merged_r2 _ (List.mem_of_getElem? (i := 5) rfl), List.forall_mem_cons.mpr ⟨pm_X10_merged_r2 _ (List.mem_of_getElem? (i := 6) rfl), List.forall_mem_cons.mpr ⟨pm_X10_merged_r2 _ (List.mem_of_getElem? (i := 7) rfl), List.forall_mem_cons.mpr ⟨pm_X10_merged_r2 _ (List.mem_of_getElem? (i := 8) rfl), List.forall_mem_cons.mpr ⟨pm_X10_merged_r2 _ (List.mem_of_getElem? (i := 9) rfl), List.forall_mem_cons.mpr ⟨pm_X10_merged_r2 _ (List.mem_of_getElem? (i := 10) rfl), List.forall_mem_cons.mpr ⟨pm_X10_merged_r2 _ (List.mem_of_getElem? (i := 11) rfl), List.forall_mem_cons.mpr ⟨pm_X10_merged_r2 _ (List.mem_of_getElem? (i := 12) rfl), List.forall_mem_cons.mpr ⟨pm_X10_merged_r2 _ (List.mem_of_getElem? (i := 13) rfl), List.forall_mem_cons.mpr ⟨pm_X10_merged_r2 _ (List.mem_of_getElem? (i := 14) rfl), List.forall_mem_cons.mpr ⟨pm_X10_merged_r2 _ (List.mem_of_getElem? (i := 15) rfl), List.forall_mem_cons.mpr ⟨pm_X10_merged_r2 _ (List.mem_of_getElem? (i := 16) rfl), fun _ h => absurd h List.not_mem_nil⟩⟩⟩⟩⟩⟩⟩⟩⟩⟩⟩⟩⟩⟩⟩⟩⟩⟩⟩⟩⟩⟩⟩⟩
set_option maxRecDepth 20000 in
theorem pq_X10_merged_X10_isHad_r2 : ∀ w ∈ wsX10_isHad_r2, w ∈ wsX10_merged := List.forall_mem_cons.mpr ⟨pm_X10_merged_r2 _ (List.mem_of_getElem? (i := 17) rfl), List.forall_mem_cons.mpr ⟨pm_X10_merged_r2 _ (List.mem_of_getElem? (i := 18) rfl), List.forall_mem_cons.mpr ⟨pm_X10_merged_r2 _ (List.mem_of_getElem? (i := 19) rfl), List.forall_mem_cons.mpr ⟨pm_X10_merged_r2 _ (List.mem_of_getElem? (i := 20) rfl), List.forall_mem_cons.mpr ⟨pm_X10_merged_r2 _ (List.mem_of_getElem? (i := 21) rfl), List.forall_mem_cons.mpr ⟨pm_X10_merged_r2 _ (List.mem_of_getElem? (i := 22) rfl), List.forall_mem_cons.mpr ⟨pm_X10_merged_r2 _ (List.mem_of_getElem? (i := 23) rfl), List.forall_mem_cons.mpr ⟨pm_X10_merged_r3 _ (List.mem_of_getElem? (i := 0) rfl), List.forall_mem_cons.mpr ⟨pm_X10_merged_r3 _ (List.mem_of_getElem? (i := 1) rfl), List.forall_mem_cons.mpr ⟨pm_X10_merged_r3 _ (List.mem_of_getElem? (i := 2) rfl), List.forall_mem_cons.mpr ⟨pm_X10_merged_r3 _ (List.mem_of_getElem? (i := 3) rfl), List.forall_mem_cons.mpr ⟨pm_X10_merged_r3 _ (List.mem_of_getElem? (i := 4) rfl), List.forall_mem_cons.mpr ⟨pm_X10_merged_r3 _ (List.mem_of_getElem? (i := 5) rfl), List.forall_mem_cons.mpr ⟨pm_X10_merged_r3 _ (List.mem_of_getElem? (i := 6) rfl), List.forall_mem_cons.mpr ⟨pm_X10_merged_r3 _ (List.mem_of_getElem? (i := 7) rfl), List.forall_mem_cons.mpr ⟨pm_X10_merged_r3 _ (List.mem_of_getElem? (i := 8) rfl), List.forall_mem_cons.mpr ⟨pm_X10_merged_r3 _ (List.mem_of_getElem? (i := 9) rfl), List.forall_mem_cons.mpr ⟨pm_X10_merged_r3 _ (List.mem_of_getElem? (i := 10) rfl), List.forall_mem_cons.mpr ⟨pm_X10_merged_r1 _ (List.mem_of_getElem? (i := 3) rfl), List.forall_mem_cons.mpr ⟨pm_X10_merged_r1 _ (List.mem_of_getElem? (i := 4) rfl), List.forall_mem_cons.mpr ⟨pm_X10_merged_r3 _ (List.mem_of_getElem? (i := 11) rfl), List.forall_mem_cons.mpr ⟨pm_X10_merged_r3 _ (List.mem_of_getElem? (i := 12) rfl), List.forall_mem_cons.mpr ⟨pm_X10_merged_r3 _ (List.mem_of_getElem? (i := 13) rfl), List.forall_mem_cons.mpr ⟨pm_X10_merged_r3 _ (List.mem_of_getElem? (i := 14) rfl), fun _ h => absurd h List.not_mem_nil⟩⟩⟩⟩⟩⟩⟩⟩⟩⟩⟩⟩⟩⟩⟩⟩⟩⟩⟩⟩⟩⟩⟩⟩
set_option maxRecDepth 20000 in
theorem pq_X10_merged_X10_isHad_r3 : ∀ w ∈ wsX10_isHad_r3, w ∈ wsX10_merged := List.forall_mem_cons.mpr ⟨pm_X10_merged_r3 _ (List.mem_of_getElem? (i := 15) rfl), List.forall_mem_cons.mpr ⟨pm_X10_merged_r3 _ (List.mem_of_getElem? (i := 16) rfl), List.forall_mem_cons.mpr ⟨pm_X10_merged_r3 _ (List.mem_of_getElem? (i := 17) rfl), List.forall_mem_cons.mpr ⟨pm_X10_merged_r3 _ (List.mem_of_getElem? (i := 18) rfl), List.forall_mem_cons.mpr ⟨pm_X10_merged_r3 _ (List.mem_of_getElem? (i := 19) rfl), List.forall_mem_cons.mpr ⟨pm_X10_merged_r3 _ (List.mem_of_getElem? (i := 20) rfl), List.forall_mem_cons.mpr ⟨pm_X10_merged_r3 _ (List.mem_of_getElem? (i := 21) rfl), List.forall_mem_cons.mpr ⟨pm_X10_merged_r3 _ (List.mem_of_getElem? (i := 22) rfl), List.forall_mem_cons.mpr ⟨pm_X10_merged_r3 _ (List.mem_of_getElem? (i := 23) rfl), List.forall_mem_cons.mpr ⟨pm_X10_merged_r4 _ (List.mem_of_getElem? (i := 0) rfl), List.forall_mem_cons.mpr ⟨pm_X10_merged_r4 _ (List.mem_of_getElem? (i := 1) rfl), List.forall_mem_cons.mpr ⟨pm_X10_merged_r4 _ (List.mem_of_getElem? (i := 2) rfl), List.forall_mem_cons.mpr ⟨pm_X10_merged_r4 _ (List.mem_of_getElem? (i := 3) rfl), List.forall_mem_cons.mpr ⟨pm_X10_merged_r4 _ (List.mem_of_getElem? (i := 4) rfl), List.forall_mem_cons.mpr ⟨pm_X10_merged_r4 _ (List.mem_of_getElem? (i := 5) rfl), List.forall_mem_cons.mpr ⟨pm_X10_merged_r4 _ (List.mem_of_getElem? (i := 6) rfl), List.forall_mem_cons.mpr ⟨pm_X10_merged_r4 _ (List.mem_of_getElem? (i := 7) rfl), List.forall_mem_cons.mpr ⟨pm_X10_merged_r4 _ (List.mem_of_getElem? (i := 8) rfl), List.forall_mem_cons.mpr ⟨pm_X10_merged_r4 _ (List.mem_of_getElem? (i := 9) rfl), List.forall_mem_cons.mpr ⟨pm_X10_merged_r4 _ (List.mem_of_getElem? (i := 10) rfl), List.forall_mem_cons.mpr ⟨pm_X10_merged_r4 _ (List.mem_of_getElem? (i := 11) rfl), List.forall_mem_cons.mpr ⟨pm_X10_merged_r4 _ (List.mem_of_getElem? (i := 12) rfl), fun _ h => absurd h List.not_mem_nil⟩⟩⟩⟩⟩⟩⟩⟩⟩⟩⟩⟩⟩⟩⟩⟩⟩⟩⟩⟩⟩⟩
set_option maxRecDepth 20000 in
theorem ggX10_merged_X10_isHad : GoodIn wsX10_merged wsX10_isHad := goodIn_sub (List.forall_mem_cons.mpr ⟨pm_X10_merged_r1 _ (List.mem_of_getElem? (i := 20) rfl), List.forall_mem_append.mpr ⟨List.forall_mem_append.mpr ⟨pq_X10_merged_X10_isHad_r1, List.forall_mem_append.mpr ⟨pq_X10_merged_X10_isHad_r2, pq_X10_merged_X10_isHad_r3⟩⟩, pw_X10_merged_X10⟩⟩) (by decide +kernel)
set_option maxRecDepth 20000 in
theorem gX10_merged_X10_isHad : GoodIn wsX10_merged (wsV RX10 352 RX10 yX10_isHad wsX10_isHad) := goodIn_app (goodIn_of _ (by decide +kernel)) ggX10_merged_X10_isHad
set_option maxRecDepth 20000 in
theorem ggX10_merged_X10_tell : GoodIn wsX10_merged wsX10_tell := goodIn_sub (List.forall_mem_cons.mpr ⟨pm_X10_merged_r4 _ (List.mem_of_getElem? (i := 16) rfl), List.forall_mem_append.mpr ⟨List.forall_mem_cons.mpr ⟨pm_X10_merged_r4 _ (List.mem_of_getElem? (i := 17) rfl), List.forall_mem_cons.mpr ⟨pm_X10_merged_r4 _ (List.mem_of_getElem? (i := 18) rfl), List.forall_mem_cons.mpr ⟨pm_X10_merged_r4 _ (List.mem_of_getElem? (i := 19) rfl), List.forall_mem_cons.mpr ⟨pm_X10_merged_r4 _ (List.mem_of_getElem? (i := 7) rfl), List.forall_mem_cons.mpr ⟨pm_X10_merged_r4 _ (List.mem_of_getElem? (i := 8) rfl), List.forall_mem_cons.mpr ⟨pm_X10_merged_r1 _ (List.mem_of_getElem? (i := 8) rfl), List.forall_mem_cons.mpr ⟨pm_X10_merged_r4 _ (List.mem_of_getElem? (i := 9) rfl), fun _ h => absurd h List.not_mem_nil⟩⟩⟩⟩⟩⟩⟩, pw_X10_merged_X10⟩⟩) (by decide +kernel)
set_option maxRecDepth 20000 in
theorem gX10_merged_X10_tell : GoodIn wsX10_merged (wsV RX10 355 RX10 yX10_tell wsX10_tell) := goodIn_app (goodIn_of _ (by decide +kernel)) ggX10_merged_X10_tell
theorem dX10_merged_0 : decode cX10_merged 0 = .ok (.aload_n 0, 1) := by decide +kernel
theorem dX10_merged_1 : decode cX10_merged 1 = .ok (.iload_n 1, 1) := by decide +kernel
theorem dX10_merged_2 : decode cX10_merged 2 = .ok (.invokevirtual 253, 3) := by decide +kernel
theorem dX10_merged_5 : decode cX10_merged 5 = .ok (.ifCond .eq 24, 3) := by decide +kernel
theorem dX10_merged_8 : decode cX10_merged 8 = .ok (.aload_n 0, 1) := by decide +kernel
theorem dX10_merged_9 : decode cX10_merged 9 = .ok (.iload_n 2, 1) := by decide +kernel
theorem dX10_merged_10 : decode cX10_merged 10 = .ok (.invokevirtual 256, 3) := by decide +kernel
theorem dX10_merged_13 : decode cX10_merged 13 = .ok (.ifCond .eq 16, 3) := by decide +kernel
theorem dX10_merged_16 : decode cX10_merged 16 = .ok (.aload_n 0, 1) := by decide +kernel
theorem dX10_merged_17 : decode cX10_merged 17 = .ok (.iload_n 3, 1) := by decide +kernel
theorem dX10_merged_18 : decode cX10_merged 18 = .ok (.invokevirtual 256, 3) := by decide +kernel
theorem dX10_merged_21 : decode cX10_merged 21 = .ok (.ifCond .eq 8, 3) := by decide +kernel
theorem dX10_merged_24 : decode cX10_merged 24 = .ok (.iload_n 2, 1) := by decide +kernel
theorem dX10_merged_25 : decode cX10_merged 25 = .ok (.iload_n 3, 1) := by decide +kernel
theorem dX10_merged_26 : decode cX10_merged 26 = .ok (.if_icmp .ne 6, 3) := by decide +kernel
theorem dX10_merged_29 : decode cX10_merged 29 = .ok (.bipush (-2), 2) := by decide +kernel
theorem dX10_merged_31 : decode cX10_merged 31 = .ok (.ireturn, 1) := by decide +kernel
theorem dX10_merged_32 : decode cX10_merged 32 = .ok (.aload_n 0, 1) := by decide +kernel
theorem dX10_merged_33 : decode cX10_merged 33 = .ok (.iconst 0, 1) := by decide +kernel
theorem dX10_merged_34 : decode cX10_merged 34 = .ok (.putfield 289, 3) := by decide +kernel
theorem dX10_merged_37 : decode cX10_merged 37 = .ok (.iconst 0, 1) := by decide +kernel
theorem dX10_merged_38 : decode cX10_merged 38 = .ok (.istore 4, 2) := by decide +kernel
theorem dX10_merged_40 : decode cX10_merged 40 = .ok (.iload 4, 2) := by decide +kernel
theorem dX10_merged_42 : decode cX10_merged 42 = .ok (.aload_n 0, 1) := by decide +kernel
theorem dX10_merged_43 : decode cX10_merged 43 = .ok (.getfield 17, 3) := by decide +kernel
theorem dX10_merged_46 : decode cX10_merged 46 = .ok (.iconst 3, 1) := by decide +kernel
theorem dX10_merged_47 : decode cX10_merged 47 = .ok (.iaload, 1) := by decide +kernel
theorem dX10_merged_48 : decode cX10_merged 48 = .ok (.if_icmp .ge 78, 3) := by decide +kernel
theorem dX10_merged_51 : decode cX10_merged 51 = .ok (.iload_n 2, 1) := by decide +kernel
theorem dX10_merged_52 : decode cX10_merged 52 = .ok (.iload_n 3, 1) := by decide +kernel
theorem dX10_merged_53 : decode cX10_merged 53 = .ok (.if_icmp .ge 7, 3) := by decide +kernel
theorem dX10_merged_56 : decode cX10_merged 56 = .ok (.iload_n 2, 1) := by decide +kernel
theorem dX10_merged_57 : decode cX10_merged 57 = .ok (.goto 4, 3) := by decide +kernel
theorem dX10_merged_60 : decode cX10_merged 60 = .ok (.iload_n 3, 1) := by decide +kernel
theorem dX10_merged_61 : decode cX10_merged 61 = .ok (.istore 5, 2) := by decide +kernel
theorem dX10_merged_63 : decode cX10_merged 63 = .ok (.iload_n 2, 1) := by decide +kernel
theorem dX10_merged_64 : decode cX10_merged 64 = .ok (.iload_n 3, 1) := by decide +kernel
theorem dX10_merged_65 : decode cX10_merged 65 = .ok (.if_icmp .ge 7, 3) := by decide +kernel
theorem dX10_merged_68 : decode cX10_merged 68 = .ok (.iload_n 3, 1) := by decide +kernel
theorem dX10_merged_69 : decode cX10_merged 69 = .ok (.goto 4, 3) := by decide +kernel
theorem dX10_merged_72 : decode cX10_merged 72 = .ok (.iload_n 2, 1) := by decide +kernel
theorem dX10_merged_73 : decode cX10_merged 73 = .ok (.istore 6, 2) := by decide +kernel
theorem dX10_merged_75 : decode cX10_merged 75 = .ok (.iload 4, 2) := by decide +kernel
theorem dX10_merged_77 : decode cX10_merged 77 = .ok (.iload 6, 2) := by decide +kernel
theorem dX10_merged_79 : decode cX10_merged 79 = .ok (.if_icmp .ne 20, 3) := by decide +kernel
theorem dX10_merged_82 : decode cX10_merged 82 = .ok (.aload_n 0, 1) := by decide +kernel
theorem dX10_merged_83 : decode cX10_merged 83 = .ok (.getfield 46, 3) := by decide +kernel
theorem dX10_merged_86 : decode cX10_merged 86 = .ok (.iload 4, 2) := by decide +kernel
theorem dX10_merged_88 : decode cX10_merged 88 = .ok (.aload_n 0, 1) := by decide +kernel
theorem dX10_merged_89 : decode cX10_merged 89 = .ok (.getfield 46, 3) := by decide +kernel
theorem dX10_merged_92 : decode cX10_merged 92 = .ok (.iload 5, 2) := by decide +kernel
theorem dX10_merged_94 : decode cX10_merged 94 = .ok (.iaload, 1) := by decide +kernel
theorem dX10_merged_95 : decode cX10_merged 95 = .ok (.iastore, 1) := by decide +kernel
theorem dX10_merged_96 : decode cX10_merged 96 = .ok (.goto 24, 3) := by decide +kernel
theorem dX10_merged_99 : decode cX10_merged 99 = .ok (.aload_n 0, 1) := by decide +kernel
theorem dX10_merged_100 : decode cX10_merged 100 = .ok (.getfield 46, 3) := by decide +kernel
theorem dX10_merged_103 : decode cX10_merged 103 = .ok (.iload 4, 2) := by decide +kernel
theorem dX10_merged_105 : decode cX10_merged 105 = .ok (.aload_n 0, 1) := by decide +kernel
theorem dX10_merged_106 : decode cX10_merged 106 = .ok (.getfield 289, 3) := by decide +kernel
theorem dX10_merged_109 : decode cX10_merged 109 = .ok (.iastore, 1) := by decide +kernel
theorem dX10_merged_110 : decode cX10_merged 110 = .ok (.aload_n 0, 1) := by decide +kernel
theorem dX10_merged_111 : decode cX10_merged 111 = .ok (.dup, 1) := by decide +kernel
theorem dX10_merged_112 : decode cX10_merged 112 = .ok (.getfield 289, 3) := by decide +kernel
theorem dX10_merged_115 : decode cX10_merged 115 = .ok (.iconst 1, 1) := by decide +kernel
theorem dX10_merged_116 : decode cX10_merged 116 = .ok (.iadd, 1) := by decide +kernel
theorem dX10_merged_117 : decode cX10_merged 117 = .ok (.putfield 289, 3) := by decide +kernel
theorem dX10_merged_120 : decode cX10_merged 120 = .ok (.iinc 4 1, 3) := by decide +kernel
theorem dX10_merged_123 : decode cX10_merged 123 = .ok (.goto (-83), 3) := by decide +kernel
theorem dX10_merged_126 : decode cX10_merged 126 = .ok (.aload_n 0, 1) := by decide +kernel
theorem dX10_merged_127 : decode cX10_merged 127 = .ok (.iload_n 1, 1) := by decide +kernel
theorem dX10_merged_128 : decode cX10_merged 128 = .ok (.invokevirtual 352, 3) := by decide +kernel
theorem dX10_merged_131 : decode cX10_merged 131 = .ok (.ifCond .ne 5, 3) := by decide +kernel
theorem dX10_merged_134 : decode cX10_merged 134 = .ok (.iconst (-1), 1) := by decide +kernel
theorem dX10_merged_135 : decode cX10_merged 135 = .ok (.ireturn, 1) := by decide +kernel
theorem dX10_merged_136 : decode cX10_merged 136 = .ok (.aload_n 0, 1) := by decide +kernel
theorem dX10_merged_137 : decode cX10_merged 137 = .ok (.aload_n 0, 1) := by decide +kernel
theorem dX10_merged_138 : decode cX10_merged 138 = .ok (.getfield 325, 3) := by decide +kernel
theorem dX10_merged_141 : decode cX10_merged 141 = .ok (.aload_n 0, 1) := by decide +kernel
theorem dX10_merged_142 : decode cX10_merged 142 = .ok (.getfield 328, 3) := by decide +kernel
theorem dX10_merged_145 : decode cX10_merged 145 = .ok (.invokevirtual 355, 3) := by decide +kernel
theorem dX10_merged_148 : decode cX10_merged 148 = .ok (.iconst 1, 1) := by decide +kernel
theorem dX10_merged_149 : decode cX10_merged 149 = .ok (.ireturn, 1) := by decide +kernel
set_option maxRecDepth 20000 in
theorem ggX10_isDone_X10_chanceOf : GoodIn wsX10_isDone wsX10_chanceOf := goodIn_r _ [8, 9, 16, 17, 18, 19, 20, 21, 22, 23, 24, 25, 26, 27, 28, 29, 30, 31, 32, 33, 34, 35, 36, 37, 38, 39, 40, 41, 42, 43, 44, 45, 46, 47, 48, 49, 50, 51, 52, 53, 54, 55, 56, 57, 58, 59, 60, 61, 62, 63, 64, 65, 66, 67, 68, 69, 70, 71, 72, 73, 74, 75, 76, 77, 78, 79, 80] (by decide +kernel) (by decide +kernel)
set_option maxRecDepth 20000 in
theorem gX10_isDone_X10_chanceOf : GoodIn wsX10_isDone (wsV RX10 259 RX10 yX10_chanceOf wsX10_chanceOf) := goodIn_app (goodIn_of _ (by decide +kernel)) ggX10_isDone_X10_chanceOf
set_option maxRecDepth 20000 in
theorem ggX10_isDone_X10_feel : GoodIn wsX10_isDone wsX10_feel := goodIn_r _ [13, 1, 14, 15, 16, 17, 18, 19, 20, 21, 22, 23, 24, 25, 26, 27, 28, 29, 30, 31, 32, 33, 34, 35, 36, 37, 38, 39, 40, 41, 42, 43, 44, 45, 46, 47, 48, 49, 50, 51, 52, 53, 54, 55, 56, 57, 58, 59, 60, 61, 62, 63, 64, 65, 66, 67, 68, 69, 70, 71, 72, 73, 74, 75, 76, 77, 78, 79, 80] (by decide +kernel) (by decide +kernel)
set_option maxRecDepth 20000 in
theorem gX10_isDone_X10_feel : GoodIn wsX10_isDone (wsV RX10 264 RX10 yX10_feel wsX10_feel) := goodIn_app (goodIn_of _ (by decide +kernel)) ggX10_isDone_X10_feel
theorem dX10_isDone_0 : decode cX10_isDone 0 = .ok (.lconst 0, 1) := by decide +kernel
theorem dX10_isDone_1 : decode cX10_isDone 1 = .ok (.lstore_n 2, 1) := by decide +kernel
theorem dX10_isDone_2 : decode cX10_isDone 2 = .ok (.iconst 0, 1) := by decide +kernel
theorem dX10_isDone_3 : decode cX10_isDone 3 = .ok (.istore 4, 2) := by decide +kernel
theorem dX10_isDone_5 : decode cX10_isDone 5 = .ok (.iload 4, 2) := by decide +kernel
theorem dX10_isDone_7 : decode cX10_isDone 7 = .ok (.aload_n 0, 1) := by decide +kernel
theorem dX10_isDone_8 : decode cX10_isDone 8 = .ok (.getfield 17, 3) := by decide +kernel
theorem dX10_isDone_11 : decode cX10_isDone 11 = .ok (.iconst 3, 1) := by decide +kernel
theorem dX10_isDone_12 : decode cX10_isDone 12 = .ok (.iaload, 1) := by decide +kernel
theorem dX10_isDone_13 : decode cX10_isDone 13 = .ok (.if_icmp .ge 32, 3) := by decide +kernel
theorem dX10_isDone_16 : decode cX10_isDone 16 = .ok (.lload_n 2, 1) := by decide +kernel
theorem dX10_isDone_17 : decode cX10_isDone 17 = .ok (.aload_n 0, 1) := by decide +kernel
theorem dX10_isDone_18 : decode cX10_isDone 18 = .ok (.iload_n 1, 1) := by decide +kernel
theorem dX10_isDone_19 : decode cX10_isDone 19 = .ok (.iload 4, 2) := by decide +kernel
theorem dX10_isDone_21 : decode cX10_isDone 21 = .ok (.invokevirtual 259, 3) := by decide +kernel
theorem dX10_isDone_24 : decode cX10_isDone 24 = .ok (.aload_n 0, 1) := by decide +kernel
theorem dX10_isDone_25 : decode cX10_isDone 25 = .ok (.aload_n 0, 1) := by decide +kernel
theorem dX10_isDone_26 : decode cX10_isDone 26 = .ok (.getfield 82, 3) := by decide +kernel
theorem dX10_isDone_29 : decode cX10_isDone 29 = .ok (.iload 4, 2) := by decide +kernel
theorem dX10_isDone_31 : decode cX10_isDone 31 = .ok (.iaload, 1) := by decide +kernel
theorem dX10_isDone_32 : decode cX10_isDone 32 = .ok (.invokevirtual 264, 3) := by decide +kernel
theorem dX10_isDone_35 : decode cX10_isDone 35 = .ok (.imul, 1) := by decide +kernel
theorem dX10_isDone_36 : decode cX10_isDone 36 = .ok (.i2l, 1) := by decide +kernel
theorem dX10_isDone_37 : decode cX10_isDone 37 = .ok (.ladd, 1) := by decide +kernel
theorem dX10_isDone_38 : decode cX10_isDone 38 = .ok (.lstore_n 2, 1) := by decide +kernel
theorem dX10_isDone_39 : decode cX10_isDone 39 = .ok (.iinc 4 1, 3) := by decide +kernel
theorem dX10_isDone_42 : decode cX10_isDone 42 = .ok (.goto (-37), 3) := by decide +kernel
theorem dX10_isDone_45 : decode cX10_isDone 45 = .ok (.lload_n 2, 1) := by decide +kernel
theorem dX10_isDone_46 : decode cX10_isDone 46 = .ok (.aload_n 0, 1) := by decide +kernel
theorem dX10_isDone_47 : decode cX10_isDone 47 = .ok (.getfield 17, 3) := by decide +kernel
theorem dX10_isDone_50 : decode cX10_isDone 50 = .ok (.iconst 0, 1) := by decide +kernel
theorem dX10_isDone_51 : decode cX10_isDone 51 = .ok (.iaload, 1) := by decide +kernel
theorem dX10_isDone_52 : decode cX10_isDone 52 = .ok (.i2l, 1) := by decide +kernel
theorem dX10_isDone_53 : decode cX10_isDone 53 = .ok (.aload_n 0, 1) := by decide +kernel
theorem dX10_isDone_54 : decode cX10_isDone 54 = .ok (.getfield 31, 3) := by decide +kernel
theorem dX10_isDone_57 : decode cX10_isDone 57 = .ok (.iload_n 1, 1) := by decide +kernel
theorem dX10_isDone_58 : decode cX10_isDone 58 = .ok (.iaload, 1) := by decide +kernel
theorem dX10_isDone_59 : decode cX10_isDone 59 = .ok (.i2l, 1) := by decide +kernel
theorem dX10_isDone_60 : decode cX10_isDone 60 = .ok (.lmul, 1) := by decide +kernel
theorem dX10_isDone_61 : decode cX10_isDone 61 = .ok (.lsub, 1) := by decide +kernel
theorem dX10_isDone_62 : decode cX10_isDone 62 = .ok (.lstore_n 2, 1) := by decide +kernel
theorem dX10_isDone_63 : decode cX10_isDone 63 = .ok (.lload_n 2, 1) := by decide +kernel
theorem dX10_isDone_64 : decode cX10_isDone 64 = .ok (.aload_n 0, 1) := by decide +kernel
theorem dX10_isDone_65 : decode cX10_isDone 65 = .ok (.getfield 17, 3) := by decide +kernel
theorem dX10_isDone_68 : decode cX10_isDone 68 = .ok (.iconst 0, 1) := by decide +kernel
theorem dX10_isDone_69 : decode cX10_isDone 69 = .ok (.iaload, 1) := by decide +kernel
theorem dX10_isDone_70 : decode cX10_isDone 70 = .ok (.i2l, 1) := by decide +kernel
theorem dX10_isDone_71 : decode cX10_isDone 71 = .ok (.aload_n 0, 1) := by decide +kernel
theorem dX10_isDone_72 : decode cX10_isDone 72 = .ok (.getfield 17, 3) := by decide +kernel
theorem dX10_isDone_75 : decode cX10_isDone 75 = .ok (.iconst 1, 1) := by decide +kernel
theorem dX10_isDone_76 : decode cX10_isDone 76 = .ok (.iaload, 1) := by decide +kernel
theorem dX10_isDone_77 : decode cX10_isDone 77 = .ok (.i2l, 1) := by decide +kernel
theorem dX10_isDone_78 : decode cX10_isDone 78 = .ok (.lmul, 1) := by decide +kernel
theorem dX10_isDone_79 : decode cX10_isDone 79 = .ok (.lcmp, 1) := by decide +kernel
theorem dX10_isDone_80 : decode cX10_isDone 80 = .ok (.ifCond .ge 5, 3) := by decide +kernel
theorem dX10_isDone_83 : decode cX10_isDone 83 = .ok (.iconst 0, 1) := by decide +kernel
theorem dX10_isDone_84 : decode cX10_isDone 84 = .ok (.ireturn, 1) := by decide +kernel
theorem dX10_isDone_85 : decode cX10_isDone 85 = .ok (.iconst 0, 1) := by decide +kernel
theorem dX10_isDone_86 : decode cX10_isDone 86 = .ok (.istore 4, 2) := by decide +kernel
theorem dX10_isDone_88 : decode cX10_isDone 88 = .ok (.iload 4, 2) := by decide +kernel
theorem dX10_isDone_90 : decode cX10_isDone 90 = .ok (.aload_n 0, 1) := by decide +kernel
theorem dX10_isDone_91 : decode cX10_isDone 91 = .ok (.getfield 17, 3) := by decide +kernel
theorem dX10_isDone_94 : decode cX10_isDone 94 = .ok (.iconst 4, 1) := by decide +kernel
theorem dX10_isDone_95 : decode cX10_isDone 95 = .ok (.iaload, 1) := by decide +kernel
theorem dX10_isDone_96 : decode cX10_isDone 96 = .ok (.if_icmp .ge 83, 3) := by decide +kernel
theorem dX10_isDone_99 : decode cX10_isDone 99 = .ok (.aload_n 0, 1) := by decide +kernel
theorem dX10_isDone_100 : decode cX10_isDone 100 = .ok (.getfield 17, 3) := by decide +kernel
theorem dX10_isDone_103 : decode cX10_isDone 103 = .ok (.iconst 0, 1) := by decide +kernel
theorem dX10_isDone_104 : decode cX10_isDone 104 = .ok (.iaload, 1) := by decide +kernel
theorem dX10_isDone_105 : decode cX10_isDone 105 = .ok (.i2l, 1) := by decide +kernel
theorem dX10_isDone_106 : decode cX10_isDone 106 = .ok (.lneg, 1) := by decide +kernel
theorem dX10_isDone_107 : decode cX10_isDone 107 = .ok (.aload_n 0, 1) := by decide +kernel
theorem dX10_isDone_108 : decode cX10_isDone 108 = .ok (.getfield 31, 3) := by decide +kernel
theorem dX10_isDone_111 : decode cX10_isDone 111 = .ok (.iload 4, 2) := by decide +kernel
theorem dX10_isDone_113 : decode cX10_isDone 113 = .ok (.iaload, 1) := by decide +kernel
theorem dX10_isDone_114 : decode cX10_isDone 114 = .ok (.i2l, 1) := by decide +kernel
theorem dX10_isDone_115 : decode cX10_isDone 115 = .ok (.lmul, 1) := by decide +kernel
theorem dX10_isDone_116 : decode cX10_isDone 116 = .ok (.lstore 5, 2) := by decide +kernel
theorem dX10_isDone_118 : decode cX10_isDone 118 = .ok (.iconst 0, 1) := by decide +kernel
theorem dX10_isDone_119 : decode cX10_isDone 119 = .ok (.istore 7, 2) := by decide +kernel
theorem dX10_isDone_121 : decode cX10_isDone 121 = .ok (.iload 7, 2) := by decide +kernel
theorem dX10_isDone_123 : decode cX10_isDone 123 = .ok (.aload_n 0, 1) := by decide +kernel
theorem dX10_isDone_124 : decode cX10_isDone 124 = .ok (.getfield 17, 3) := by decide +kernel
theorem dX10_isDone_127 : decode cX10_isDone 127 = .ok (.iconst 3, 1) := by decide +kernel
theorem dX10_isDone_128 : decode cX10_isDone 128 = .ok (.iaload, 1) := by decide +kernel
theorem dX10_isDone_129 : decode cX10_isDone 129 = .ok (.if_icmp .ge 35, 3) := by decide +kernel
theorem dX10_isDone_132 : decode cX10_isDone 132 = .ok (.lload 5, 2) := by decide +kernel
theorem dX10_isDone_134 : decode cX10_isDone 134 = .ok (.aload_n 0, 1) := by decide +kernel
theorem dX10_isDone_135 : decode cX10_isDone 135 = .ok (.iload 4, 2) := by decide +kernel
theorem dX10_isDone_137 : decode cX10_isDone 137 = .ok (.iload 7, 2) := by decide +kernel
theorem dX10_isDone_139 : decode cX10_isDone 139 = .ok (.invokevirtual 259, 3) := by decide +kernel
theorem dX10_isDone_142 : decode cX10_isDone 142 = .ok (.aload_n 0, 1) := by decide +kernel
theorem dX10_isDone_143 : decode cX10_isDone 143 = .ok (.aload_n 0, 1) := by decide +kernel
theorem dX10_isDone_144 : decode cX10_isDone 144 = .ok (.getfield 82, 3) := by decide +kernel
theorem dX10_isDone_147 : decode cX10_isDone 147 = .ok (.iload 7, 2) := by decide +kernel
theorem dX10_isDone_149 : decode cX10_isDone 149 = .ok (.iaload, 1) := by decide +kernel
theorem dX10_isDone_150 : decode cX10_isDone 150 = .ok (.invokevirtual 264, 3) := by decide +kernel
theorem dX10_isDone_153 : decode cX10_isDone 153 = .ok (.imul, 1) := by decide +kernel
theorem dX10_isDone_154 : decode cX10_isDone 154 = .ok (.i2l, 1) := by decide +kernel
theorem dX10_isDone_155 : decode cX10_isDone 155 = .ok (.ladd, 1) := by decide +kernel
theorem dX10_isDone_156 : decode cX10_isDone 156 = .ok (.lstore 5, 2) := by decide +kernel
theorem dX10_isDone_158 : decode cX10_isDone 158 = .ok (.iinc 7 1, 3) := by decide +kernel
theorem dX10_isDone_161 : decode cX10_isDone 161 = .ok (.goto (-40), 3) := by decide +kernel
theorem dX10_isDone_164 : decode cX10_isDone 164 = .ok (.lload 5, 2) := by decide +kernel
theorem dX10_isDone_166 : decode cX10_isDone 166 = .ok (.lload_n 2, 1) := by decide +kernel
theorem dX10_isDone_167 : decode cX10_isDone 167 = .ok (.lcmp, 1) := by decide +kernel
theorem dX10_isDone_168 : decode cX10_isDone 168 = .ok (.ifCond .le 5, 3) := by decide +kernel
theorem dX10_isDone_171 : decode cX10_isDone 171 = .ok (.iconst 0, 1) := by decide +kernel
theorem dX10_isDone_172 : decode cX10_isDone 172 = .ok (.ireturn, 1) := by decide +kernel
theorem dX10_isDone_173 : decode cX10_isDone 173 = .ok (.iinc 4 1, 3) := by decide +kernel
theorem dX10_isDone_176 : decode cX10_isDone 176 = .ok (.goto (-88), 3) := by decide +kernel
theorem dX10_isDone_179 : decode cX10_isDone 179 = .ok (.iconst 1, 1) := by decide +kernel
theorem dX10_isDone_180 : decode cX10_isDone 180 = .ok (.ireturn, 1) := by decide +kernel
theorem kk_X10_seen_0 : Cond.fieldLink RX10 31 "PaidBySignsModel" "costs" "[I" ∈ wsX10_seen := pm_X10_seen_r1 _ (List.mem_of_getElem? (i := 0) rfl)
theorem kk_X10_seen_1 : Cond.fieldLink RX10 17 "PaidBySignsModel" "num" "[I" ∈ wsX10_seen := pm_X10_seen_r1 _ (List.mem_of_getElem? (i := 1) rfl)
theorem kk_X10_seen_2 : Cond.fieldLink RX10 64 "PaidBySignsModel" "wageUp" "[J" ∈ wsX10_seen := pm_X10_seen_r1 _ (List.mem_of_getElem? (i := 2) rfl)
theorem kk_X10_seen_3 : Cond.fieldLink RX10 67 "PaidBySignsModel" "wageLow" "[J" ∈ wsX10_seen := pm_X10_seen_r1 _ (List.mem_of_getElem? (i := 3) rfl)
theorem kk_X10_bestWork_0 : Cond.fieldLink RX10 17 "PaidBySignsModel" "num" "[I" ∈ wsX10_bestWork := pm_X10_bestWork_r1 _ (List.mem_of_getElem? (i := 0) rfl)
theorem kk_X10_bestWork_1 : Cond.fieldLink RX10 328 "PaidBySignsModel" "costLow" "J" ∈ wsX10_bestWork := pm_X10_bestWork_r1 _ (List.mem_of_getElem? (i := 2) rfl)
theorem kk_X10_bestWork_2 : Cond.fieldLink RX10 325 "PaidBySignsModel" "costUp" "J" ∈ wsX10_bestWork := pm_X10_bestWork_r1 _ (List.mem_of_getElem? (i := 3) rfl)
theorem kk_X10_bestWork_3 : Cond.fieldLink RX10 362 "PaidBySignsModel" "bestLeftUp" "J" ∈ wsX10_bestWork := pm_X10_bestWork_r1 _ (List.mem_of_getElem? (i := 4) rfl)
theorem kk_X10_bestWork_4 : Cond.fieldLink RX10 365 "PaidBySignsModel" "bestLeftLow" "J" ∈ wsX10_bestWork := pm_X10_bestWork_r1 _ (List.mem_of_getElem? (i := 5) rfl)
theorem kk_X10_bestWork_5 : Cond.fieldLink RX10 28 "PaidBySignsModel" "brings" "[I" ∈ wsX10_bestWork := pm_X10_bestWork_r1 _ (List.mem_of_getElem? (i := 1) rfl)
theorem kk_X10_best_0 : Cond.fieldLink RX10 362 "PaidBySignsModel" "bestLeftUp" "J" ∈ wsX10_best := pm_X10_best_r1 _ (List.mem_of_getElem? (i := 0) rfl)
theorem kk_X10_best_1 : Cond.fieldLink RX10 365 "PaidBySignsModel" "bestLeftLow" "J" ∈ wsX10_best := pm_X10_best_r1 _ (List.mem_of_getElem? (i := 1) rfl)
theorem kk_X10_merged_0 : Cond.fieldLink RX10 289 "PaidBySignsModel" "groups" "I" ∈ wsX10_merged := pm_X10_merged_r1 _ (List.mem_of_getElem? (i := 0) rfl)
theorem kk_X10_merged_1 : Cond.fieldLink RX10 17 "PaidBySignsModel" "num" "[I" ∈ wsX10_merged := pm_X10_merged_r1 _ (List.mem_of_getElem? (i := 1) rfl)
theorem kk_X10_merged_2 : Cond.fieldLink RX10 325 "PaidBySignsModel" "costUp" "J" ∈ wsX10_merged := pm_X10_merged_r1 _ (List.mem_of_getElem? (i := 3) rfl)
theorem kk_X10_merged_3 : Cond.fieldLink RX10 328 "PaidBySignsModel" "costLow" "J" ∈ wsX10_merged := pm_X10_merged_r1 _ (List.mem_of_getElem? (i := 4) rfl)
theorem kk_X10_merged_4 : Cond.fieldLink RX10 46 "PaidBySignsModel" "groupOf" "[I" ∈ wsX10_merged := pm_X10_merged_r1 _ (List.mem_of_getElem? (i := 2) rfl)
theorem kk_X10_isDone_0 : Cond.fieldLink RX10 17 "PaidBySignsModel" "num" "[I" ∈ wsX10_isDone := by decide +kernel
theorem kk_X10_isDone_1 : Cond.fieldLink RX10 31 "PaidBySignsModel" "costs" "[I" ∈ wsX10_isDone := by decide +kernel
theorem kk_X10_isDone_2 : Cond.fieldLink RX10 82 "PaidBySignsModel" "coin" "[I" ∈ wsX10_isDone := by decide +kernel
theorem iw_X10_seen_X10 : ∀ w ∈ wsX100, w ∈ wsX10_seen := pw_X10_seen_X10
theorem iw_X10_bestWork_X10 : ∀ w ∈ wsX100, w ∈ wsX10_bestWork := pw_X10_bestWork_X10
theorem iw_X10_best_X10 : ∀ w ∈ wsX100, w ∈ wsX10_best := pw_X10_best_X10
theorem iw_X10_merged_X10 : ∀ w ∈ wsX100, w ∈ wsX10_merged := pw_X10_merged_X10
theorem iw_X10_isDone_X10 : ∀ w ∈ wsX100, w ∈ wsX10_isDone := by decide +kernel

abbrev cX10_coins : ByteArray := prog_12_method_63_code
def yX10_coins : MethodName := ⟨RX10, "coins", "(II)I"⟩
abbrev cX10_beginSum : ByteArray := prog_12_method_64_code
def yX10_beginSum : MethodName := ⟨RX10, "beginSum", "()V"⟩
abbrev cX10_must : ByteArray := prog_12_method_65_code
def yX10_must : MethodName := ⟨RX10, "must", "(JJ)V"⟩
abbrev cX10_isSum : ByteArray := prog_12_method_66_code
def yX10_isSum : MethodName := ⟨RX10, "isSum", "()Z"⟩
abbrev cX10_chanceFrom : ByteArray := prog_12_method_67_code
def yX10_chanceFrom : MethodName := ⟨RX10, "chanceFrom", "(II)I"⟩
def wsX10_coins_r1 : List Cond := [Cond.constantLong RX10 247 (20), Cond.fieldLink RX10 17 "PaidBySignsModel" "num" "[I", Cond.fieldLink RX10 82 "PaidBySignsModel" "coin" "[I", Cond.fieldLink RX10 206 "PaidBySignsModel" "hasWages" "Z", Cond.fieldLink RX10 346 "PaidBySignsModel" "wageMany" "I", Cond.fieldLink RX10 76 "PaidBySignsModel" "toldUp" "[J", Cond.fieldLink RX10 79 "PaidBySignsModel" "toldLow" "[J", Cond.methodLink RX10 253 yX10_isWork, Cond.instanceMethod yX10_isWork, Cond.selects RX10 yX10_isWork yX10_isWork, Cond.initialized RX10, Cond.code yX10_isWork cX10_isWork 2 (some .boolean), Cond.methodLink RX10 174 yX10_in, Cond.static yX10_in, Cond.code yX10_in cX10_in 6 (some .boolean), Cond.methodLink RX10 259 yX10_chanceOf, Cond.instanceMethod yX10_chanceOf, Cond.selects RX10 yX10_chanceOf yX10_chanceOf, Cond.code yX10_chanceOf cX10_chanceOf 3 (some .int), Cond.fieldLink RX10 34 "PaidBySignsModel" "chances" "[I", Cond.methodLink RX10 371 yX10_isDone, Cond.instanceMethod yX10_isDone, Cond.selects RX10 yX10_isDone yX10_isDone, Cond.code yX10_isDone cX10_isDone 8 (some .boolean)]
def wsX10_coins_r2 : List Cond := [Cond.fieldLink RX10 31 "PaidBySignsModel" "costs" "[I", Cond.methodLink RX10 264 yX10_feel, Cond.instanceMethod yX10_feel, Cond.selects RX10 yX10_feel yX10_feel, Cond.code yX10_feel cX10_feel 6 (some .int), Cond.fieldLink RX10 40 "PaidBySignsModel" "marks" "[I", Cond.fieldLink RX10 37 "PaidBySignsModel" "rates" "[I", Cond.methodLink RX10 355 yX10_tell, Cond.instanceMethod yX10_tell, Cond.selects RX10 yX10_tell yX10_tell, Cond.code yX10_tell cX10_tell 7 none, Cond.fieldLink RX10 281 "PaidBySignsModel" "upper" "J", Cond.fieldLink RX10 284 "PaidBySignsModel" "lower" "J", Cond.fieldLink RX10 202 "PaidBySignsModel" "hasFraction" "Z", Cond.methodLink RX10 277 yX10_common, Cond.static yX10_common, Cond.code yX10_common cX10_common 10 (some .long)]
def wsX10_coins : List Cond := .code yX10_coins cX10_coins 10 (some .int) :: ((wsX10_coins_r1 ++ wsX10_coins_r2) ++ wsX100)
def wsX10_beginSum : List Cond := .code yX10_beginSum cX10_beginSum 1 none :: ([.fieldLink RX10 17 "PaidBySignsModel" "num" "[I", .fieldLink RX10 374 "PaidBySignsModel" "fromUp" "J", .fieldLink RX10 377 "PaidBySignsModel" "fromLow" "J", .fieldLink RX10 380 "PaidBySignsModel" "toLow" "J", .fieldLink RX10 383 "PaidBySignsModel" "canBe" "Z", .methodLink RX10 264 yX10_feel, .instanceMethod yX10_feel, .selects RX10 yX10_feel yX10_feel, .initialized RX10, .code yX10_feel cX10_feel 6 (some .int), .fieldLink RX10 40 "PaidBySignsModel" "marks" "[I", .fieldLink RX10 37 "PaidBySignsModel" "rates" "[I"] ++ wsX100)
def wsX10_must : List Cond := .code yX10_must cX10_must 5 none :: ([.fieldLink RX10 383 "PaidBySignsModel" "canBe" "Z", .fieldLink RX10 374 "PaidBySignsModel" "fromUp" "J", .fieldLink RX10 377 "PaidBySignsModel" "fromLow" "J", .fieldLink RX10 380 "PaidBySignsModel" "toLow" "J", .fieldLink RX10 386 "PaidBySignsModel" "toUp" "J", .methodLink RX10 331 yX10_apart, .static yX10_apart, .initialized RX10, .code yX10_apart cX10_apart 8 (some .long)] ++ wsX100)
def wsX10_isSum_r1 : List Cond := [Cond.fieldLink RX10 383 "PaidBySignsModel" "canBe" "Z", Cond.fieldLink RX10 380 "PaidBySignsModel" "toLow" "J", Cond.fieldLink RX10 374 "PaidBySignsModel" "fromUp" "J", Cond.fieldLink RX10 377 "PaidBySignsModel" "fromLow" "J", Cond.fieldLink RX10 386 "PaidBySignsModel" "toUp" "J", Cond.methodLink RX10 331 yX10_apart, Cond.static yX10_apart, Cond.initialized RX10, Cond.code yX10_apart cX10_apart 8 (some .long), Cond.methodLink RX10 318 yX10_wageOf, Cond.instanceMethod yX10_wageOf, Cond.selects RX10 yX10_wageOf yX10_wageOf, Cond.code yX10_wageOf cX10_wageOf 13 none, Cond.fieldLink RX10 17 "PaidBySignsModel" "num" "[I", Cond.fieldLink RX10 40 "PaidBySignsModel" "marks" "[I", Cond.fieldLink RX10 64 "PaidBySignsModel" "wageUp" "[J", Cond.fieldLink RX10 37 "PaidBySignsModel" "rates" "[I", Cond.fieldLink RX10 67 "PaidBySignsModel" "wageLow" "[J", Cond.methodLink RX10 264 yX10_feel, Cond.instanceMethod yX10_feel, Cond.selects RX10 yX10_feel yX10_feel, Cond.code yX10_feel cX10_feel 6 (some .int), Cond.methodLink RX10 277 yX10_common, Cond.static yX10_common]
def wsX10_isSum_r2 : List Cond := [Cond.code yX10_common cX10_common 10 (some .long)]
def wsX10_isSum : List Cond := .code yX10_isSum cX10_isSum 1 (some .boolean) :: ((wsX10_isSum_r1 ++ wsX10_isSum_r2) ++ wsX100)
def wsX10_chanceFrom : List Cond := .code yX10_chanceFrom cX10_chanceFrom 5 (some .int) :: ([.fieldLink RX10 17 "PaidBySignsModel" "num" "[I", .fieldLink RX10 28 "PaidBySignsModel" "brings" "[I", .methodLink RX10 259 yX10_chanceOf, .instanceMethod yX10_chanceOf, .selects RX10 yX10_chanceOf yX10_chanceOf, .initialized RX10, .code yX10_chanceOf cX10_chanceOf 3 (some .int), .fieldLink RX10 34 "PaidBySignsModel" "chances" "[I"] ++ wsX100)
theorem pm_X10_coins_r1 : ∀ w ∈ wsX10_coins_r1, w ∈ wsX10_coins := fun _ h => List.mem_cons_of_mem _ (List.mem_append_left _ (List.mem_append_left _ h))
theorem pm_X10_coins_r2 : ∀ w ∈ wsX10_coins_r2, w ∈ wsX10_coins := fun _ h => List.mem_cons_of_mem _ (List.mem_append_left _ (List.mem_append_right _ (h)))
theorem pw_X10_coins_X10 : ∀ w ∈ wsX100, w ∈ wsX10_coins := fun _ h => List.mem_cons_of_mem _ (List.mem_append_right _ h)
set_option maxRecDepth 20000 in
theorem ggX10_coins_X10_isWork : GoodIn wsX10_coins wsX10_isWork := goodIn_sub (List.forall_mem_cons.mpr ⟨pm_X10_coins_r1 _ (List.mem_of_getElem? (i := 11) rfl), List.forall_mem_append.mpr ⟨List.forall_mem_cons.mpr ⟨pm_X10_coins_r1 _ (List.mem_of_getElem? (i := 1) rfl), List.forall_mem_cons.mpr ⟨pm_X10_coins_r1 _ (List.mem_of_getElem? (i := 12) rfl), List.forall_mem_cons.mpr ⟨pm_X10_coins_r1 _ (List.mem_of_getElem? (i := 13) rfl), List.forall_mem_cons.mpr ⟨pm_X10_coins_r1 _ (List.mem_of_getElem? (i := 10) rfl), List.forall_mem_cons.mpr ⟨pm_X10_coins_r1 _ (List.mem_of_getElem? (i := 14) rfl), fun _ h => absurd h List.not_mem_nil⟩⟩⟩⟩⟩, pw_X10_coins_X10⟩⟩) (by decide +kernel)
set_option maxRecDepth 20000 in
theorem gX10_coins_X10_isWork : GoodIn wsX10_coins (wsV RX10 253 RX10 yX10_isWork wsX10_isWork) := goodIn_app (goodIn_of _ (by decide +kernel)) ggX10_coins_X10_isWork
set_option maxRecDepth 20000 in
theorem ggX10_coins_X10_in : GoodIn wsX10_coins wsX10_in := goodIn_sub (List.forall_mem_cons.mpr ⟨pm_X10_coins_r1 _ (List.mem_of_getElem? (i := 14) rfl), fun _ h => absurd h List.not_mem_nil⟩) (by decide +kernel)
set_option maxRecDepth 20000 in
theorem gX10_coins_X10_in : GoodIn wsX10_coins (va_wsS RX10 174 yX10_in wsX10_in) := goodIn_app (goodIn_of _ (by decide +kernel)) ggX10_coins_X10_in
set_option maxRecDepth 20000 in
theorem ggX10_coins_X10_chanceOf : GoodIn wsX10_coins wsX10_chanceOf := goodIn_sub (List.forall_mem_cons.mpr ⟨pm_X10_coins_r1 _ (List.mem_of_getElem? (i := 18) rfl), List.forall_mem_append.mpr ⟨List.forall_mem_cons.mpr ⟨pm_X10_coins_r1 _ (List.mem_of_getElem? (i := 19) rfl), fun _ h => absurd h List.not_mem_nil⟩, pw_X10_coins_X10⟩⟩) (by decide +kernel)
set_option maxRecDepth 20000 in
theorem gX10_coins_X10_chanceOf : GoodIn wsX10_coins (wsV RX10 259 RX10 yX10_chanceOf wsX10_chanceOf) := goodIn_app (goodIn_of _ (by decide +kernel)) ggX10_coins_X10_chanceOf
set_option maxRecDepth 20000 in
theorem ggX10_coins_X10_isDone : GoodIn wsX10_coins wsX10_isDone := goodIn_sub (List.forall_mem_cons.mpr ⟨pm_X10_coins_r1 _ (List.mem_of_getElem? (i := 23) rfl), List.forall_mem_append.mpr ⟨List.forall_mem_cons.mpr ⟨pm_X10_coins_r1 _ (List.mem_of_getElem? (i := 1) rfl), List.forall_mem_cons.mpr ⟨pm_X10_coins_r1 _ (List.mem_of_getElem? (i := 2) rfl), List.forall_mem_cons.mpr ⟨pm_X10_coins_r2 _ (List.mem_of_getElem? (i := 0) rfl), List.forall_mem_cons.mpr ⟨pm_X10_coins_r1 _ (List.mem_of_getElem? (i := 15) rfl), List.forall_mem_cons.mpr ⟨pm_X10_coins_r1 _ (List.mem_of_getElem? (i := 16) rfl), List.forall_mem_cons.mpr ⟨pm_X10_coins_r1 _ (List.mem_of_getElem? (i := 17) rfl), List.forall_mem_cons.mpr ⟨pm_X10_coins_r1 _ (List.mem_of_getElem? (i := 10) rfl), List.forall_mem_cons.mpr ⟨pm_X10_coins_r1 _ (List.mem_of_getElem? (i := 18) rfl), List.forall_mem_cons.mpr ⟨pm_X10_coins_r1 _ (List.mem_of_getElem? (i := 19) rfl), List.forall_mem_cons.mpr ⟨pm_X10_coins_r2 _ (List.mem_of_getElem? (i := 1) rfl), List.forall_mem_cons.mpr ⟨pm_X10_coins_r2 _ (List.mem_of_getElem? (i := 2) rfl), List.forall_mem_cons.mpr ⟨pm_X10_coins_r2 _ (List.mem_of_getElem? (i := 3) rfl), List.forall_mem_cons.mpr ⟨pm_X10_coins_r2 _ (List.mem_of_getElem? (i := 4) rfl), List.forall_mem_cons.mpr ⟨pm_X10_coins_r2 _ (List.mem_of_getElem? (i := 5) rfl), List.forall_mem_cons.mpr ⟨pm_X10_coins_r2 _ (List.mem_of_getElem? (i := 6) rfl), fun _ h => absurd h List.not_mem_nil⟩⟩⟩⟩⟩⟩⟩⟩⟩⟩⟩⟩⟩⟩⟩, pw_X10_coins_X10⟩⟩) (by decide +kernel)
set_option maxRecDepth 20000 in
theorem gX10_coins_X10_isDone : GoodIn wsX10_coins (wsV RX10 371 RX10 yX10_isDone wsX10_isDone) := goodIn_app (goodIn_of _ (by decide +kernel)) ggX10_coins_X10_isDone
set_option maxRecDepth 20000 in
theorem ggX10_coins_X10_tell : GoodIn wsX10_coins wsX10_tell := goodIn_sub (List.forall_mem_cons.mpr ⟨pm_X10_coins_r2 _ (List.mem_of_getElem? (i := 10) rfl), List.forall_mem_append.mpr ⟨List.forall_mem_cons.mpr ⟨pm_X10_coins_r2 _ (List.mem_of_getElem? (i := 11) rfl), List.forall_mem_cons.mpr ⟨pm_X10_coins_r2 _ (List.mem_of_getElem? (i := 12) rfl), List.forall_mem_cons.mpr ⟨pm_X10_coins_r2 _ (List.mem_of_getElem? (i := 13) rfl), List.forall_mem_cons.mpr ⟨pm_X10_coins_r2 _ (List.mem_of_getElem? (i := 14) rfl), List.forall_mem_cons.mpr ⟨pm_X10_coins_r2 _ (List.mem_of_getElem? (i := 15) rfl), List.forall_mem_cons.mpr ⟨pm_X10_coins_r1 _ (List.mem_of_getElem? (i := 10) rfl), List.forall_mem_cons.mpr ⟨pm_X10_coins_r2 _ (List.mem_of_getElem? (i := 16) rfl), fun _ h => absurd h List.not_mem_nil⟩⟩⟩⟩⟩⟩⟩, pw_X10_coins_X10⟩⟩) (by decide +kernel)
set_option maxRecDepth 20000 in
theorem gX10_coins_X10_tell : GoodIn wsX10_coins (wsV RX10 355 RX10 yX10_tell wsX10_tell) := goodIn_app (goodIn_of _ (by decide +kernel)) ggX10_coins_X10_tell
theorem dX10_coins_0 : decode cX10_coins 0 = .ok (.aload_n 0, 1) := by decide +kernel
theorem dX10_coins_1 : decode cX10_coins 1 = .ok (.iload_n 1, 1) := by decide +kernel
theorem dX10_coins_2 : decode cX10_coins 2 = .ok (.invokevirtual 253, 3) := by decide +kernel
theorem dX10_coins_5 : decode cX10_coins 5 = .ok (.ifCond .eq 15, 3) := by decide +kernel
theorem dX10_coins_8 : decode cX10_coins 8 = .ok (.iload_n 2, 1) := by decide +kernel
theorem dX10_coins_9 : decode cX10_coins 9 = .ok (.i2l, 1) := by decide +kernel
theorem dX10_coins_10 : decode cX10_coins 10 = .ok (.lconst 0, 1) := by decide +kernel
theorem dX10_coins_11 : decode cX10_coins 11 = .ok (.ldc2_w 247, 3) := by decide +kernel
theorem dX10_coins_14 : decode cX10_coins 14 = .ok (.invokestatic 174, 3) := by decide +kernel
theorem dX10_coins_17 : decode cX10_coins 17 = .ok (.ifCond .ne 6, 3) := by decide +kernel
theorem dX10_coins_20 : decode cX10_coins 20 = .ok (.bipush (-2), 2) := by decide +kernel
theorem dX10_coins_22 : decode cX10_coins 22 = .ok (.ireturn, 1) := by decide +kernel
theorem dX10_coins_23 : decode cX10_coins 23 = .ok (.iconst 1, 1) := by decide +kernel
theorem dX10_coins_24 : decode cX10_coins 24 = .ok (.istore_n 3, 1) := by decide +kernel
theorem dX10_coins_25 : decode cX10_coins 25 = .ok (.iconst 0, 1) := by decide +kernel
theorem dX10_coins_26 : decode cX10_coins 26 = .ok (.istore 4, 2) := by decide +kernel
theorem dX10_coins_28 : decode cX10_coins 28 = .ok (.iload 4, 2) := by decide +kernel
theorem dX10_coins_30 : decode cX10_coins 30 = .ok (.aload_n 0, 1) := by decide +kernel
theorem dX10_coins_31 : decode cX10_coins 31 = .ok (.getfield 17, 3) := by decide +kernel
theorem dX10_coins_34 : decode cX10_coins 34 = .ok (.iconst 3, 1) := by decide +kernel
theorem dX10_coins_35 : decode cX10_coins 35 = .ok (.iaload, 1) := by decide +kernel
theorem dX10_coins_36 : decode cX10_coins 36 = .ok (.if_icmp .ge 15, 3) := by decide +kernel
theorem dX10_coins_39 : decode cX10_coins 39 = .ok (.iload_n 3, 1) := by decide +kernel
theorem dX10_coins_40 : decode cX10_coins 40 = .ok (.iload_n 2, 1) := by decide +kernel
theorem dX10_coins_41 : decode cX10_coins 41 = .ok (.iconst 1, 1) := by decide +kernel
theorem dX10_coins_42 : decode cX10_coins 42 = .ok (.iadd, 1) := by decide +kernel
theorem dX10_coins_43 : decode cX10_coins 43 = .ok (.imul, 1) := by decide +kernel
theorem dX10_coins_44 : decode cX10_coins 44 = .ok (.istore_n 3, 1) := by decide +kernel
theorem dX10_coins_45 : decode cX10_coins 45 = .ok (.iinc 4 1, 3) := by decide +kernel
theorem dX10_coins_48 : decode cX10_coins 48 = .ok (.goto (-20), 3) := by decide +kernel
theorem dX10_coins_51 : decode cX10_coins 51 = .ok (.iconst (-1), 1) := by decide +kernel
theorem dX10_coins_52 : decode cX10_coins 52 = .ok (.istore 4, 2) := by decide +kernel
theorem dX10_coins_54 : decode cX10_coins 54 = .ok (.iconst 0, 1) := by decide +kernel
theorem dX10_coins_55 : decode cX10_coins 55 = .ok (.istore 5, 2) := by decide +kernel
theorem dX10_coins_57 : decode cX10_coins 57 = .ok (.iconst 0, 1) := by decide +kernel
theorem dX10_coins_58 : decode cX10_coins 58 = .ok (.istore 6, 2) := by decide +kernel
theorem dX10_coins_60 : decode cX10_coins 60 = .ok (.iload 6, 2) := by decide +kernel
theorem dX10_coins_62 : decode cX10_coins 62 = .ok (.iload_n 3, 1) := by decide +kernel
theorem dX10_coins_63 : decode cX10_coins 63 = .ok (.if_icmp .ge 117, 3) := by decide +kernel
theorem dX10_coins_66 : decode cX10_coins 66 = .ok (.iload 6, 2) := by decide +kernel
theorem dX10_coins_68 : decode cX10_coins 68 = .ok (.istore 7, 2) := by decide +kernel
theorem dX10_coins_70 : decode cX10_coins 70 = .ok (.iconst 0, 1) := by decide +kernel
theorem dX10_coins_71 : decode cX10_coins 71 = .ok (.istore 8, 2) := by decide +kernel
theorem dX10_coins_73 : decode cX10_coins 73 = .ok (.aload_n 0, 1) := by decide +kernel
theorem dX10_coins_74 : decode cX10_coins 74 = .ok (.getfield 17, 3) := by decide +kernel
theorem dX10_coins_77 : decode cX10_coins 77 = .ok (.iconst 3, 1) := by decide +kernel
theorem dX10_coins_78 : decode cX10_coins 78 = .ok (.iaload, 1) := by decide +kernel
theorem dX10_coins_79 : decode cX10_coins 79 = .ok (.iconst 1, 1) := by decide +kernel
theorem dX10_coins_80 : decode cX10_coins 80 = .ok (.isub, 1) := by decide +kernel
theorem dX10_coins_81 : decode cX10_coins 81 = .ok (.istore 9, 2) := by decide +kernel
theorem dX10_coins_83 : decode cX10_coins 83 = .ok (.iload 9, 2) := by decide +kernel
theorem dX10_coins_85 : decode cX10_coins 85 = .ok (.ifCond .lt 57, 3) := by decide +kernel
theorem dX10_coins_88 : decode cX10_coins 88 = .ok (.aload_n 0, 1) := by decide +kernel
theorem dX10_coins_89 : decode cX10_coins 89 = .ok (.getfield 82, 3) := by decide +kernel
theorem dX10_coins_92 : decode cX10_coins 92 = .ok (.iload 9, 2) := by decide +kernel
theorem dX10_coins_94 : decode cX10_coins 94 = .ok (.aload_n 0, 1) := by decide +kernel
theorem dX10_coins_95 : decode cX10_coins 95 = .ok (.getfield 17, 3) := by decide +kernel
theorem dX10_coins_98 : decode cX10_coins 98 = .ok (.iconst 2, 1) := by decide +kernel
theorem dX10_coins_99 : decode cX10_coins 99 = .ok (.iaload, 1) := by decide +kernel
theorem dX10_coins_100 : decode cX10_coins 100 = .ok (.iload 7, 2) := by decide +kernel
theorem dX10_coins_102 : decode cX10_coins 102 = .ok (.iload_n 2, 1) := by decide +kernel
theorem dX10_coins_103 : decode cX10_coins 103 = .ok (.iconst 1, 1) := by decide +kernel
theorem dX10_coins_104 : decode cX10_coins 104 = .ok (.iadd, 1) := by decide +kernel
theorem dX10_coins_105 : decode cX10_coins 105 = .ok (.irem, 1) := by decide +kernel
theorem dX10_coins_106 : decode cX10_coins 106 = .ok (.iadd, 1) := by decide +kernel
theorem dX10_coins_107 : decode cX10_coins 107 = .ok (.iastore, 1) := by decide +kernel
theorem dX10_coins_108 : decode cX10_coins 108 = .ok (.iload 7, 2) := by decide +kernel
theorem dX10_coins_110 : decode cX10_coins 110 = .ok (.iload_n 2, 1) := by decide +kernel
theorem dX10_coins_111 : decode cX10_coins 111 = .ok (.iconst 1, 1) := by decide +kernel
theorem dX10_coins_112 : decode cX10_coins 112 = .ok (.iadd, 1) := by decide +kernel
theorem dX10_coins_113 : decode cX10_coins 113 = .ok (.idiv, 1) := by decide +kernel
theorem dX10_coins_114 : decode cX10_coins 114 = .ok (.istore 7, 2) := by decide +kernel
theorem dX10_coins_116 : decode cX10_coins 116 = .ok (.iload 8, 2) := by decide +kernel
theorem dX10_coins_118 : decode cX10_coins 118 = .ok (.aload_n 0, 1) := by decide +kernel
theorem dX10_coins_119 : decode cX10_coins 119 = .ok (.iload_n 1, 1) := by decide +kernel
theorem dX10_coins_120 : decode cX10_coins 120 = .ok (.iload 9, 2) := by decide +kernel
theorem dX10_coins_122 : decode cX10_coins 122 = .ok (.invokevirtual 259, 3) := by decide +kernel
theorem dX10_coins_125 : decode cX10_coins 125 = .ok (.aload_n 0, 1) := by decide +kernel
theorem dX10_coins_126 : decode cX10_coins 126 = .ok (.getfield 82, 3) := by decide +kernel
theorem dX10_coins_129 : decode cX10_coins 129 = .ok (.iload 9, 2) := by decide +kernel
theorem dX10_coins_131 : decode cX10_coins 131 = .ok (.iaload, 1) := by decide +kernel
theorem dX10_coins_132 : decode cX10_coins 132 = .ok (.imul, 1) := by decide +kernel
theorem dX10_coins_133 : decode cX10_coins 133 = .ok (.iadd, 1) := by decide +kernel
theorem dX10_coins_134 : decode cX10_coins 134 = .ok (.istore 8, 2) := by decide +kernel
theorem dX10_coins_136 : decode cX10_coins 136 = .ok (.iinc 9 (-1), 3) := by decide +kernel
theorem dX10_coins_139 : decode cX10_coins 139 = .ok (.goto (-56), 3) := by decide +kernel
theorem dX10_coins_142 : decode cX10_coins 142 = .ok (.iload 4, 2) := by decide +kernel
theorem dX10_coins_144 : decode cX10_coins 144 = .ok (.iconst (-1), 1) := by decide +kernel
theorem dX10_coins_145 : decode cX10_coins 145 = .ok (.if_icmp .eq 10, 3) := by decide +kernel
theorem dX10_coins_148 : decode cX10_coins 148 = .ok (.iload 8, 2) := by decide +kernel
theorem dX10_coins_150 : decode cX10_coins 150 = .ok (.iload 5, 2) := by decide +kernel
theorem dX10_coins_152 : decode cX10_coins 152 = .ok (.if_icmp .ge 22, 3) := by decide +kernel
theorem dX10_coins_155 : decode cX10_coins 155 = .ok (.aload_n 0, 1) := by decide +kernel
theorem dX10_coins_156 : decode cX10_coins 156 = .ok (.iload_n 1, 1) := by decide +kernel
theorem dX10_coins_157 : decode cX10_coins 157 = .ok (.invokevirtual 371, 3) := by decide +kernel
theorem dX10_coins_160 : decode cX10_coins 160 = .ok (.ifCond .ne 6, 3) := by decide +kernel
theorem dX10_coins_163 : decode cX10_coins 163 = .ok (.goto 11, 3) := by decide +kernel
theorem dX10_coins_166 : decode cX10_coins 166 = .ok (.iload 6, 2) := by decide +kernel
theorem dX10_coins_168 : decode cX10_coins 168 = .ok (.istore 4, 2) := by decide +kernel
theorem dX10_coins_170 : decode cX10_coins 170 = .ok (.iload 8, 2) := by decide +kernel
theorem dX10_coins_172 : decode cX10_coins 172 = .ok (.istore 5, 2) := by decide +kernel
theorem dX10_coins_174 : decode cX10_coins 174 = .ok (.iinc 6 1, 3) := by decide +kernel
theorem dX10_coins_177 : decode cX10_coins 177 = .ok (.goto (-117), 3) := by decide +kernel
theorem dX10_coins_180 : decode cX10_coins 180 = .ok (.iload 4, 2) := by decide +kernel
theorem dX10_coins_182 : decode cX10_coins 182 = .ok (.iconst (-1), 1) := by decide +kernel
theorem dX10_coins_183 : decode cX10_coins 183 = .ok (.if_icmp .ne 5, 3) := by decide +kernel
theorem dX10_coins_186 : decode cX10_coins 186 = .ok (.iconst (-1), 1) := by decide +kernel
theorem dX10_coins_187 : decode cX10_coins 187 = .ok (.ireturn, 1) := by decide +kernel
theorem dX10_coins_188 : decode cX10_coins 188 = .ok (.aload_n 0, 1) := by decide +kernel
theorem dX10_coins_189 : decode cX10_coins 189 = .ok (.iload 5, 2) := by decide +kernel
theorem dX10_coins_191 : decode cX10_coins 191 = .ok (.i2l, 1) := by decide +kernel
theorem dX10_coins_192 : decode cX10_coins 192 = .ok (.aload_n 0, 1) := by decide +kernel
theorem dX10_coins_193 : decode cX10_coins 193 = .ok (.getfield 17, 3) := by decide +kernel
theorem dX10_coins_196 : decode cX10_coins 196 = .ok (.iconst 0, 1) := by decide +kernel
theorem dX10_coins_197 : decode cX10_coins 197 = .ok (.iaload, 1) := by decide +kernel
theorem dX10_coins_198 : decode cX10_coins 198 = .ok (.i2l, 1) := by decide +kernel
theorem dX10_coins_199 : decode cX10_coins 199 = .ok (.invokevirtual 355, 3) := by decide +kernel
theorem dX10_coins_202 : decode cX10_coins 202 = .ok (.aload_n 0, 1) := by decide +kernel
theorem dX10_coins_203 : decode cX10_coins 203 = .ok (.iconst 1, 1) := by decide +kernel
theorem dX10_coins_204 : decode cX10_coins 204 = .ok (.putfield 206, 3) := by decide +kernel
theorem dX10_coins_207 : decode cX10_coins 207 = .ok (.aload_n 0, 1) := by decide +kernel
theorem dX10_coins_208 : decode cX10_coins 208 = .ok (.aload_n 0, 1) := by decide +kernel
theorem dX10_coins_209 : decode cX10_coins 209 = .ok (.getfield 17, 3) := by decide +kernel
theorem dX10_coins_212 : decode cX10_coins 212 = .ok (.iconst 3, 1) := by decide +kernel
theorem dX10_coins_213 : decode cX10_coins 213 = .ok (.iaload, 1) := by decide +kernel
theorem dX10_coins_214 : decode cX10_coins 214 = .ok (.putfield 346, 3) := by decide +kernel
theorem dX10_coins_217 : decode cX10_coins 217 = .ok (.aload_n 0, 1) := by decide +kernel
theorem dX10_coins_218 : decode cX10_coins 218 = .ok (.getfield 17, 3) := by decide +kernel
theorem dX10_coins_221 : decode cX10_coins 221 = .ok (.iconst 3, 1) := by decide +kernel
theorem dX10_coins_222 : decode cX10_coins 222 = .ok (.iaload, 1) := by decide +kernel
theorem dX10_coins_223 : decode cX10_coins 223 = .ok (.iconst 1, 1) := by decide +kernel
theorem dX10_coins_224 : decode cX10_coins 224 = .ok (.isub, 1) := by decide +kernel
theorem dX10_coins_225 : decode cX10_coins 225 = .ok (.istore 6, 2) := by decide +kernel
theorem dX10_coins_227 : decode cX10_coins 227 = .ok (.iload 6, 2) := by decide +kernel
theorem dX10_coins_229 : decode cX10_coins 229 = .ok (.ifCond .lt 46, 3) := by decide +kernel
theorem dX10_coins_232 : decode cX10_coins 232 = .ok (.aload_n 0, 1) := by decide +kernel
theorem dX10_coins_233 : decode cX10_coins 233 = .ok (.getfield 76, 3) := by decide +kernel
theorem dX10_coins_236 : decode cX10_coins 236 = .ok (.iload 6, 2) := by decide +kernel
theorem dX10_coins_238 : decode cX10_coins 238 = .ok (.aload_n 0, 1) := by decide +kernel
theorem dX10_coins_239 : decode cX10_coins 239 = .ok (.getfield 17, 3) := by decide +kernel
theorem dX10_coins_242 : decode cX10_coins 242 = .ok (.iconst 2, 1) := by decide +kernel
theorem dX10_coins_243 : decode cX10_coins 243 = .ok (.iaload, 1) := by decide +kernel
theorem dX10_coins_244 : decode cX10_coins 244 = .ok (.iload 4, 2) := by decide +kernel
theorem dX10_coins_246 : decode cX10_coins 246 = .ok (.iload_n 2, 1) := by decide +kernel
theorem dX10_coins_247 : decode cX10_coins 247 = .ok (.iconst 1, 1) := by decide +kernel
theorem dX10_coins_248 : decode cX10_coins 248 = .ok (.iadd, 1) := by decide +kernel
theorem dX10_coins_249 : decode cX10_coins 249 = .ok (.irem, 1) := by decide +kernel
theorem dX10_coins_250 : decode cX10_coins 250 = .ok (.iadd, 1) := by decide +kernel
theorem dX10_coins_251 : decode cX10_coins 251 = .ok (.i2l, 1) := by decide +kernel
theorem dX10_coins_252 : decode cX10_coins 252 = .ok (.lastore, 1) := by decide +kernel
theorem dX10_coins_253 : decode cX10_coins 253 = .ok (.aload_n 0, 1) := by decide +kernel
theorem dX10_coins_254 : decode cX10_coins 254 = .ok (.getfield 79, 3) := by decide +kernel
theorem dX10_coins_257 : decode cX10_coins 257 = .ok (.iload 6, 2) := by decide +kernel
theorem dX10_coins_259 : decode cX10_coins 259 = .ok (.lconst 1, 1) := by decide +kernel
theorem dX10_coins_260 : decode cX10_coins 260 = .ok (.lastore, 1) := by decide +kernel
theorem dX10_coins_261 : decode cX10_coins 261 = .ok (.iload 4, 2) := by decide +kernel
theorem dX10_coins_263 : decode cX10_coins 263 = .ok (.iload_n 2, 1) := by decide +kernel
theorem dX10_coins_264 : decode cX10_coins 264 = .ok (.iconst 1, 1) := by decide +kernel
theorem dX10_coins_265 : decode cX10_coins 265 = .ok (.iadd, 1) := by decide +kernel
theorem dX10_coins_266 : decode cX10_coins 266 = .ok (.idiv, 1) := by decide +kernel
theorem dX10_coins_267 : decode cX10_coins 267 = .ok (.istore 4, 2) := by decide +kernel
theorem dX10_coins_269 : decode cX10_coins 269 = .ok (.iinc 6 (-1), 3) := by decide +kernel
theorem dX10_coins_272 : decode cX10_coins 272 = .ok (.goto (-45), 3) := by decide +kernel
theorem dX10_coins_275 : decode cX10_coins 275 = .ok (.iconst 1, 1) := by decide +kernel
theorem dX10_coins_276 : decode cX10_coins 276 = .ok (.ireturn, 1) := by decide +kernel
set_option maxRecDepth 20000 in
theorem ggX10_beginSum_X10_feel : GoodIn wsX10_beginSum wsX10_feel := goodIn_r _ [10, 1, 11, 12, 13, 14, 15, 16, 17, 18, 19, 20, 21, 22, 23, 24, 25, 26, 27, 28, 29, 30, 31, 32, 33, 34, 35, 36, 37, 38, 39, 40, 41, 42, 43, 44, 45, 46, 47, 48, 49, 50, 51, 52, 53, 54, 55, 56, 57, 58, 59, 60, 61, 62, 63, 64, 65, 66, 67, 68, 69, 70, 71, 72, 73, 74, 75, 76, 77] (by decide +kernel) (by decide +kernel)
set_option maxRecDepth 20000 in
theorem gX10_beginSum_X10_feel : GoodIn wsX10_beginSum (wsV RX10 264 RX10 yX10_feel wsX10_feel) := goodIn_app (goodIn_of _ (by decide +kernel)) ggX10_beginSum_X10_feel
theorem dX10_beginSum_0 : decode cX10_beginSum 0 = .ok (.aload_n 0, 1) := by decide +kernel
theorem dX10_beginSum_1 : decode cX10_beginSum 1 = .ok (.aload_n 0, 1) := by decide +kernel
theorem dX10_beginSum_2 : decode cX10_beginSum 2 = .ok (.aload_n 0, 1) := by decide +kernel
theorem dX10_beginSum_3 : decode cX10_beginSum 3 = .ok (.getfield 17, 3) := by decide +kernel
theorem dX10_beginSum_6 : decode cX10_beginSum 6 = .ok (.iconst 2, 1) := by decide +kernel
theorem dX10_beginSum_7 : decode cX10_beginSum 7 = .ok (.iaload, 1) := by decide +kernel
theorem dX10_beginSum_8 : decode cX10_beginSum 8 = .ok (.invokevirtual 264, 3) := by decide +kernel
theorem dX10_beginSum_11 : decode cX10_beginSum 11 = .ok (.i2l, 1) := by decide +kernel
theorem dX10_beginSum_12 : decode cX10_beginSum 12 = .ok (.putfield 374, 3) := by decide +kernel
theorem dX10_beginSum_15 : decode cX10_beginSum 15 = .ok (.aload_n 0, 1) := by decide +kernel
theorem dX10_beginSum_16 : decode cX10_beginSum 16 = .ok (.lconst 1, 1) := by decide +kernel
theorem dX10_beginSum_17 : decode cX10_beginSum 17 = .ok (.putfield 377, 3) := by decide +kernel
theorem dX10_beginSum_20 : decode cX10_beginSum 20 = .ok (.aload_n 0, 1) := by decide +kernel
theorem dX10_beginSum_21 : decode cX10_beginSum 21 = .ok (.lconst 0, 1) := by decide +kernel
theorem dX10_beginSum_22 : decode cX10_beginSum 22 = .ok (.putfield 380, 3) := by decide +kernel
theorem dX10_beginSum_25 : decode cX10_beginSum 25 = .ok (.aload_n 0, 1) := by decide +kernel
theorem dX10_beginSum_26 : decode cX10_beginSum 26 = .ok (.iconst 1, 1) := by decide +kernel
theorem dX10_beginSum_27 : decode cX10_beginSum 27 = .ok (.putfield 383, 3) := by decide +kernel
theorem dX10_beginSum_30 : decode cX10_beginSum 30 = .ok (.return_, 1) := by decide +kernel
set_option maxRecDepth 20000 in
theorem ggX10_must_X10_apart : GoodIn wsX10_must wsX10_apart := goodIn_r _ [9] (by decide +kernel) (by decide +kernel)
set_option maxRecDepth 20000 in
theorem gX10_must_X10_apart : GoodIn wsX10_must (va_wsS RX10 331 yX10_apart wsX10_apart) := goodIn_app (goodIn_of _ (by decide +kernel)) ggX10_must_X10_apart
theorem dX10_must_0 : decode cX10_must 0 = .ok (.lload_n 1, 1) := by decide +kernel
theorem dX10_must_1 : decode cX10_must 1 = .ok (.lconst 0, 1) := by decide +kernel
theorem dX10_must_2 : decode cX10_must 2 = .ok (.lcmp, 1) := by decide +kernel
theorem dX10_must_3 : decode cX10_must 3 = .ok (.ifCond .ne 28, 3) := by decide +kernel
theorem dX10_must_6 : decode cX10_must 6 = .ok (.aload_n 0, 1) := by decide +kernel
theorem dX10_must_7 : decode cX10_must 7 = .ok (.aload_n 0, 1) := by decide +kernel
theorem dX10_must_8 : decode cX10_must 8 = .ok (.getfield 383, 3) := by decide +kernel
theorem dX10_must_11 : decode cX10_must 11 = .ok (.ifCond .eq 13, 3) := by decide +kernel
theorem dX10_must_14 : decode cX10_must 14 = .ok (.lload_n 3, 1) := by decide +kernel
theorem dX10_must_15 : decode cX10_must 15 = .ok (.lconst 0, 1) := by decide +kernel
theorem dX10_must_16 : decode cX10_must 16 = .ok (.lcmp, 1) := by decide +kernel
theorem dX10_must_17 : decode cX10_must 17 = .ok (.ifCond .gt 7, 3) := by decide +kernel
theorem dX10_must_20 : decode cX10_must 20 = .ok (.iconst 1, 1) := by decide +kernel
theorem dX10_must_21 : decode cX10_must 21 = .ok (.goto 4, 3) := by decide +kernel
theorem dX10_must_24 : decode cX10_must 24 = .ok (.iconst 0, 1) := by decide +kernel
theorem dX10_must_25 : decode cX10_must 25 = .ok (.putfield 383, 3) := by decide +kernel
theorem dX10_must_28 : decode cX10_must 28 = .ok (.goto 82, 3) := by decide +kernel
theorem dX10_must_31 : decode cX10_must 31 = .ok (.lload_n 1, 1) := by decide +kernel
theorem dX10_must_32 : decode cX10_must 32 = .ok (.lconst 0, 1) := by decide +kernel
theorem dX10_must_33 : decode cX10_must 33 = .ok (.lcmp, 1) := by decide +kernel
theorem dX10_must_34 : decode cX10_must 34 = .ok (.ifCond .le 35, 3) := by decide +kernel
theorem dX10_must_37 : decode cX10_must 37 = .ok (.lload_n 3, 1) := by decide +kernel
theorem dX10_must_38 : decode cX10_must 38 = .ok (.lload_n 1, 1) := by decide +kernel
theorem dX10_must_39 : decode cX10_must 39 = .ok (.aload_n 0, 1) := by decide +kernel
theorem dX10_must_40 : decode cX10_must 40 = .ok (.getfield 374, 3) := by decide +kernel
theorem dX10_must_43 : decode cX10_must 43 = .ok (.aload_n 0, 1) := by decide +kernel
theorem dX10_must_44 : decode cX10_must 44 = .ok (.getfield 377, 3) := by decide +kernel
theorem dX10_must_47 : decode cX10_must 47 = .ok (.invokestatic 331, 3) := by decide +kernel
theorem dX10_must_50 : decode cX10_must 50 = .ok (.lconst 0, 1) := by decide +kernel
theorem dX10_must_51 : decode cX10_must 51 = .ok (.lcmp, 1) := by decide +kernel
theorem dX10_must_52 : decode cX10_must 52 = .ok (.ifCond .gt 4, 3) := by decide +kernel
theorem dX10_must_55 : decode cX10_must 55 = .ok (.return_, 1) := by decide +kernel
theorem dX10_must_56 : decode cX10_must 56 = .ok (.aload_n 0, 1) := by decide +kernel
theorem dX10_must_57 : decode cX10_must 57 = .ok (.lload_n 3, 1) := by decide +kernel
theorem dX10_must_58 : decode cX10_must 58 = .ok (.putfield 374, 3) := by decide +kernel
theorem dX10_must_61 : decode cX10_must 61 = .ok (.aload_n 0, 1) := by decide +kernel
theorem dX10_must_62 : decode cX10_must 62 = .ok (.lload_n 1, 1) := by decide +kernel
theorem dX10_must_63 : decode cX10_must 63 = .ok (.putfield 377, 3) := by decide +kernel
theorem dX10_must_66 : decode cX10_must 66 = .ok (.goto 44, 3) := by decide +kernel
theorem dX10_must_69 : decode cX10_must 69 = .ok (.aload_n 0, 1) := by decide +kernel
theorem dX10_must_70 : decode cX10_must 70 = .ok (.getfield 380, 3) := by decide +kernel
theorem dX10_must_73 : decode cX10_must 73 = .ok (.lconst 0, 1) := by decide +kernel
theorem dX10_must_74 : decode cX10_must 74 = .ok (.lcmp, 1) := by decide +kernel
theorem dX10_must_75 : decode cX10_must 75 = .ok (.ifCond .eq 23, 3) := by decide +kernel
theorem dX10_must_78 : decode cX10_must 78 = .ok (.lload_n 3, 1) := by decide +kernel
theorem dX10_must_79 : decode cX10_must 79 = .ok (.lneg, 1) := by decide +kernel
theorem dX10_must_80 : decode cX10_must 80 = .ok (.lload_n 1, 1) := by decide +kernel
theorem dX10_must_81 : decode cX10_must 81 = .ok (.lneg, 1) := by decide +kernel
theorem dX10_must_82 : decode cX10_must 82 = .ok (.aload_n 0, 1) := by decide +kernel
theorem dX10_must_83 : decode cX10_must 83 = .ok (.getfield 386, 3) := by decide +kernel
theorem dX10_must_86 : decode cX10_must 86 = .ok (.aload_n 0, 1) := by decide +kernel
theorem dX10_must_87 : decode cX10_must 87 = .ok (.getfield 380, 3) := by decide +kernel
theorem dX10_must_90 : decode cX10_must 90 = .ok (.invokestatic 331, 3) := by decide +kernel
theorem dX10_must_93 : decode cX10_must 93 = .ok (.lconst 0, 1) := by decide +kernel
theorem dX10_must_94 : decode cX10_must 94 = .ok (.lcmp, 1) := by decide +kernel
theorem dX10_must_95 : decode cX10_must 95 = .ok (.ifCond .ge 15, 3) := by decide +kernel
theorem dX10_must_98 : decode cX10_must 98 = .ok (.aload_n 0, 1) := by decide +kernel
theorem dX10_must_99 : decode cX10_must 99 = .ok (.lload_n 3, 1) := by decide +kernel
theorem dX10_must_100 : decode cX10_must 100 = .ok (.lneg, 1) := by decide +kernel
theorem dX10_must_101 : decode cX10_must 101 = .ok (.putfield 386, 3) := by decide +kernel
theorem dX10_must_104 : decode cX10_must 104 = .ok (.aload_n 0, 1) := by decide +kernel
theorem dX10_must_105 : decode cX10_must 105 = .ok (.lload_n 1, 1) := by decide +kernel
theorem dX10_must_106 : decode cX10_must 106 = .ok (.lneg, 1) := by decide +kernel
theorem dX10_must_107 : decode cX10_must 107 = .ok (.putfield 380, 3) := by decide +kernel
theorem dX10_must_110 : decode cX10_must 110 = .ok (.return_, 1) := by decide +kernel
theorem pm_X10_isSum_r1 : ∀ w ∈ wsX10_isSum_r1, w ∈ wsX10_isSum := fun _ h => List.mem_cons_of_mem _ (List.mem_append_left _ (List.mem_append_left _ h))
theorem pm_X10_isSum_r2 : ∀ w ∈ wsX10_isSum_r2, w ∈ wsX10_isSum := fun _ h => List.mem_cons_of_mem _ (List.mem_append_left _ (List.mem_append_right _ (h)))
theorem pw_X10_isSum_X10 : ∀ w ∈ wsX100, w ∈ wsX10_isSum := fun _ h => List.mem_cons_of_mem _ (List.mem_append_right _ h)
set_option maxRecDepth 20000 in
theorem ggX10_isSum_X10_apart : GoodIn wsX10_isSum wsX10_apart := goodIn_sub (List.forall_mem_cons.mpr ⟨pm_X10_isSum_r1 _ (List.mem_of_getElem? (i := 8) rfl), fun _ h => absurd h List.not_mem_nil⟩) (by decide +kernel)
set_option maxRecDepth 20000 in
theorem gX10_isSum_X10_apart : GoodIn wsX10_isSum (va_wsS RX10 331 yX10_apart wsX10_apart) := goodIn_app (goodIn_of _ (by decide +kernel)) ggX10_isSum_X10_apart
set_option maxRecDepth 20000 in
theorem ggX10_isSum_X10_wageOf : GoodIn wsX10_isSum wsX10_wageOf := goodIn_sub (List.forall_mem_cons.mpr ⟨pm_X10_isSum_r1 _ (List.mem_of_getElem? (i := 12) rfl), List.forall_mem_append.mpr ⟨List.forall_mem_cons.mpr ⟨pm_X10_isSum_r1 _ (List.mem_of_getElem? (i := 13) rfl), List.forall_mem_cons.mpr ⟨pm_X10_isSum_r1 _ (List.mem_of_getElem? (i := 14) rfl), List.forall_mem_cons.mpr ⟨pm_X10_isSum_r1 _ (List.mem_of_getElem? (i := 15) rfl), List.forall_mem_cons.mpr ⟨pm_X10_isSum_r1 _ (List.mem_of_getElem? (i := 16) rfl), List.forall_mem_cons.mpr ⟨pm_X10_isSum_r1 _ (List.mem_of_getElem? (i := 17) rfl), List.forall_mem_cons.mpr ⟨pm_X10_isSum_r1 _ (List.mem_of_getElem? (i := 18) rfl), List.forall_mem_cons.mpr ⟨pm_X10_isSum_r1 _ (List.mem_of_getElem? (i := 19) rfl), List.forall_mem_cons.mpr ⟨pm_X10_isSum_r1 _ (List.mem_of_getElem? (i := 20) rfl), List.forall_mem_cons.mpr ⟨pm_X10_isSum_r1 _ (List.mem_of_getElem? (i := 7) rfl), List.forall_mem_cons.mpr ⟨pm_X10_isSum_r1 _ (List.mem_of_getElem? (i := 21) rfl), List.forall_mem_cons.mpr ⟨pm_X10_isSum_r1 _ (List.mem_of_getElem? (i := 22) rfl), List.forall_mem_cons.mpr ⟨pm_X10_isSum_r1 _ (List.mem_of_getElem? (i := 23) rfl), List.forall_mem_cons.mpr ⟨pm_X10_isSum_r2 _ (List.mem_of_getElem? (i := 0) rfl), fun _ h => absurd h List.not_mem_nil⟩⟩⟩⟩⟩⟩⟩⟩⟩⟩⟩⟩⟩, pw_X10_isSum_X10⟩⟩) (by decide +kernel)
set_option maxRecDepth 20000 in
theorem gX10_isSum_X10_wageOf : GoodIn wsX10_isSum (wsV RX10 318 RX10 yX10_wageOf wsX10_wageOf) := goodIn_app (goodIn_of _ (by decide +kernel)) ggX10_isSum_X10_wageOf
theorem dX10_isSum_0 : decode cX10_isSum 0 = .ok (.aload_n 0, 1) := by decide +kernel
theorem dX10_isSum_1 : decode cX10_isSum 1 = .ok (.getfield 383, 3) := by decide +kernel
theorem dX10_isSum_4 : decode cX10_isSum 4 = .ok (.ifCond .eq 36, 3) := by decide +kernel
theorem dX10_isSum_7 : decode cX10_isSum 7 = .ok (.aload_n 0, 1) := by decide +kernel
theorem dX10_isSum_8 : decode cX10_isSum 8 = .ok (.getfield 380, 3) := by decide +kernel
theorem dX10_isSum_11 : decode cX10_isSum 11 = .ok (.lconst 0, 1) := by decide +kernel
theorem dX10_isSum_12 : decode cX10_isSum 12 = .ok (.lcmp, 1) := by decide +kernel
theorem dX10_isSum_13 : decode cX10_isSum 13 = .ok (.ifCond .eq 29, 3) := by decide +kernel
theorem dX10_isSum_16 : decode cX10_isSum 16 = .ok (.aload_n 0, 1) := by decide +kernel
theorem dX10_isSum_17 : decode cX10_isSum 17 = .ok (.getfield 374, 3) := by decide +kernel
theorem dX10_isSum_20 : decode cX10_isSum 20 = .ok (.aload_n 0, 1) := by decide +kernel
theorem dX10_isSum_21 : decode cX10_isSum 21 = .ok (.getfield 377, 3) := by decide +kernel
theorem dX10_isSum_24 : decode cX10_isSum 24 = .ok (.aload_n 0, 1) := by decide +kernel
theorem dX10_isSum_25 : decode cX10_isSum 25 = .ok (.getfield 386, 3) := by decide +kernel
theorem dX10_isSum_28 : decode cX10_isSum 28 = .ok (.aload_n 0, 1) := by decide +kernel
theorem dX10_isSum_29 : decode cX10_isSum 29 = .ok (.getfield 380, 3) := by decide +kernel
theorem dX10_isSum_32 : decode cX10_isSum 32 = .ok (.invokestatic 331, 3) := by decide +kernel
theorem dX10_isSum_35 : decode cX10_isSum 35 = .ok (.lconst 0, 1) := by decide +kernel
theorem dX10_isSum_36 : decode cX10_isSum 36 = .ok (.lcmp, 1) := by decide +kernel
theorem dX10_isSum_37 : decode cX10_isSum 37 = .ok (.ifCond .le 5, 3) := by decide +kernel
theorem dX10_isSum_40 : decode cX10_isSum 40 = .ok (.iconst 0, 1) := by decide +kernel
theorem dX10_isSum_41 : decode cX10_isSum 41 = .ok (.ireturn, 1) := by decide +kernel
theorem dX10_isSum_42 : decode cX10_isSum 42 = .ok (.aload_n 0, 1) := by decide +kernel
theorem dX10_isSum_43 : decode cX10_isSum 43 = .ok (.aload_n 0, 1) := by decide +kernel
theorem dX10_isSum_44 : decode cX10_isSum 44 = .ok (.getfield 374, 3) := by decide +kernel
theorem dX10_isSum_47 : decode cX10_isSum 47 = .ok (.aload_n 0, 1) := by decide +kernel
theorem dX10_isSum_48 : decode cX10_isSum 48 = .ok (.getfield 377, 3) := by decide +kernel
theorem dX10_isSum_51 : decode cX10_isSum 51 = .ok (.iconst 0, 1) := by decide +kernel
theorem dX10_isSum_52 : decode cX10_isSum 52 = .ok (.invokevirtual 318, 3) := by decide +kernel
theorem dX10_isSum_55 : decode cX10_isSum 55 = .ok (.iconst 1, 1) := by decide +kernel
theorem dX10_isSum_56 : decode cX10_isSum 56 = .ok (.ireturn, 1) := by decide +kernel
set_option maxRecDepth 20000 in
theorem ggX10_chanceFrom_X10_chanceOf : GoodIn wsX10_chanceFrom wsX10_chanceOf := goodIn_r _ [7, 8, 9, 10, 11, 12, 13, 14, 15, 16, 17, 18, 19, 20, 21, 22, 23, 24, 25, 26, 27, 28, 29, 30, 31, 32, 33, 34, 35, 36, 37, 38, 39, 40, 41, 42, 43, 44, 45, 46, 47, 48, 49, 50, 51, 52, 53, 54, 55, 56, 57, 58, 59, 60, 61, 62, 63, 64, 65, 66, 67, 68, 69, 70, 71, 72, 73] (by decide +kernel) (by decide +kernel)
set_option maxRecDepth 20000 in
theorem gX10_chanceFrom_X10_chanceOf : GoodIn wsX10_chanceFrom (wsV RX10 259 RX10 yX10_chanceOf wsX10_chanceOf) := goodIn_app (goodIn_of _ (by decide +kernel)) ggX10_chanceFrom_X10_chanceOf
theorem dX10_chanceFrom_0 : decode cX10_chanceFrom 0 = .ok (.iconst 0, 1) := by decide +kernel
theorem dX10_chanceFrom_1 : decode cX10_chanceFrom 1 = .ok (.istore_n 3, 1) := by decide +kernel
theorem dX10_chanceFrom_2 : decode cX10_chanceFrom 2 = .ok (.iconst 0, 1) := by decide +kernel
theorem dX10_chanceFrom_3 : decode cX10_chanceFrom 3 = .ok (.istore 4, 2) := by decide +kernel
theorem dX10_chanceFrom_5 : decode cX10_chanceFrom 5 = .ok (.iload 4, 2) := by decide +kernel
theorem dX10_chanceFrom_7 : decode cX10_chanceFrom 7 = .ok (.aload_n 0, 1) := by decide +kernel
theorem dX10_chanceFrom_8 : decode cX10_chanceFrom 8 = .ok (.getfield 17, 3) := by decide +kernel
theorem dX10_chanceFrom_11 : decode cX10_chanceFrom 11 = .ok (.iconst 3, 1) := by decide +kernel
theorem dX10_chanceFrom_12 : decode cX10_chanceFrom 12 = .ok (.iaload, 1) := by decide +kernel
theorem dX10_chanceFrom_13 : decode cX10_chanceFrom 13 = .ok (.if_icmp .ge 39, 3) := by decide +kernel
theorem dX10_chanceFrom_16 : decode cX10_chanceFrom 16 = .ok (.iload_n 3, 1) := by decide +kernel
theorem dX10_chanceFrom_17 : decode cX10_chanceFrom 17 = .ok (.aload_n 0, 1) := by decide +kernel
theorem dX10_chanceFrom_18 : decode cX10_chanceFrom 18 = .ok (.getfield 28, 3) := by decide +kernel
theorem dX10_chanceFrom_21 : decode cX10_chanceFrom 21 = .ok (.iload 4, 2) := by decide +kernel
theorem dX10_chanceFrom_23 : decode cX10_chanceFrom 23 = .ok (.iaload, 1) := by decide +kernel
theorem dX10_chanceFrom_24 : decode cX10_chanceFrom 24 = .ok (.aload_n 0, 1) := by decide +kernel
theorem dX10_chanceFrom_25 : decode cX10_chanceFrom 25 = .ok (.getfield 28, 3) := by decide +kernel
theorem dX10_chanceFrom_28 : decode cX10_chanceFrom 28 = .ok (.iload_n 2, 1) := by decide +kernel
theorem dX10_chanceFrom_29 : decode cX10_chanceFrom 29 = .ok (.iaload, 1) := by decide +kernel
theorem dX10_chanceFrom_30 : decode cX10_chanceFrom 30 = .ok (.if_icmp .lt 13, 3) := by decide +kernel
theorem dX10_chanceFrom_33 : decode cX10_chanceFrom 33 = .ok (.aload_n 0, 1) := by decide +kernel
theorem dX10_chanceFrom_34 : decode cX10_chanceFrom 34 = .ok (.iload_n 1, 1) := by decide +kernel
theorem dX10_chanceFrom_35 : decode cX10_chanceFrom 35 = .ok (.iload 4, 2) := by decide +kernel
theorem dX10_chanceFrom_37 : decode cX10_chanceFrom 37 = .ok (.invokevirtual 259, 3) := by decide +kernel
theorem dX10_chanceFrom_40 : decode cX10_chanceFrom 40 = .ok (.goto 4, 3) := by decide +kernel
theorem dX10_chanceFrom_43 : decode cX10_chanceFrom 43 = .ok (.iconst 0, 1) := by decide +kernel
theorem dX10_chanceFrom_44 : decode cX10_chanceFrom 44 = .ok (.iadd, 1) := by decide +kernel
theorem dX10_chanceFrom_45 : decode cX10_chanceFrom 45 = .ok (.istore_n 3, 1) := by decide +kernel
theorem dX10_chanceFrom_46 : decode cX10_chanceFrom 46 = .ok (.iinc 4 1, 3) := by decide +kernel
theorem dX10_chanceFrom_49 : decode cX10_chanceFrom 49 = .ok (.goto (-44), 3) := by decide +kernel
theorem dX10_chanceFrom_52 : decode cX10_chanceFrom 52 = .ok (.iload_n 3, 1) := by decide +kernel
theorem dX10_chanceFrom_53 : decode cX10_chanceFrom 53 = .ok (.ireturn, 1) := by decide +kernel
theorem kk_X10_coins_0 : Cond.constantLong RX10 247 (20) ∈ wsX10_coins := pm_X10_coins_r1 _ (List.mem_of_getElem? (i := 0) rfl)
theorem kk_X10_coins_1 : Cond.fieldLink RX10 17 "PaidBySignsModel" "num" "[I" ∈ wsX10_coins := pm_X10_coins_r1 _ (List.mem_of_getElem? (i := 1) rfl)
theorem kk_X10_coins_2 : Cond.fieldLink RX10 206 "PaidBySignsModel" "hasWages" "Z" ∈ wsX10_coins := pm_X10_coins_r1 _ (List.mem_of_getElem? (i := 3) rfl)
theorem kk_X10_coins_3 : Cond.fieldLink RX10 346 "PaidBySignsModel" "wageMany" "I" ∈ wsX10_coins := pm_X10_coins_r1 _ (List.mem_of_getElem? (i := 4) rfl)
theorem kk_X10_coins_4 : Cond.fieldLink RX10 82 "PaidBySignsModel" "coin" "[I" ∈ wsX10_coins := pm_X10_coins_r1 _ (List.mem_of_getElem? (i := 2) rfl)
theorem kk_X10_coins_5 : Cond.fieldLink RX10 76 "PaidBySignsModel" "toldUp" "[J" ∈ wsX10_coins := pm_X10_coins_r1 _ (List.mem_of_getElem? (i := 5) rfl)
theorem kk_X10_coins_6 : Cond.fieldLink RX10 79 "PaidBySignsModel" "toldLow" "[J" ∈ wsX10_coins := pm_X10_coins_r1 _ (List.mem_of_getElem? (i := 6) rfl)
theorem kk_X10_beginSum_0 : Cond.fieldLink RX10 17 "PaidBySignsModel" "num" "[I" ∈ wsX10_beginSum := by decide +kernel
theorem kk_X10_beginSum_1 : Cond.fieldLink RX10 374 "PaidBySignsModel" "fromUp" "J" ∈ wsX10_beginSum := by decide +kernel
theorem kk_X10_beginSum_2 : Cond.fieldLink RX10 377 "PaidBySignsModel" "fromLow" "J" ∈ wsX10_beginSum := by decide +kernel
theorem kk_X10_beginSum_3 : Cond.fieldLink RX10 380 "PaidBySignsModel" "toLow" "J" ∈ wsX10_beginSum := by decide +kernel
theorem kk_X10_beginSum_4 : Cond.fieldLink RX10 383 "PaidBySignsModel" "canBe" "Z" ∈ wsX10_beginSum := by decide +kernel
theorem kk_X10_must_0 : Cond.fieldLink RX10 380 "PaidBySignsModel" "toLow" "J" ∈ wsX10_must := by decide +kernel
theorem kk_X10_must_1 : Cond.fieldLink RX10 386 "PaidBySignsModel" "toUp" "J" ∈ wsX10_must := by decide +kernel
theorem kk_X10_must_2 : Cond.fieldLink RX10 374 "PaidBySignsModel" "fromUp" "J" ∈ wsX10_must := by decide +kernel
theorem kk_X10_must_3 : Cond.fieldLink RX10 377 "PaidBySignsModel" "fromLow" "J" ∈ wsX10_must := by decide +kernel
theorem kk_X10_must_4 : Cond.fieldLink RX10 383 "PaidBySignsModel" "canBe" "Z" ∈ wsX10_must := by decide +kernel
theorem kk_X10_isSum_0 : Cond.fieldLink RX10 383 "PaidBySignsModel" "canBe" "Z" ∈ wsX10_isSum := pm_X10_isSum_r1 _ (List.mem_of_getElem? (i := 0) rfl)
theorem kk_X10_isSum_1 : Cond.fieldLink RX10 380 "PaidBySignsModel" "toLow" "J" ∈ wsX10_isSum := pm_X10_isSum_r1 _ (List.mem_of_getElem? (i := 1) rfl)
theorem kk_X10_isSum_2 : Cond.fieldLink RX10 374 "PaidBySignsModel" "fromUp" "J" ∈ wsX10_isSum := pm_X10_isSum_r1 _ (List.mem_of_getElem? (i := 2) rfl)
theorem kk_X10_isSum_3 : Cond.fieldLink RX10 377 "PaidBySignsModel" "fromLow" "J" ∈ wsX10_isSum := pm_X10_isSum_r1 _ (List.mem_of_getElem? (i := 3) rfl)
theorem kk_X10_isSum_4 : Cond.fieldLink RX10 386 "PaidBySignsModel" "toUp" "J" ∈ wsX10_isSum := pm_X10_isSum_r1 _ (List.mem_of_getElem? (i := 4) rfl)
theorem kk_X10_chanceFrom_0 : Cond.fieldLink RX10 17 "PaidBySignsModel" "num" "[I" ∈ wsX10_chanceFrom := by decide +kernel
theorem kk_X10_chanceFrom_1 : Cond.fieldLink RX10 28 "PaidBySignsModel" "brings" "[I" ∈ wsX10_chanceFrom := by decide +kernel
theorem iw_X10_coins_X10 : ∀ w ∈ wsX100, w ∈ wsX10_coins := pw_X10_coins_X10
theorem iw_X10_beginSum_X10 : ∀ w ∈ wsX100, w ∈ wsX10_beginSum := by decide +kernel
theorem iw_X10_must_X10 : ∀ w ∈ wsX100, w ∈ wsX10_must := by decide +kernel
theorem iw_X10_isSum_X10 : ∀ w ∈ wsX100, w ∈ wsX10_isSum := pw_X10_isSum_X10
theorem iw_X10_chanceFrom_X10 : ∀ w ∈ wsX100, w ∈ wsX10_chanceFrom := by decide +kernel

abbrev cX10_bar : ByteArray := prog_12_method_68_code
def yX10_bar : MethodName := ⟨RX10, "bar", "(I)I"⟩
abbrev cX10_crew : ByteArray := prog_12_method_69_code
def yX10_crew : MethodName := ⟨RX10, "crew", "(II)I"⟩
abbrev cX10_watch : ByteArray := prog_12_method_70_code
def yX10_watch : MethodName := ⟨RX10, "watch", "(II)I"⟩
abbrev cX10_press : ByteArray := prog_12_method_71_code
def yX10_press : MethodName := ⟨RX10, "press", "(II)I"⟩
abbrev cX10_by : ByteArray := prog_12_method_72_code
def yX10_by : MethodName := ⟨RX10, "by", "(I)I"⟩
def wsX10_bar_r1 : List Cond := [Cond.fieldLink RX10 17 "PaidBySignsModel" "num" "[I", Cond.fieldLink RX10 31 "PaidBySignsModel" "costs" "[I", Cond.fieldLink RX10 64 "PaidBySignsModel" "wageUp" "[J", Cond.fieldLink RX10 67 "PaidBySignsModel" "wageLow" "[J", Cond.methodLink RX10 253 yX10_isWork, Cond.instanceMethod yX10_isWork, Cond.selects RX10 yX10_isWork yX10_isWork, Cond.initialized RX10, Cond.code yX10_isWork cX10_isWork 2 (some .boolean), Cond.methodLink RX10 174 yX10_in, Cond.static yX10_in, Cond.code yX10_in cX10_in 6 (some .boolean), Cond.methodLink RX10 264 yX10_feel, Cond.instanceMethod yX10_feel, Cond.selects RX10 yX10_feel yX10_feel, Cond.code yX10_feel cX10_feel 6 (some .int), Cond.fieldLink RX10 40 "PaidBySignsModel" "marks" "[I", Cond.fieldLink RX10 37 "PaidBySignsModel" "rates" "[I", Cond.methodLink RX10 389 yX10_chanceFrom, Cond.instanceMethod yX10_chanceFrom, Cond.selects RX10 yX10_chanceFrom yX10_chanceFrom, Cond.code yX10_chanceFrom cX10_chanceFrom 5 (some .int), Cond.fieldLink RX10 28 "PaidBySignsModel" "brings" "[I", Cond.methodLink RX10 259 yX10_chanceOf]
def wsX10_bar_r2 : List Cond := [Cond.instanceMethod yX10_chanceOf, Cond.selects RX10 yX10_chanceOf yX10_chanceOf, Cond.code yX10_chanceOf cX10_chanceOf 3 (some .int), Cond.fieldLink RX10 34 "PaidBySignsModel" "chances" "[I", Cond.methodLink RX10 392 yX10_beginSum, Cond.instanceMethod yX10_beginSum, Cond.selects RX10 yX10_beginSum yX10_beginSum, Cond.code yX10_beginSum cX10_beginSum 1 none, Cond.fieldLink RX10 374 "PaidBySignsModel" "fromUp" "J", Cond.fieldLink RX10 377 "PaidBySignsModel" "fromLow" "J", Cond.fieldLink RX10 380 "PaidBySignsModel" "toLow" "J", Cond.fieldLink RX10 383 "PaidBySignsModel" "canBe" "Z", Cond.methodLink RX10 395 yX10_must, Cond.instanceMethod yX10_must, Cond.selects RX10 yX10_must yX10_must, Cond.code yX10_must cX10_must 5 none, Cond.fieldLink RX10 386 "PaidBySignsModel" "toUp" "J", Cond.methodLink RX10 331 yX10_apart, Cond.static yX10_apart, Cond.code yX10_apart cX10_apart 8 (some .long), Cond.methodLink RX10 398 yX10_isSum, Cond.instanceMethod yX10_isSum, Cond.selects RX10 yX10_isSum yX10_isSum, Cond.code yX10_isSum cX10_isSum 1 (some .boolean)]
def wsX10_bar_r3 : List Cond := [Cond.methodLink RX10 318 yX10_wageOf, Cond.instanceMethod yX10_wageOf, Cond.selects RX10 yX10_wageOf yX10_wageOf, Cond.code yX10_wageOf cX10_wageOf 13 none, Cond.methodLink RX10 277 yX10_common, Cond.static yX10_common, Cond.code yX10_common cX10_common 10 (some .long), Cond.methodLink RX10 355 yX10_tell, Cond.instanceMethod yX10_tell, Cond.selects RX10 yX10_tell yX10_tell, Cond.code yX10_tell cX10_tell 7 none, Cond.fieldLink RX10 281 "PaidBySignsModel" "upper" "J", Cond.fieldLink RX10 284 "PaidBySignsModel" "lower" "J", Cond.fieldLink RX10 202 "PaidBySignsModel" "hasFraction" "Z"]
def wsX10_bar : List Cond := .code yX10_bar cX10_bar 18 (some .int) :: ((wsX10_bar_r1 ++ (wsX10_bar_r2 ++ wsX10_bar_r3)) ++ wsX100)
def wsX10_crew_r1 : List Cond := [Cond.fieldLink RX10 17 "PaidBySignsModel" "num" "[I", Cond.fieldLink RX10 31 "PaidBySignsModel" "costs" "[I", Cond.fieldLink RX10 64 "PaidBySignsModel" "wageUp" "[J", Cond.fieldLink RX10 67 "PaidBySignsModel" "wageLow" "[J", Cond.methodLink RX10 253 yX10_isWork, Cond.instanceMethod yX10_isWork, Cond.selects RX10 yX10_isWork yX10_isWork, Cond.initialized RX10, Cond.code yX10_isWork cX10_isWork 2 (some .boolean), Cond.methodLink RX10 174 yX10_in, Cond.static yX10_in, Cond.code yX10_in cX10_in 6 (some .boolean), Cond.methodLink RX10 256 yX10_isSign, Cond.instanceMethod yX10_isSign, Cond.selects RX10 yX10_isSign yX10_isSign, Cond.code yX10_isSign cX10_isSign 2 (some .boolean), Cond.methodLink RX10 389 yX10_chanceFrom, Cond.instanceMethod yX10_chanceFrom, Cond.selects RX10 yX10_chanceFrom yX10_chanceFrom, Cond.code yX10_chanceFrom cX10_chanceFrom 5 (some .int), Cond.fieldLink RX10 28 "PaidBySignsModel" "brings" "[I", Cond.methodLink RX10 259 yX10_chanceOf, Cond.instanceMethod yX10_chanceOf, Cond.selects RX10 yX10_chanceOf yX10_chanceOf]
def wsX10_crew_r2 : List Cond := [Cond.code yX10_chanceOf cX10_chanceOf 3 (some .int), Cond.fieldLink RX10 34 "PaidBySignsModel" "chances" "[I", Cond.methodLink RX10 264 yX10_feel, Cond.instanceMethod yX10_feel, Cond.selects RX10 yX10_feel yX10_feel, Cond.code yX10_feel cX10_feel 6 (some .int), Cond.fieldLink RX10 40 "PaidBySignsModel" "marks" "[I", Cond.fieldLink RX10 37 "PaidBySignsModel" "rates" "[I", Cond.methodLink RX10 392 yX10_beginSum, Cond.instanceMethod yX10_beginSum, Cond.selects RX10 yX10_beginSum yX10_beginSum, Cond.code yX10_beginSum cX10_beginSum 1 none, Cond.fieldLink RX10 374 "PaidBySignsModel" "fromUp" "J", Cond.fieldLink RX10 377 "PaidBySignsModel" "fromLow" "J", Cond.fieldLink RX10 380 "PaidBySignsModel" "toLow" "J", Cond.fieldLink RX10 383 "PaidBySignsModel" "canBe" "Z", Cond.methodLink RX10 395 yX10_must, Cond.instanceMethod yX10_must, Cond.selects RX10 yX10_must yX10_must, Cond.code yX10_must cX10_must 5 none, Cond.fieldLink RX10 386 "PaidBySignsModel" "toUp" "J", Cond.methodLink RX10 331 yX10_apart, Cond.static yX10_apart, Cond.code yX10_apart cX10_apart 8 (some .long)]
def wsX10_crew_r3 : List Cond := [Cond.methodLink RX10 398 yX10_isSum, Cond.instanceMethod yX10_isSum, Cond.selects RX10 yX10_isSum yX10_isSum, Cond.code yX10_isSum cX10_isSum 1 (some .boolean), Cond.methodLink RX10 318 yX10_wageOf, Cond.instanceMethod yX10_wageOf, Cond.selects RX10 yX10_wageOf yX10_wageOf, Cond.code yX10_wageOf cX10_wageOf 13 none, Cond.methodLink RX10 277 yX10_common, Cond.static yX10_common, Cond.code yX10_common cX10_common 10 (some .long), Cond.methodLink RX10 355 yX10_tell, Cond.instanceMethod yX10_tell, Cond.selects RX10 yX10_tell yX10_tell, Cond.code yX10_tell cX10_tell 7 none, Cond.fieldLink RX10 281 "PaidBySignsModel" "upper" "J", Cond.fieldLink RX10 284 "PaidBySignsModel" "lower" "J", Cond.fieldLink RX10 202 "PaidBySignsModel" "hasFraction" "Z"]
def wsX10_crew : List Cond := .code yX10_crew cX10_crew 12 (some .int) :: ((wsX10_crew_r1 ++ (wsX10_crew_r2 ++ wsX10_crew_r3)) ++ wsX100)
def wsX10_watch_r1 : List Cond := [Cond.constantLong RX10 262 (9999), Cond.fieldLink RX10 17 "PaidBySignsModel" "num" "[I", Cond.fieldLink RX10 31 "PaidBySignsModel" "costs" "[I", Cond.fieldLink RX10 64 "PaidBySignsModel" "wageUp" "[J", Cond.fieldLink RX10 67 "PaidBySignsModel" "wageLow" "[J", Cond.methodLink RX10 253 yX10_isWork, Cond.instanceMethod yX10_isWork, Cond.selects RX10 yX10_isWork yX10_isWork, Cond.initialized RX10, Cond.code yX10_isWork cX10_isWork 2 (some .boolean), Cond.methodLink RX10 174 yX10_in, Cond.static yX10_in, Cond.code yX10_in cX10_in 6 (some .boolean), Cond.methodLink RX10 264 yX10_feel, Cond.instanceMethod yX10_feel, Cond.selects RX10 yX10_feel yX10_feel, Cond.code yX10_feel cX10_feel 6 (some .int), Cond.fieldLink RX10 40 "PaidBySignsModel" "marks" "[I", Cond.fieldLink RX10 37 "PaidBySignsModel" "rates" "[I", Cond.methodLink RX10 392 yX10_beginSum, Cond.instanceMethod yX10_beginSum, Cond.selects RX10 yX10_beginSum yX10_beginSum, Cond.code yX10_beginSum cX10_beginSum 1 none, Cond.fieldLink RX10 374 "PaidBySignsModel" "fromUp" "J"]
def wsX10_watch_r2 : List Cond := [Cond.fieldLink RX10 377 "PaidBySignsModel" "fromLow" "J", Cond.fieldLink RX10 380 "PaidBySignsModel" "toLow" "J", Cond.fieldLink RX10 383 "PaidBySignsModel" "canBe" "Z", Cond.methodLink RX10 395 yX10_must, Cond.instanceMethod yX10_must, Cond.selects RX10 yX10_must yX10_must, Cond.code yX10_must cX10_must 5 none, Cond.fieldLink RX10 386 "PaidBySignsModel" "toUp" "J", Cond.methodLink RX10 331 yX10_apart, Cond.static yX10_apart, Cond.code yX10_apart cX10_apart 8 (some .long), Cond.methodLink RX10 398 yX10_isSum, Cond.instanceMethod yX10_isSum, Cond.selects RX10 yX10_isSum yX10_isSum, Cond.code yX10_isSum cX10_isSum 1 (some .boolean), Cond.methodLink RX10 318 yX10_wageOf, Cond.instanceMethod yX10_wageOf, Cond.selects RX10 yX10_wageOf yX10_wageOf, Cond.code yX10_wageOf cX10_wageOf 13 none, Cond.methodLink RX10 277 yX10_common, Cond.static yX10_common, Cond.code yX10_common cX10_common 10 (some .long), Cond.methodLink RX10 355 yX10_tell, Cond.instanceMethod yX10_tell]
def wsX10_watch_r3 : List Cond := [Cond.selects RX10 yX10_tell yX10_tell, Cond.code yX10_tell cX10_tell 7 none, Cond.fieldLink RX10 281 "PaidBySignsModel" "upper" "J", Cond.fieldLink RX10 284 "PaidBySignsModel" "lower" "J", Cond.fieldLink RX10 202 "PaidBySignsModel" "hasFraction" "Z"]
def wsX10_watch : List Cond := .code yX10_watch cX10_watch 17 (some .int) :: ((wsX10_watch_r1 ++ (wsX10_watch_r2 ++ wsX10_watch_r3)) ++ wsX100)
def wsX10_press : List Cond := .code yX10_press cX10_press 5 (some .int) :: ([.constantLong RX10 262 (9999), .fieldLink RX10 85 "PaidBySignsModel" "presses" "[I", .methodLink RX10 253 yX10_isWork, .instanceMethod yX10_isWork, .selects RX10 yX10_isWork yX10_isWork, .initialized RX10, .code yX10_isWork cX10_isWork 2 (some .boolean), .fieldLink RX10 17 "PaidBySignsModel" "num" "[I", .methodLink RX10 174 yX10_in, .static yX10_in, .code yX10_in cX10_in 6 (some .boolean)] ++ wsX100)
def wsX10_by : List Cond := .code yX10_by cX10_by 3 (some .int) :: ([.constantLong RX10 262 (9999), .fieldLink RX10 190 "PaidBySignsModel" "lowerPress" "I", .methodLink RX10 174 yX10_in, .static yX10_in, .initialized RX10, .code yX10_in cX10_in 6 (some .boolean)] ++ wsX100)
theorem pm_X10_bar_r1 : ∀ w ∈ wsX10_bar_r1, w ∈ wsX10_bar := fun _ h => List.mem_cons_of_mem _ (List.mem_append_left _ (List.mem_append_left _ h))
theorem pm_X10_bar_r2 : ∀ w ∈ wsX10_bar_r2, w ∈ wsX10_bar := fun _ h => List.mem_cons_of_mem _ (List.mem_append_left _ (List.mem_append_right _ (List.mem_append_left _ h)))
theorem pm_X10_bar_r3 : ∀ w ∈ wsX10_bar_r3, w ∈ wsX10_bar := fun _ h => List.mem_cons_of_mem _ (List.mem_append_left _ (List.mem_append_right _ (List.mem_append_right _ (h))))
theorem pw_X10_bar_X10 : ∀ w ∈ wsX100, w ∈ wsX10_bar := fun _ h => List.mem_cons_of_mem _ (List.mem_append_right _ h)
set_option maxRecDepth 20000 in
theorem ggX10_bar_X10_isWork : GoodIn wsX10_bar wsX10_isWork := goodIn_sub (List.forall_mem_cons.mpr ⟨pm_X10_bar_r1 _ (List.mem_of_getElem? (i := 8) rfl), List.forall_mem_append.mpr ⟨List.forall_mem_cons.mpr ⟨pm_X10_bar_r1 _ (List.mem_of_getElem? (i := 0) rfl), List.forall_mem_cons.mpr ⟨pm_X10_bar_r1 _ (List.mem_of_getElem? (i := 9) rfl), List.forall_mem_cons.mpr ⟨pm_X10_bar_r1 _ (List.mem_of_getElem? (i := 10) rfl), List.forall_mem_cons.mpr ⟨pm_X10_bar_r1 _ (List.mem_of_getElem? (i := 7) rfl), List.forall_mem_cons.mpr ⟨pm_X10_bar_r1 _ (List.mem_of_getElem? (i := 11) rfl), fun _ h => absurd h List.not_mem_nil⟩⟩⟩⟩⟩, pw_X10_bar_X10⟩⟩) (by decide +kernel)
set_option maxRecDepth 20000 in
theorem gX10_bar_X10_isWork : GoodIn wsX10_bar (wsV RX10 253 RX10 yX10_isWork wsX10_isWork) := goodIn_app (goodIn_of _ (by decide +kernel)) ggX10_bar_X10_isWork
set_option maxRecDepth 20000 in
theorem ggX10_bar_X10_feel : GoodIn wsX10_bar wsX10_feel := goodIn_sub (List.forall_mem_cons.mpr ⟨pm_X10_bar_r1 _ (List.mem_of_getElem? (i := 15) rfl), List.forall_mem_append.mpr ⟨List.forall_mem_cons.mpr ⟨pm_X10_bar_r1 _ (List.mem_of_getElem? (i := 0) rfl), List.forall_mem_cons.mpr ⟨pm_X10_bar_r1 _ (List.mem_of_getElem? (i := 16) rfl), List.forall_mem_cons.mpr ⟨pm_X10_bar_r1 _ (List.mem_of_getElem? (i := 17) rfl), fun _ h => absurd h List.not_mem_nil⟩⟩⟩, pw_X10_bar_X10⟩⟩) (by decide +kernel)
set_option maxRecDepth 20000 in
theorem gX10_bar_X10_feel : GoodIn wsX10_bar (wsV RX10 264 RX10 yX10_feel wsX10_feel) := goodIn_app (goodIn_of _ (by decide +kernel)) ggX10_bar_X10_feel
set_option maxRecDepth 20000 in
theorem ggX10_bar_X10_chanceFrom : GoodIn wsX10_bar wsX10_chanceFrom := goodIn_sub (List.forall_mem_cons.mpr ⟨pm_X10_bar_r1 _ (List.mem_of_getElem? (i := 21) rfl), List.forall_mem_append.mpr ⟨List.forall_mem_cons.mpr ⟨pm_X10_bar_r1 _ (List.mem_of_getElem? (i := 0) rfl), List.forall_mem_cons.mpr ⟨pm_X10_bar_r1 _ (List.mem_of_getElem? (i := 22) rfl), List.forall_mem_cons.mpr ⟨pm_X10_bar_r1 _ (List.mem_of_getElem? (i := 23) rfl), List.forall_mem_cons.mpr ⟨pm_X10_bar_r2 _ (List.mem_of_getElem? (i := 0) rfl), List.forall_mem_cons.mpr ⟨pm_X10_bar_r2 _ (List.mem_of_getElem? (i := 1) rfl), List.forall_mem_cons.mpr ⟨pm_X10_bar_r1 _ (List.mem_of_getElem? (i := 7) rfl), List.forall_mem_cons.mpr ⟨pm_X10_bar_r2 _ (List.mem_of_getElem? (i := 2) rfl), List.forall_mem_cons.mpr ⟨pm_X10_bar_r2 _ (List.mem_of_getElem? (i := 3) rfl), fun _ h => absurd h List.not_mem_nil⟩⟩⟩⟩⟩⟩⟩⟩, pw_X10_bar_X10⟩⟩) (by decide +kernel)
set_option maxRecDepth 20000 in
theorem gX10_bar_X10_chanceFrom : GoodIn wsX10_bar (wsV RX10 389 RX10 yX10_chanceFrom wsX10_chanceFrom) := goodIn_app (goodIn_of _ (by decide +kernel)) ggX10_bar_X10_chanceFrom
set_option maxRecDepth 20000 in
theorem ggX10_bar_X10_beginSum : GoodIn wsX10_bar wsX10_beginSum := goodIn_sub (List.forall_mem_cons.mpr ⟨pm_X10_bar_r2 _ (List.mem_of_getElem? (i := 7) rfl), List.forall_mem_append.mpr ⟨List.forall_mem_cons.mpr ⟨pm_X10_bar_r1 _ (List.mem_of_getElem? (i := 0) rfl), List.forall_mem_cons.mpr ⟨pm_X10_bar_r2 _ (List.mem_of_getElem? (i := 8) rfl), List.forall_mem_cons.mpr ⟨pm_X10_bar_r2 _ (List.mem_of_getElem? (i := 9) rfl), List.forall_mem_cons.mpr ⟨pm_X10_bar_r2 _ (List.mem_of_getElem? (i := 10) rfl), List.forall_mem_cons.mpr ⟨pm_X10_bar_r2 _ (List.mem_of_getElem? (i := 11) rfl), List.forall_mem_cons.mpr ⟨pm_X10_bar_r1 _ (List.mem_of_getElem? (i := 12) rfl), List.forall_mem_cons.mpr ⟨pm_X10_bar_r1 _ (List.mem_of_getElem? (i := 13) rfl), List.forall_mem_cons.mpr ⟨pm_X10_bar_r1 _ (List.mem_of_getElem? (i := 14) rfl), List.forall_mem_cons.mpr ⟨pm_X10_bar_r1 _ (List.mem_of_getElem? (i := 7) rfl), List.forall_mem_cons.mpr ⟨pm_X10_bar_r1 _ (List.mem_of_getElem? (i := 15) rfl), List.forall_mem_cons.mpr ⟨pm_X10_bar_r1 _ (List.mem_of_getElem? (i := 16) rfl), List.forall_mem_cons.mpr ⟨pm_X10_bar_r1 _ (List.mem_of_getElem? (i := 17) rfl), fun _ h => absurd h List.not_mem_nil⟩⟩⟩⟩⟩⟩⟩⟩⟩⟩⟩⟩, pw_X10_bar_X10⟩⟩) (by decide +kernel)
set_option maxRecDepth 20000 in
theorem gX10_bar_X10_beginSum : GoodIn wsX10_bar (wsV RX10 392 RX10 yX10_beginSum wsX10_beginSum) := goodIn_app (goodIn_of _ (by decide +kernel)) ggX10_bar_X10_beginSum
set_option maxRecDepth 20000 in
theorem ggX10_bar_X10_must : GoodIn wsX10_bar wsX10_must := goodIn_sub (List.forall_mem_cons.mpr ⟨pm_X10_bar_r2 _ (List.mem_of_getElem? (i := 15) rfl), List.forall_mem_append.mpr ⟨List.forall_mem_cons.mpr ⟨pm_X10_bar_r2 _ (List.mem_of_getElem? (i := 11) rfl), List.forall_mem_cons.mpr ⟨pm_X10_bar_r2 _ (List.mem_of_getElem? (i := 8) rfl), List.forall_mem_cons.mpr ⟨pm_X10_bar_r2 _ (List.mem_of_getElem? (i := 9) rfl), List.forall_mem_cons.mpr ⟨pm_X10_bar_r2 _ (List.mem_of_getElem? (i := 10) rfl), List.forall_mem_cons.mpr ⟨pm_X10_bar_r2 _ (List.mem_of_getElem? (i := 16) rfl), List.forall_mem_cons.mpr ⟨pm_X10_bar_r2 _ (List.mem_of_getElem? (i := 17) rfl), List.forall_mem_cons.mpr ⟨pm_X10_bar_r2 _ (List.mem_of_getElem? (i := 18) rfl), List.forall_mem_cons.mpr ⟨pm_X10_bar_r1 _ (List.mem_of_getElem? (i := 7) rfl), List.forall_mem_cons.mpr ⟨pm_X10_bar_r2 _ (List.mem_of_getElem? (i := 19) rfl), fun _ h => absurd h List.not_mem_nil⟩⟩⟩⟩⟩⟩⟩⟩⟩, pw_X10_bar_X10⟩⟩) (by decide +kernel)
set_option maxRecDepth 20000 in
theorem gX10_bar_X10_must : GoodIn wsX10_bar (wsV RX10 395 RX10 yX10_must wsX10_must) := goodIn_app (goodIn_of _ (by decide +kernel)) ggX10_bar_X10_must
set_option maxRecDepth 20000 in
theorem pq_X10_bar_X10_isSum_r1 : ∀ w ∈ wsX10_isSum_r1, w ∈ wsX10_bar := List.forall_mem_cons.mpr ⟨pm_X10_bar_r2 _ (List.mem_of_getElem? (i := 11) rfl), List.forall_mem_cons.mpr ⟨pm_X10_bar_r2 _ (List.mem_of_getElem? (i := 10) rfl), List.forall_mem_cons.mpr ⟨pm_X10_bar_r2 _ (List.mem_of_getElem? (i := 8) rfl), List.forall_mem_cons.mpr ⟨pm_X10_bar_r2 _ (List.mem_of_getElem? (i := 9) rfl), List.forall_mem_cons.mpr ⟨pm_X10_bar_r2 _ (List.mem_of_getElem? (i := 16) rfl), List.forall_mem_cons.mpr ⟨pm_X10_bar_r2 _ (List.mem_of_getElem? (i := 17) rfl), List.forall_mem_cons.mpr ⟨pm_X10_bar_r2 _ (List.mem_of_getElem? (i := 18) rfl), List.forall_mem_cons.mpr ⟨pm_X10_bar_r1 _ (List.mem_of_getElem? (i := 7) rfl), List.forall_mem_cons.mpr ⟨pm_X10_bar_r2 _ (List.mem_of_getElem? (i := 19) rfl), List.forall_mem_cons.mpr ⟨pm_X10_bar_r3 _ (List.mem_of_getElem? (i := 0) rfl), List.forall_mem_cons.mpr ⟨pm_X10_bar_r3 _ (List.mem_of_getElem? (i := 1) rfl), List.forall_mem_cons.mpr ⟨pm_X10_bar_r3 _ (List.mem_of_getElem? (i := 2) rfl), List.forall_mem_cons.mpr ⟨pm_X10_bar_r3 _ (List.mem_of_getElem? (i := 3) rfl), List.forall_mem_cons.mpr ⟨pm_X10_bar_r1 _ (List.mem_of_getElem? (i := 0) rfl), List.forall_mem_cons.mpr ⟨pm_X10_bar_r1 _ (List.mem_of_getElem? (i := 16) rfl), List.forall_mem_cons.mpr ⟨pm_X10_bar_r1 _ (List.mem_of_getElem? (i := 2) rfl), List.forall_mem_cons.mpr ⟨pm_X10_bar_r1 _ (List.mem_of_getElem? (i := 17) rfl), List.forall_mem_cons.mpr ⟨pm_X10_bar_r1 _ (List.mem_of_getElem? (i := 3) rfl), List.forall_mem_cons.mpr ⟨pm_X10_bar_r1 _ (List.mem_of_getElem? (i := 12) rfl), List.forall_mem_cons.mpr ⟨pm_X10_bar_r1 _ (List.mem_of_getElem? (i := 13) rfl), List.forall_mem_cons.mpr ⟨pm_X10_bar_r1 _ (List.mem_of_getElem? (i := 14) rfl), List.forall_mem_cons.mpr ⟨pm_X10_bar_r1 _ (List.mem_of_getElem? (i := 15) rfl), List.forall_mem_cons.mpr ⟨pm_X10_bar_r3 _ (List.mem_of_getElem? (i := 4) rfl), List.forall_mem_cons.mpr ⟨pm_X10_bar_r3 _ (List.mem_of_getElem? (i := 5) rfl), fun _ h => absurd h List.not_mem_nil⟩⟩⟩⟩⟩⟩⟩⟩⟩⟩⟩⟩⟩⟩⟩⟩⟩⟩⟩⟩⟩⟩⟩⟩
set_option maxRecDepth 20000 in
theorem pq_X10_bar_X10_isSum_r2 : ∀ w ∈ wsX10_isSum_r2, w ∈ wsX10_bar := List.forall_mem_cons.mpr ⟨pm_X10_bar_r3 _ (List.mem_of_getElem? (i := 6) rfl), fun _ h => absurd h List.not_mem_nil⟩
set_option maxRecDepth 20000 in
theorem ggX10_bar_X10_isSum : GoodIn wsX10_bar wsX10_isSum := goodIn_sub (List.forall_mem_cons.mpr ⟨pm_X10_bar_r2 _ (List.mem_of_getElem? (i := 23) rfl), List.forall_mem_append.mpr ⟨List.forall_mem_append.mpr ⟨pq_X10_bar_X10_isSum_r1, pq_X10_bar_X10_isSum_r2⟩, pw_X10_bar_X10⟩⟩) (by decide +kernel)
set_option maxRecDepth 20000 in
theorem gX10_bar_X10_isSum : GoodIn wsX10_bar (wsV RX10 398 RX10 yX10_isSum wsX10_isSum) := goodIn_app (goodIn_of _ (by decide +kernel)) ggX10_bar_X10_isSum
set_option maxRecDepth 20000 in
theorem ggX10_bar_X10_apart : GoodIn wsX10_bar wsX10_apart := goodIn_sub (List.forall_mem_cons.mpr ⟨pm_X10_bar_r2 _ (List.mem_of_getElem? (i := 19) rfl), fun _ h => absurd h List.not_mem_nil⟩) (by decide +kernel)
set_option maxRecDepth 20000 in
theorem gX10_bar_X10_apart : GoodIn wsX10_bar (va_wsS RX10 331 yX10_apart wsX10_apart) := goodIn_app (goodIn_of _ (by decide +kernel)) ggX10_bar_X10_apart
set_option maxRecDepth 20000 in
theorem ggX10_bar_X10_tell : GoodIn wsX10_bar wsX10_tell := goodIn_sub (List.forall_mem_cons.mpr ⟨pm_X10_bar_r3 _ (List.mem_of_getElem? (i := 10) rfl), List.forall_mem_append.mpr ⟨List.forall_mem_cons.mpr ⟨pm_X10_bar_r3 _ (List.mem_of_getElem? (i := 11) rfl), List.forall_mem_cons.mpr ⟨pm_X10_bar_r3 _ (List.mem_of_getElem? (i := 12) rfl), List.forall_mem_cons.mpr ⟨pm_X10_bar_r3 _ (List.mem_of_getElem? (i := 13) rfl), List.forall_mem_cons.mpr ⟨pm_X10_bar_r3 _ (List.mem_of_getElem? (i := 4) rfl), List.forall_mem_cons.mpr ⟨pm_X10_bar_r3 _ (List.mem_of_getElem? (i := 5) rfl), List.forall_mem_cons.mpr ⟨pm_X10_bar_r1 _ (List.mem_of_getElem? (i := 7) rfl), List.forall_mem_cons.mpr ⟨pm_X10_bar_r3 _ (List.mem_of_getElem? (i := 6) rfl), fun _ h => absurd h List.not_mem_nil⟩⟩⟩⟩⟩⟩⟩, pw_X10_bar_X10⟩⟩) (by decide +kernel)
set_option maxRecDepth 20000 in
theorem gX10_bar_X10_tell : GoodIn wsX10_bar (wsV RX10 355 RX10 yX10_tell wsX10_tell) := goodIn_app (goodIn_of _ (by decide +kernel)) ggX10_bar_X10_tell
theorem dX10_bar_0 : decode cX10_bar 0 = .ok (.aload_n 0, 1) := by decide +kernel
theorem dX10_bar_1 : decode cX10_bar 1 = .ok (.iload_n 1, 1) := by decide +kernel
theorem dX10_bar_2 : decode cX10_bar 2 = .ok (.invokevirtual 253, 3) := by decide +kernel
theorem dX10_bar_5 : decode cX10_bar 5 = .ok (.ifCond .ne 6, 3) := by decide +kernel
theorem dX10_bar_8 : decode cX10_bar 8 = .ok (.bipush (-2), 2) := by decide +kernel
theorem dX10_bar_10 : decode cX10_bar 10 = .ok (.ireturn, 1) := by decide +kernel
theorem dX10_bar_11 : decode cX10_bar 11 = .ok (.iconst (-1), 1) := by decide +kernel
theorem dX10_bar_12 : decode cX10_bar 12 = .ok (.istore_n 2, 1) := by decide +kernel
theorem dX10_bar_13 : decode cX10_bar 13 = .ok (.lconst 0, 1) := by decide +kernel
theorem dX10_bar_14 : decode cX10_bar 14 = .ok (.lstore_n 3, 1) := by decide +kernel
theorem dX10_bar_15 : decode cX10_bar 15 = .ok (.lconst 1, 1) := by decide +kernel
theorem dX10_bar_16 : decode cX10_bar 16 = .ok (.lstore 5, 2) := by decide +kernel
theorem dX10_bar_18 : decode cX10_bar 18 = .ok (.aload_n 0, 1) := by decide +kernel
theorem dX10_bar_19 : decode cX10_bar 19 = .ok (.aload_n 0, 1) := by decide +kernel
theorem dX10_bar_20 : decode cX10_bar 20 = .ok (.getfield 17, 3) := by decide +kernel
theorem dX10_bar_23 : decode cX10_bar 23 = .ok (.iconst 2, 1) := by decide +kernel
theorem dX10_bar_24 : decode cX10_bar 24 = .ok (.iaload, 1) := by decide +kernel
theorem dX10_bar_25 : decode cX10_bar 25 = .ok (.invokevirtual 264, 3) := by decide +kernel
theorem dX10_bar_28 : decode cX10_bar 28 = .ok (.i2l, 1) := by decide +kernel
theorem dX10_bar_29 : decode cX10_bar 29 = .ok (.lstore 7, 2) := by decide +kernel
theorem dX10_bar_31 : decode cX10_bar 31 = .ok (.aload_n 0, 1) := by decide +kernel
theorem dX10_bar_32 : decode cX10_bar 32 = .ok (.getfield 17, 3) := by decide +kernel
theorem dX10_bar_35 : decode cX10_bar 35 = .ok (.iconst 0, 1) := by decide +kernel
theorem dX10_bar_36 : decode cX10_bar 36 = .ok (.iaload, 1) := by decide +kernel
theorem dX10_bar_37 : decode cX10_bar 37 = .ok (.i2l, 1) := by decide +kernel
theorem dX10_bar_38 : decode cX10_bar 38 = .ok (.lstore 9, 2) := by decide +kernel
theorem dX10_bar_40 : decode cX10_bar 40 = .ok (.iconst 0, 1) := by decide +kernel
theorem dX10_bar_41 : decode cX10_bar 41 = .ok (.istore 11, 2) := by decide +kernel
theorem dX10_bar_43 : decode cX10_bar 43 = .ok (.iload 11, 2) := by decide +kernel
theorem dX10_bar_45 : decode cX10_bar 45 = .ok (.aload_n 0, 1) := by decide +kernel
theorem dX10_bar_46 : decode cX10_bar 46 = .ok (.getfield 17, 3) := by decide +kernel
theorem dX10_bar_49 : decode cX10_bar 49 = .ok (.iconst 3, 1) := by decide +kernel
theorem dX10_bar_50 : decode cX10_bar 50 = .ok (.iaload, 1) := by decide +kernel
theorem dX10_bar_51 : decode cX10_bar 51 = .ok (.if_icmp .ge 214, 3) := by decide +kernel
theorem dX10_bar_54 : decode cX10_bar 54 = .ok (.aload_n 0, 1) := by decide +kernel
theorem dX10_bar_55 : decode cX10_bar 55 = .ok (.iload_n 1, 1) := by decide +kernel
theorem dX10_bar_56 : decode cX10_bar 56 = .ok (.iload 11, 2) := by decide +kernel
theorem dX10_bar_58 : decode cX10_bar 58 = .ok (.invokevirtual 389, 3) := by decide +kernel
theorem dX10_bar_61 : decode cX10_bar 61 = .ok (.i2l, 1) := by decide +kernel
theorem dX10_bar_62 : decode cX10_bar 62 = .ok (.lstore 12, 2) := by decide +kernel
theorem dX10_bar_64 : decode cX10_bar 64 = .ok (.aload_n 0, 1) := by decide +kernel
theorem dX10_bar_65 : decode cX10_bar 65 = .ok (.invokevirtual 392, 3) := by decide +kernel
theorem dX10_bar_68 : decode cX10_bar 68 = .ok (.iconst 0, 1) := by decide +kernel
theorem dX10_bar_69 : decode cX10_bar 69 = .ok (.istore 14, 2) := by decide +kernel
theorem dX10_bar_71 : decode cX10_bar 71 = .ok (.iload 14, 2) := by decide +kernel
theorem dX10_bar_73 : decode cX10_bar 73 = .ok (.aload_n 0, 1) := by decide +kernel
theorem dX10_bar_74 : decode cX10_bar 74 = .ok (.getfield 17, 3) := by decide +kernel
theorem dX10_bar_77 : decode cX10_bar 77 = .ok (.iconst 4, 1) := by decide +kernel
theorem dX10_bar_78 : decode cX10_bar 78 = .ok (.iaload, 1) := by decide +kernel
theorem dX10_bar_79 : decode cX10_bar 79 = .ok (.if_icmp .ge 62, 3) := by decide +kernel
theorem dX10_bar_82 : decode cX10_bar 82 = .ok (.aload_n 0, 1) := by decide +kernel
theorem dX10_bar_83 : decode cX10_bar 83 = .ok (.iload 14, 2) := by decide +kernel
theorem dX10_bar_85 : decode cX10_bar 85 = .ok (.iload 11, 2) := by decide +kernel
theorem dX10_bar_87 : decode cX10_bar 87 = .ok (.invokevirtual 389, 3) := by decide +kernel
theorem dX10_bar_90 : decode cX10_bar 90 = .ok (.i2l, 1) := by decide +kernel
theorem dX10_bar_91 : decode cX10_bar 91 = .ok (.lstore 15, 2) := by decide +kernel
theorem dX10_bar_93 : decode cX10_bar 93 = .ok (.iload 14, 2) := by decide +kernel
theorem dX10_bar_95 : decode cX10_bar 95 = .ok (.iload_n 1, 1) := by decide +kernel
theorem dX10_bar_96 : decode cX10_bar 96 = .ok (.if_icmp .eq 39, 3) := by decide +kernel
theorem dX10_bar_99 : decode cX10_bar 99 = .ok (.aload_n 0, 1) := by decide +kernel
theorem dX10_bar_100 : decode cX10_bar 100 = .ok (.lload 12, 2) := by decide +kernel
theorem dX10_bar_102 : decode cX10_bar 102 = .ok (.lload 15, 2) := by decide +kernel
theorem dX10_bar_104 : decode cX10_bar 104 = .ok (.lsub, 1) := by decide +kernel
theorem dX10_bar_105 : decode cX10_bar 105 = .ok (.lload 9, 2) := by decide +kernel
theorem dX10_bar_107 : decode cX10_bar 107 = .ok (.aload_n 0, 1) := by decide +kernel
theorem dX10_bar_108 : decode cX10_bar 108 = .ok (.getfield 31, 3) := by decide +kernel
theorem dX10_bar_111 : decode cX10_bar 111 = .ok (.iload_n 1, 1) := by decide +kernel
theorem dX10_bar_112 : decode cX10_bar 112 = .ok (.iaload, 1) := by decide +kernel
theorem dX10_bar_113 : decode cX10_bar 113 = .ok (.aload_n 0, 1) := by decide +kernel
theorem dX10_bar_114 : decode cX10_bar 114 = .ok (.getfield 31, 3) := by decide +kernel
theorem dX10_bar_117 : decode cX10_bar 117 = .ok (.iload 14, 2) := by decide +kernel
theorem dX10_bar_119 : decode cX10_bar 119 = .ok (.iaload, 1) := by decide +kernel
theorem dX10_bar_120 : decode cX10_bar 120 = .ok (.isub, 1) := by decide +kernel
theorem dX10_bar_121 : decode cX10_bar 121 = .ok (.i2l, 1) := by decide +kernel
theorem dX10_bar_122 : decode cX10_bar 122 = .ok (.lmul, 1) := by decide +kernel
theorem dX10_bar_123 : decode cX10_bar 123 = .ok (.lload 12, 2) := by decide +kernel
theorem dX10_bar_125 : decode cX10_bar 125 = .ok (.lload 15, 2) := by decide +kernel
theorem dX10_bar_127 : decode cX10_bar 127 = .ok (.lsub, 1) := by decide +kernel
theorem dX10_bar_128 : decode cX10_bar 128 = .ok (.lload 7, 2) := by decide +kernel
theorem dX10_bar_130 : decode cX10_bar 130 = .ok (.lmul, 1) := by decide +kernel
theorem dX10_bar_131 : decode cX10_bar 131 = .ok (.ladd, 1) := by decide +kernel
theorem dX10_bar_132 : decode cX10_bar 132 = .ok (.invokevirtual 395, 3) := by decide +kernel
theorem dX10_bar_135 : decode cX10_bar 135 = .ok (.iinc 14 1, 3) := by decide +kernel
theorem dX10_bar_138 : decode cX10_bar 138 = .ok (.goto (-67), 3) := by decide +kernel
theorem dX10_bar_141 : decode cX10_bar 141 = .ok (.aload_n 0, 1) := by decide +kernel
theorem dX10_bar_142 : decode cX10_bar 142 = .ok (.lload 12, 2) := by decide +kernel
theorem dX10_bar_144 : decode cX10_bar 144 = .ok (.lload 9, 2) := by decide +kernel
theorem dX10_bar_146 : decode cX10_bar 146 = .ok (.aload_n 0, 1) := by decide +kernel
theorem dX10_bar_147 : decode cX10_bar 147 = .ok (.getfield 31, 3) := by decide +kernel
theorem dX10_bar_150 : decode cX10_bar 150 = .ok (.iload_n 1, 1) := by decide +kernel
theorem dX10_bar_151 : decode cX10_bar 151 = .ok (.iaload, 1) := by decide +kernel
theorem dX10_bar_152 : decode cX10_bar 152 = .ok (.aload_n 0, 1) := by decide +kernel
theorem dX10_bar_153 : decode cX10_bar 153 = .ok (.getfield 17, 3) := by decide +kernel
theorem dX10_bar_156 : decode cX10_bar 156 = .ok (.iconst 1, 1) := by decide +kernel
theorem dX10_bar_157 : decode cX10_bar 157 = .ok (.iaload, 1) := by decide +kernel
theorem dX10_bar_158 : decode cX10_bar 158 = .ok (.iadd, 1) := by decide +kernel
theorem dX10_bar_159 : decode cX10_bar 159 = .ok (.i2l, 1) := by decide +kernel
theorem dX10_bar_160 : decode cX10_bar 160 = .ok (.lmul, 1) := by decide +kernel
theorem dX10_bar_161 : decode cX10_bar 161 = .ok (.lload 9, 2) := by decide +kernel
theorem dX10_bar_163 : decode cX10_bar 163 = .ok (.lload 12, 2) := by decide +kernel
theorem dX10_bar_165 : decode cX10_bar 165 = .ok (.lsub, 1) := by decide +kernel
theorem dX10_bar_166 : decode cX10_bar 166 = .ok (.lload 7, 2) := by decide +kernel
theorem dX10_bar_168 : decode cX10_bar 168 = .ok (.lmul, 1) := by decide +kernel
theorem dX10_bar_169 : decode cX10_bar 169 = .ok (.lsub, 1) := by decide +kernel
theorem dX10_bar_170 : decode cX10_bar 170 = .ok (.invokevirtual 395, 3) := by decide +kernel
theorem dX10_bar_173 : decode cX10_bar 173 = .ok (.aload_n 0, 1) := by decide +kernel
theorem dX10_bar_174 : decode cX10_bar 174 = .ok (.invokevirtual 398, 3) := by decide +kernel
theorem dX10_bar_177 : decode cX10_bar 177 = .ok (.ifCond .ne 6, 3) := by decide +kernel
theorem dX10_bar_180 : decode cX10_bar 180 = .ok (.goto 79, 3) := by decide +kernel
theorem dX10_bar_183 : decode cX10_bar 183 = .ok (.lload 12, 2) := by decide +kernel
theorem dX10_bar_185 : decode cX10_bar 185 = .ok (.aload_n 0, 1) := by decide +kernel
theorem dX10_bar_186 : decode cX10_bar 186 = .ok (.getfield 64, 3) := by decide +kernel
theorem dX10_bar_189 : decode cX10_bar 189 = .ok (.iconst 0, 1) := by decide +kernel
theorem dX10_bar_190 : decode cX10_bar 190 = .ok (.laload, 1) := by decide +kernel
theorem dX10_bar_191 : decode cX10_bar 191 = .ok (.lmul, 1) := by decide +kernel
theorem dX10_bar_192 : decode cX10_bar 192 = .ok (.lload 9, 2) := by decide +kernel
theorem dX10_bar_194 : decode cX10_bar 194 = .ok (.lload 12, 2) := by decide +kernel
theorem dX10_bar_196 : decode cX10_bar 196 = .ok (.lsub, 1) := by decide +kernel
theorem dX10_bar_197 : decode cX10_bar 197 = .ok (.aload_n 0, 1) := by decide +kernel
theorem dX10_bar_198 : decode cX10_bar 198 = .ok (.getfield 17, 3) := by decide +kernel
theorem dX10_bar_201 : decode cX10_bar 201 = .ok (.iconst 2, 1) := by decide +kernel
theorem dX10_bar_202 : decode cX10_bar 202 = .ok (.iaload, 1) := by decide +kernel
theorem dX10_bar_203 : decode cX10_bar 203 = .ok (.i2l, 1) := by decide +kernel
theorem dX10_bar_204 : decode cX10_bar 204 = .ok (.lmul, 1) := by decide +kernel
theorem dX10_bar_205 : decode cX10_bar 205 = .ok (.aload_n 0, 1) := by decide +kernel
theorem dX10_bar_206 : decode cX10_bar 206 = .ok (.getfield 67, 3) := by decide +kernel
theorem dX10_bar_209 : decode cX10_bar 209 = .ok (.iconst 0, 1) := by decide +kernel
theorem dX10_bar_210 : decode cX10_bar 210 = .ok (.laload, 1) := by decide +kernel
theorem dX10_bar_211 : decode cX10_bar 211 = .ok (.lmul, 1) := by decide +kernel
theorem dX10_bar_212 : decode cX10_bar 212 = .ok (.ladd, 1) := by decide +kernel
theorem dX10_bar_213 : decode cX10_bar 213 = .ok (.lstore 14, 2) := by decide +kernel
theorem dX10_bar_215 : decode cX10_bar 215 = .ok (.lload 9, 2) := by decide +kernel
theorem dX10_bar_217 : decode cX10_bar 217 = .ok (.aload_n 0, 1) := by decide +kernel
theorem dX10_bar_218 : decode cX10_bar 218 = .ok (.getfield 67, 3) := by decide +kernel
theorem dX10_bar_221 : decode cX10_bar 221 = .ok (.iconst 0, 1) := by decide +kernel
theorem dX10_bar_222 : decode cX10_bar 222 = .ok (.laload, 1) := by decide +kernel
theorem dX10_bar_223 : decode cX10_bar 223 = .ok (.lmul, 1) := by decide +kernel
theorem dX10_bar_224 : decode cX10_bar 224 = .ok (.lstore 16, 2) := by decide +kernel
theorem dX10_bar_226 : decode cX10_bar 226 = .ok (.iload_n 2, 1) := by decide +kernel
theorem dX10_bar_227 : decode cX10_bar 227 = .ok (.iconst (-1), 1) := by decide +kernel
theorem dX10_bar_228 : decode cX10_bar 228 = .ok (.if_icmp .eq 21, 3) := by decide +kernel
theorem dX10_bar_231 : decode cX10_bar 231 = .ok (.lload 14, 2) := by decide +kernel
theorem dX10_bar_233 : decode cX10_bar 233 = .ok (.lload 16, 2) := by decide +kernel
theorem dX10_bar_235 : decode cX10_bar 235 = .ok (.lload_n 3, 1) := by decide +kernel
theorem dX10_bar_236 : decode cX10_bar 236 = .ok (.lload 5, 2) := by decide +kernel
theorem dX10_bar_238 : decode cX10_bar 238 = .ok (.invokestatic 331, 3) := by decide +kernel
theorem dX10_bar_241 : decode cX10_bar 241 = .ok (.lconst 0, 1) := by decide +kernel
theorem dX10_bar_242 : decode cX10_bar 242 = .ok (.lcmp, 1) := by decide +kernel
theorem dX10_bar_243 : decode cX10_bar 243 = .ok (.ifCond .lt 6, 3) := by decide +kernel
theorem dX10_bar_246 : decode cX10_bar 246 = .ok (.goto 13, 3) := by decide +kernel
theorem dX10_bar_249 : decode cX10_bar 249 = .ok (.iload 11, 2) := by decide +kernel
theorem dX10_bar_251 : decode cX10_bar 251 = .ok (.istore_n 2, 1) := by decide +kernel
theorem dX10_bar_252 : decode cX10_bar 252 = .ok (.lload 14, 2) := by decide +kernel
theorem dX10_bar_254 : decode cX10_bar 254 = .ok (.lstore_n 3, 1) := by decide +kernel
theorem dX10_bar_255 : decode cX10_bar 255 = .ok (.lload 16, 2) := by decide +kernel
theorem dX10_bar_257 : decode cX10_bar 257 = .ok (.lstore 5, 2) := by decide +kernel
theorem dX10_bar_259 : decode cX10_bar 259 = .ok (.iinc 11 1, 3) := by decide +kernel
theorem dX10_bar_262 : decode cX10_bar 262 = .ok (.goto (-219), 3) := by decide +kernel
theorem dX10_bar_265 : decode cX10_bar 265 = .ok (.iload_n 2, 1) := by decide +kernel
theorem dX10_bar_266 : decode cX10_bar 266 = .ok (.iconst (-1), 1) := by decide +kernel
theorem dX10_bar_267 : decode cX10_bar 267 = .ok (.if_icmp .eq 10, 3) := by decide +kernel
theorem dX10_bar_270 : decode cX10_bar 270 = .ok (.aload_n 0, 1) := by decide +kernel
theorem dX10_bar_271 : decode cX10_bar 271 = .ok (.lload_n 3, 1) := by decide +kernel
theorem dX10_bar_272 : decode cX10_bar 272 = .ok (.lload 5, 2) := by decide +kernel
theorem dX10_bar_274 : decode cX10_bar 274 = .ok (.invokevirtual 355, 3) := by decide +kernel
theorem dX10_bar_277 : decode cX10_bar 277 = .ok (.iload_n 2, 1) := by decide +kernel
theorem dX10_bar_278 : decode cX10_bar 278 = .ok (.ireturn, 1) := by decide +kernel
theorem pm_X10_crew_r1 : ∀ w ∈ wsX10_crew_r1, w ∈ wsX10_crew := fun _ h => List.mem_cons_of_mem _ (List.mem_append_left _ (List.mem_append_left _ h))
theorem pm_X10_crew_r2 : ∀ w ∈ wsX10_crew_r2, w ∈ wsX10_crew := fun _ h => List.mem_cons_of_mem _ (List.mem_append_left _ (List.mem_append_right _ (List.mem_append_left _ h)))
theorem pm_X10_crew_r3 : ∀ w ∈ wsX10_crew_r3, w ∈ wsX10_crew := fun _ h => List.mem_cons_of_mem _ (List.mem_append_left _ (List.mem_append_right _ (List.mem_append_right _ (h))))
theorem pw_X10_crew_X10 : ∀ w ∈ wsX100, w ∈ wsX10_crew := fun _ h => List.mem_cons_of_mem _ (List.mem_append_right _ h)
set_option maxRecDepth 20000 in
theorem ggX10_crew_X10_isWork : GoodIn wsX10_crew wsX10_isWork := goodIn_sub (List.forall_mem_cons.mpr ⟨pm_X10_crew_r1 _ (List.mem_of_getElem? (i := 8) rfl), List.forall_mem_append.mpr ⟨List.forall_mem_cons.mpr ⟨pm_X10_crew_r1 _ (List.mem_of_getElem? (i := 0) rfl), List.forall_mem_cons.mpr ⟨pm_X10_crew_r1 _ (List.mem_of_getElem? (i := 9) rfl), List.forall_mem_cons.mpr ⟨pm_X10_crew_r1 _ (List.mem_of_getElem? (i := 10) rfl), List.forall_mem_cons.mpr ⟨pm_X10_crew_r1 _ (List.mem_of_getElem? (i := 7) rfl), List.forall_mem_cons.mpr ⟨pm_X10_crew_r1 _ (List.mem_of_getElem? (i := 11) rfl), fun _ h => absurd h List.not_mem_nil⟩⟩⟩⟩⟩, pw_X10_crew_X10⟩⟩) (by decide +kernel)
set_option maxRecDepth 20000 in
theorem gX10_crew_X10_isWork : GoodIn wsX10_crew (wsV RX10 253 RX10 yX10_isWork wsX10_isWork) := goodIn_app (goodIn_of _ (by decide +kernel)) ggX10_crew_X10_isWork
set_option maxRecDepth 20000 in
theorem ggX10_crew_X10_isSign : GoodIn wsX10_crew wsX10_isSign := goodIn_sub (List.forall_mem_cons.mpr ⟨pm_X10_crew_r1 _ (List.mem_of_getElem? (i := 15) rfl), List.forall_mem_append.mpr ⟨List.forall_mem_cons.mpr ⟨pm_X10_crew_r1 _ (List.mem_of_getElem? (i := 0) rfl), List.forall_mem_cons.mpr ⟨pm_X10_crew_r1 _ (List.mem_of_getElem? (i := 9) rfl), List.forall_mem_cons.mpr ⟨pm_X10_crew_r1 _ (List.mem_of_getElem? (i := 10) rfl), List.forall_mem_cons.mpr ⟨pm_X10_crew_r1 _ (List.mem_of_getElem? (i := 7) rfl), List.forall_mem_cons.mpr ⟨pm_X10_crew_r1 _ (List.mem_of_getElem? (i := 11) rfl), fun _ h => absurd h List.not_mem_nil⟩⟩⟩⟩⟩, pw_X10_crew_X10⟩⟩) (by decide +kernel)
set_option maxRecDepth 20000 in
theorem gX10_crew_X10_isSign : GoodIn wsX10_crew (wsV RX10 256 RX10 yX10_isSign wsX10_isSign) := goodIn_app (goodIn_of _ (by decide +kernel)) ggX10_crew_X10_isSign
set_option maxRecDepth 20000 in
theorem ggX10_crew_X10_chanceFrom : GoodIn wsX10_crew wsX10_chanceFrom := goodIn_sub (List.forall_mem_cons.mpr ⟨pm_X10_crew_r1 _ (List.mem_of_getElem? (i := 19) rfl), List.forall_mem_append.mpr ⟨List.forall_mem_cons.mpr ⟨pm_X10_crew_r1 _ (List.mem_of_getElem? (i := 0) rfl), List.forall_mem_cons.mpr ⟨pm_X10_crew_r1 _ (List.mem_of_getElem? (i := 20) rfl), List.forall_mem_cons.mpr ⟨pm_X10_crew_r1 _ (List.mem_of_getElem? (i := 21) rfl), List.forall_mem_cons.mpr ⟨pm_X10_crew_r1 _ (List.mem_of_getElem? (i := 22) rfl), List.forall_mem_cons.mpr ⟨pm_X10_crew_r1 _ (List.mem_of_getElem? (i := 23) rfl), List.forall_mem_cons.mpr ⟨pm_X10_crew_r1 _ (List.mem_of_getElem? (i := 7) rfl), List.forall_mem_cons.mpr ⟨pm_X10_crew_r2 _ (List.mem_of_getElem? (i := 0) rfl), List.forall_mem_cons.mpr ⟨pm_X10_crew_r2 _ (List.mem_of_getElem? (i := 1) rfl), fun _ h => absurd h List.not_mem_nil⟩⟩⟩⟩⟩⟩⟩⟩, pw_X10_crew_X10⟩⟩) (by decide +kernel)
set_option maxRecDepth 20000 in
theorem gX10_crew_X10_chanceFrom : GoodIn wsX10_crew (wsV RX10 389 RX10 yX10_chanceFrom wsX10_chanceFrom) := goodIn_app (goodIn_of _ (by decide +kernel)) ggX10_crew_X10_chanceFrom
set_option maxRecDepth 20000 in
theorem ggX10_crew_X10_feel : GoodIn wsX10_crew wsX10_feel := goodIn_sub (List.forall_mem_cons.mpr ⟨pm_X10_crew_r2 _ (List.mem_of_getElem? (i := 5) rfl), List.forall_mem_append.mpr ⟨List.forall_mem_cons.mpr ⟨pm_X10_crew_r1 _ (List.mem_of_getElem? (i := 0) rfl), List.forall_mem_cons.mpr ⟨pm_X10_crew_r2 _ (List.mem_of_getElem? (i := 6) rfl), List.forall_mem_cons.mpr ⟨pm_X10_crew_r2 _ (List.mem_of_getElem? (i := 7) rfl), fun _ h => absurd h List.not_mem_nil⟩⟩⟩, pw_X10_crew_X10⟩⟩) (by decide +kernel)
set_option maxRecDepth 20000 in
theorem gX10_crew_X10_feel : GoodIn wsX10_crew (wsV RX10 264 RX10 yX10_feel wsX10_feel) := goodIn_app (goodIn_of _ (by decide +kernel)) ggX10_crew_X10_feel
set_option maxRecDepth 20000 in
theorem ggX10_crew_X10_beginSum : GoodIn wsX10_crew wsX10_beginSum := goodIn_sub (List.forall_mem_cons.mpr ⟨pm_X10_crew_r2 _ (List.mem_of_getElem? (i := 11) rfl), List.forall_mem_append.mpr ⟨List.forall_mem_cons.mpr ⟨pm_X10_crew_r1 _ (List.mem_of_getElem? (i := 0) rfl), List.forall_mem_cons.mpr ⟨pm_X10_crew_r2 _ (List.mem_of_getElem? (i := 12) rfl), List.forall_mem_cons.mpr ⟨pm_X10_crew_r2 _ (List.mem_of_getElem? (i := 13) rfl), List.forall_mem_cons.mpr ⟨pm_X10_crew_r2 _ (List.mem_of_getElem? (i := 14) rfl), List.forall_mem_cons.mpr ⟨pm_X10_crew_r2 _ (List.mem_of_getElem? (i := 15) rfl), List.forall_mem_cons.mpr ⟨pm_X10_crew_r2 _ (List.mem_of_getElem? (i := 2) rfl), List.forall_mem_cons.mpr ⟨pm_X10_crew_r2 _ (List.mem_of_getElem? (i := 3) rfl), List.forall_mem_cons.mpr ⟨pm_X10_crew_r2 _ (List.mem_of_getElem? (i := 4) rfl), List.forall_mem_cons.mpr ⟨pm_X10_crew_r1 _ (List.mem_of_getElem? (i := 7) rfl), List.forall_mem_cons.mpr ⟨pm_X10_crew_r2 _ (List.mem_of_getElem? (i := 5) rfl), List.forall_mem_cons.mpr ⟨pm_X10_crew_r2 _ (List.mem_of_getElem? (i := 6) rfl), List.forall_mem_cons.mpr ⟨pm_X10_crew_r2 _ (List.mem_of_getElem? (i := 7) rfl), fun _ h => absurd h List.not_mem_nil⟩⟩⟩⟩⟩⟩⟩⟩⟩⟩⟩⟩, pw_X10_crew_X10⟩⟩) (by decide +kernel)
set_option maxRecDepth 20000 in
theorem gX10_crew_X10_beginSum : GoodIn wsX10_crew (wsV RX10 392 RX10 yX10_beginSum wsX10_beginSum) := goodIn_app (goodIn_of _ (by decide +kernel)) ggX10_crew_X10_beginSum
set_option maxRecDepth 20000 in
theorem ggX10_crew_X10_must : GoodIn wsX10_crew wsX10_must := goodIn_sub (List.forall_mem_cons.mpr ⟨pm_X10_crew_r2 _ (List.mem_of_getElem? (i := 19) rfl), List.forall_mem_append.mpr ⟨List.forall_mem_cons.mpr ⟨pm_X10_crew_r2 _ (List.mem_of_getElem? (i := 15) rfl), List.forall_mem_cons.mpr ⟨pm_X10_crew_r2 _ (List.mem_of_getElem? (i := 12) rfl), List.forall_mem_cons.mpr ⟨pm_X10_crew_r2 _ (List.mem_of_getElem? (i := 13) rfl), List.forall_mem_cons.mpr ⟨pm_X10_crew_r2 _ (List.mem_of_getElem? (i := 14) rfl), List.forall_mem_cons.mpr ⟨pm_X10_crew_r2 _ (List.mem_of_getElem? (i := 20) rfl), List.forall_mem_cons.mpr ⟨pm_X10_crew_r2 _ (List.mem_of_getElem? (i := 21) rfl), List.forall_mem_cons.mpr ⟨pm_X10_crew_r2 _ (List.mem_of_getElem? (i := 22) rfl), List.forall_mem_cons.mpr ⟨pm_X10_crew_r1 _ (List.mem_of_getElem? (i := 7) rfl), List.forall_mem_cons.mpr ⟨pm_X10_crew_r2 _ (List.mem_of_getElem? (i := 23) rfl), fun _ h => absurd h List.not_mem_nil⟩⟩⟩⟩⟩⟩⟩⟩⟩, pw_X10_crew_X10⟩⟩) (by decide +kernel)
set_option maxRecDepth 20000 in
theorem gX10_crew_X10_must : GoodIn wsX10_crew (wsV RX10 395 RX10 yX10_must wsX10_must) := goodIn_app (goodIn_of _ (by decide +kernel)) ggX10_crew_X10_must
set_option maxRecDepth 20000 in
theorem pq_X10_crew_X10_isSum_r1 : ∀ w ∈ wsX10_isSum_r1, w ∈ wsX10_crew := List.forall_mem_cons.mpr ⟨pm_X10_crew_r2 _ (List.mem_of_getElem? (i := 15) rfl), List.forall_mem_cons.mpr ⟨pm_X10_crew_r2 _ (List.mem_of_getElem? (i := 14) rfl), List.forall_mem_cons.mpr ⟨pm_X10_crew_r2 _ (List.mem_of_getElem? (i := 12) rfl), List.forall_mem_cons.mpr ⟨pm_X10_crew_r2 _ (List.mem_of_getElem? (i := 13) rfl), List.forall_mem_cons.mpr ⟨pm_X10_crew_r2 _ (List.mem_of_getElem? (i := 20) rfl), List.forall_mem_cons.mpr ⟨pm_X10_crew_r2 _ (List.mem_of_getElem? (i := 21) rfl), List.forall_mem_cons.mpr ⟨pm_X10_crew_r2 _ (List.mem_of_getElem? (i := 22) rfl), List.forall_mem_cons.mpr ⟨pm_X10_crew_r1 _ (List.mem_of_getElem? (i := 7) rfl), List.forall_mem_cons.mpr ⟨pm_X10_crew_r2 _ (List.mem_of_getElem? (i := 23) rfl), List.forall_mem_cons.mpr ⟨pm_X10_crew_r3 _ (List.mem_of_getElem? (i := 4) rfl), List.forall_mem_cons.mpr ⟨pm_X10_crew_r3 _ (List.mem_of_getElem? (i := 5) rfl), List.forall_mem_cons.mpr ⟨pm_X10_crew_r3 _ (List.mem_of_getElem? (i := 6) rfl), List.forall_mem_cons.mpr ⟨pm_X10_crew_r3 _ (List.mem_of_getElem? (i := 7) rfl), List.forall_mem_cons.mpr ⟨pm_X10_crew_r1 _ (List.mem_of_getElem? (i := 0) rfl), List.forall_mem_cons.mpr ⟨pm_X10_crew_r2 _ (List.mem_of_getElem? (i := 6) rfl), List.forall_mem_cons.mpr ⟨pm_X10_crew_r1 _ (List.mem_of_getElem? (i := 2) rfl), List.forall_mem_cons.mpr ⟨pm_X10_crew_r2 _ (List.mem_of_getElem? (i := 7) rfl), List.forall_mem_cons.mpr ⟨pm_X10_crew_r1 _ (List.mem_of_getElem? (i := 3) rfl), List.forall_mem_cons.mpr ⟨pm_X10_crew_r2 _ (List.mem_of_getElem? (i := 2) rfl), List.forall_mem_cons.mpr ⟨pm_X10_crew_r2 _ (List.mem_of_getElem? (i := 3) rfl), List.forall_mem_cons.mpr ⟨pm_X10_crew_r2 _ (List.mem_of_getElem? (i := 4) rfl), List.forall_mem_cons.mpr ⟨pm_X10_crew_r2 _ (List.mem_of_getElem? (i := 5) rfl), List.forall_mem_cons.mpr ⟨pm_X10_crew_r3 _ (List.mem_of_getElem? (i := 8) rfl), List.forall_mem_cons.mpr ⟨pm_X10_crew_r3 _ (List.mem_of_getElem? (i := 9) rfl), fun _ h => absurd h List.not_mem_nil⟩⟩⟩⟩⟩⟩⟩⟩⟩⟩⟩⟩⟩⟩⟩⟩⟩⟩⟩⟩⟩⟩⟩⟩
set_option maxRecDepth 20000 in
theorem pq_X10_crew_X10_isSum_r2 : ∀ w ∈ wsX10_isSum_r2, w ∈ wsX10_crew := List.forall_mem_cons.mpr ⟨pm_X10_crew_r3 _ (List.mem_of_getElem? (i := 10) rfl), fun _ h => absurd h List.not_mem_nil⟩
set_option maxRecDepth 20000 in
theorem ggX10_crew_X10_isSum : GoodIn wsX10_crew wsX10_isSum := goodIn_sub (List.forall_mem_cons.mpr ⟨pm_X10_crew_r3 _ (List.mem_of_getElem? (i := 3) rfl), List.forall_mem_append.mpr ⟨List.forall_mem_append.mpr ⟨pq_X10_crew_X10_isSum_r1, pq_X10_crew_X10_isSum_r2⟩, pw_X10_crew_X10⟩⟩) (by decide +kernel)
set_option maxRecDepth 20000 in
theorem gX10_crew_X10_isSum : GoodIn wsX10_crew (wsV RX10 398 RX10 yX10_isSum wsX10_isSum) := goodIn_app (goodIn_of _ (by decide +kernel)) ggX10_crew_X10_isSum
set_option maxRecDepth 20000 in
theorem ggX10_crew_X10_tell : GoodIn wsX10_crew wsX10_tell := goodIn_sub (List.forall_mem_cons.mpr ⟨pm_X10_crew_r3 _ (List.mem_of_getElem? (i := 14) rfl), List.forall_mem_append.mpr ⟨List.forall_mem_cons.mpr ⟨pm_X10_crew_r3 _ (List.mem_of_getElem? (i := 15) rfl), List.forall_mem_cons.mpr ⟨pm_X10_crew_r3 _ (List.mem_of_getElem? (i := 16) rfl), List.forall_mem_cons.mpr ⟨pm_X10_crew_r3 _ (List.mem_of_getElem? (i := 17) rfl), List.forall_mem_cons.mpr ⟨pm_X10_crew_r3 _ (List.mem_of_getElem? (i := 8) rfl), List.forall_mem_cons.mpr ⟨pm_X10_crew_r3 _ (List.mem_of_getElem? (i := 9) rfl), List.forall_mem_cons.mpr ⟨pm_X10_crew_r1 _ (List.mem_of_getElem? (i := 7) rfl), List.forall_mem_cons.mpr ⟨pm_X10_crew_r3 _ (List.mem_of_getElem? (i := 10) rfl), fun _ h => absurd h List.not_mem_nil⟩⟩⟩⟩⟩⟩⟩, pw_X10_crew_X10⟩⟩) (by decide +kernel)
set_option maxRecDepth 20000 in
theorem gX10_crew_X10_tell : GoodIn wsX10_crew (wsV RX10 355 RX10 yX10_tell wsX10_tell) := goodIn_app (goodIn_of _ (by decide +kernel)) ggX10_crew_X10_tell
theorem dX10_crew_0 : decode cX10_crew 0 = .ok (.aload_n 0, 1) := by decide +kernel
theorem dX10_crew_1 : decode cX10_crew 1 = .ok (.iload_n 1, 1) := by decide +kernel
theorem dX10_crew_2 : decode cX10_crew 2 = .ok (.invokevirtual 253, 3) := by decide +kernel
theorem dX10_crew_5 : decode cX10_crew 5 = .ok (.ifCond .eq 11, 3) := by decide +kernel
theorem dX10_crew_8 : decode cX10_crew 8 = .ok (.aload_n 0, 1) := by decide +kernel
theorem dX10_crew_9 : decode cX10_crew 9 = .ok (.iload_n 2, 1) := by decide +kernel
theorem dX10_crew_10 : decode cX10_crew 10 = .ok (.invokevirtual 256, 3) := by decide +kernel
theorem dX10_crew_13 : decode cX10_crew 13 = .ok (.ifCond .ne 6, 3) := by decide +kernel
theorem dX10_crew_16 : decode cX10_crew 16 = .ok (.bipush (-2), 2) := by decide +kernel
theorem dX10_crew_18 : decode cX10_crew 18 = .ok (.ireturn, 1) := by decide +kernel
theorem dX10_crew_19 : decode cX10_crew 19 = .ok (.aload_n 0, 1) := by decide +kernel
theorem dX10_crew_20 : decode cX10_crew 20 = .ok (.iload_n 1, 1) := by decide +kernel
theorem dX10_crew_21 : decode cX10_crew 21 = .ok (.iload_n 2, 1) := by decide +kernel
theorem dX10_crew_22 : decode cX10_crew 22 = .ok (.invokevirtual 389, 3) := by decide +kernel
theorem dX10_crew_25 : decode cX10_crew 25 = .ok (.i2l, 1) := by decide +kernel
theorem dX10_crew_26 : decode cX10_crew 26 = .ok (.lstore_n 3, 1) := by decide +kernel
theorem dX10_crew_27 : decode cX10_crew 27 = .ok (.aload_n 0, 1) := by decide +kernel
theorem dX10_crew_28 : decode cX10_crew 28 = .ok (.aload_n 0, 1) := by decide +kernel
theorem dX10_crew_29 : decode cX10_crew 29 = .ok (.getfield 17, 3) := by decide +kernel
theorem dX10_crew_32 : decode cX10_crew 32 = .ok (.iconst 2, 1) := by decide +kernel
theorem dX10_crew_33 : decode cX10_crew 33 = .ok (.iaload, 1) := by decide +kernel
theorem dX10_crew_34 : decode cX10_crew 34 = .ok (.invokevirtual 264, 3) := by decide +kernel
theorem dX10_crew_37 : decode cX10_crew 37 = .ok (.i2l, 1) := by decide +kernel
theorem dX10_crew_38 : decode cX10_crew 38 = .ok (.lstore 5, 2) := by decide +kernel
theorem dX10_crew_40 : decode cX10_crew 40 = .ok (.aload_n 0, 1) := by decide +kernel
theorem dX10_crew_41 : decode cX10_crew 41 = .ok (.getfield 17, 3) := by decide +kernel
theorem dX10_crew_44 : decode cX10_crew 44 = .ok (.iconst 0, 1) := by decide +kernel
theorem dX10_crew_45 : decode cX10_crew 45 = .ok (.iaload, 1) := by decide +kernel
theorem dX10_crew_46 : decode cX10_crew 46 = .ok (.i2l, 1) := by decide +kernel
theorem dX10_crew_47 : decode cX10_crew 47 = .ok (.aload_n 0, 1) := by decide +kernel
theorem dX10_crew_48 : decode cX10_crew 48 = .ok (.getfield 17, 3) := by decide +kernel
theorem dX10_crew_51 : decode cX10_crew 51 = .ok (.iconst 0, 1) := by decide +kernel
theorem dX10_crew_52 : decode cX10_crew 52 = .ok (.iaload, 1) := by decide +kernel
theorem dX10_crew_53 : decode cX10_crew 53 = .ok (.i2l, 1) := by decide +kernel
theorem dX10_crew_54 : decode cX10_crew 54 = .ok (.lmul, 1) := by decide +kernel
theorem dX10_crew_55 : decode cX10_crew 55 = .ok (.lstore 7, 2) := by decide +kernel
theorem dX10_crew_57 : decode cX10_crew 57 = .ok (.aload_n 0, 1) := by decide +kernel
theorem dX10_crew_58 : decode cX10_crew 58 = .ok (.invokevirtual 392, 3) := by decide +kernel
theorem dX10_crew_61 : decode cX10_crew 61 = .ok (.iconst 0, 1) := by decide +kernel
theorem dX10_crew_62 : decode cX10_crew 62 = .ok (.istore 9, 2) := by decide +kernel
theorem dX10_crew_64 : decode cX10_crew 64 = .ok (.iload 9, 2) := by decide +kernel
theorem dX10_crew_66 : decode cX10_crew 66 = .ok (.aload_n 0, 1) := by decide +kernel
theorem dX10_crew_67 : decode cX10_crew 67 = .ok (.getfield 17, 3) := by decide +kernel
theorem dX10_crew_70 : decode cX10_crew 70 = .ok (.iconst 4, 1) := by decide +kernel
theorem dX10_crew_71 : decode cX10_crew 71 = .ok (.iaload, 1) := by decide +kernel
theorem dX10_crew_72 : decode cX10_crew 72 = .ok (.if_icmp .ge 59, 3) := by decide +kernel
theorem dX10_crew_75 : decode cX10_crew 75 = .ok (.lload_n 3, 1) := by decide +kernel
theorem dX10_crew_76 : decode cX10_crew 76 = .ok (.aload_n 0, 1) := by decide +kernel
theorem dX10_crew_77 : decode cX10_crew 77 = .ok (.iload 9, 2) := by decide +kernel
theorem dX10_crew_79 : decode cX10_crew 79 = .ok (.iload_n 2, 1) := by decide +kernel
theorem dX10_crew_80 : decode cX10_crew 80 = .ok (.invokevirtual 389, 3) := by decide +kernel
theorem dX10_crew_83 : decode cX10_crew 83 = .ok (.i2l, 1) := by decide +kernel
theorem dX10_crew_84 : decode cX10_crew 84 = .ok (.lsub, 1) := by decide +kernel
theorem dX10_crew_85 : decode cX10_crew 85 = .ok (.lload_n 3, 1) := by decide +kernel
theorem dX10_crew_86 : decode cX10_crew 86 = .ok (.lmul, 1) := by decide +kernel
theorem dX10_crew_87 : decode cX10_crew 87 = .ok (.lstore 10, 2) := by decide +kernel
theorem dX10_crew_89 : decode cX10_crew 89 = .ok (.iload 9, 2) := by decide +kernel
theorem dX10_crew_91 : decode cX10_crew 91 = .ok (.iload_n 1, 1) := by decide +kernel
theorem dX10_crew_92 : decode cX10_crew 92 = .ok (.if_icmp .eq 33, 3) := by decide +kernel
theorem dX10_crew_95 : decode cX10_crew 95 = .ok (.aload_n 0, 1) := by decide +kernel
theorem dX10_crew_96 : decode cX10_crew 96 = .ok (.lload 10, 2) := by decide +kernel
theorem dX10_crew_98 : decode cX10_crew 98 = .ok (.lload 7, 2) := by decide +kernel
theorem dX10_crew_100 : decode cX10_crew 100 = .ok (.aload_n 0, 1) := by decide +kernel
theorem dX10_crew_101 : decode cX10_crew 101 = .ok (.getfield 31, 3) := by decide +kernel
theorem dX10_crew_104 : decode cX10_crew 104 = .ok (.iload_n 1, 1) := by decide +kernel
theorem dX10_crew_105 : decode cX10_crew 105 = .ok (.iaload, 1) := by decide +kernel
theorem dX10_crew_106 : decode cX10_crew 106 = .ok (.aload_n 0, 1) := by decide +kernel
theorem dX10_crew_107 : decode cX10_crew 107 = .ok (.getfield 31, 3) := by decide +kernel
theorem dX10_crew_110 : decode cX10_crew 110 = .ok (.iload 9, 2) := by decide +kernel
theorem dX10_crew_112 : decode cX10_crew 112 = .ok (.iaload, 1) := by decide +kernel
theorem dX10_crew_113 : decode cX10_crew 113 = .ok (.isub, 1) := by decide +kernel
theorem dX10_crew_114 : decode cX10_crew 114 = .ok (.i2l, 1) := by decide +kernel
theorem dX10_crew_115 : decode cX10_crew 115 = .ok (.lmul, 1) := by decide +kernel
theorem dX10_crew_116 : decode cX10_crew 116 = .ok (.lload 10, 2) := by decide +kernel
theorem dX10_crew_118 : decode cX10_crew 118 = .ok (.lload 5, 2) := by decide +kernel
theorem dX10_crew_120 : decode cX10_crew 120 = .ok (.lmul, 1) := by decide +kernel
theorem dX10_crew_121 : decode cX10_crew 121 = .ok (.ladd, 1) := by decide +kernel
theorem dX10_crew_122 : decode cX10_crew 122 = .ok (.invokevirtual 395, 3) := by decide +kernel
theorem dX10_crew_125 : decode cX10_crew 125 = .ok (.iinc 9 1, 3) := by decide +kernel
theorem dX10_crew_128 : decode cX10_crew 128 = .ok (.goto (-64), 3) := by decide +kernel
theorem dX10_crew_131 : decode cX10_crew 131 = .ok (.aload_n 0, 1) := by decide +kernel
theorem dX10_crew_132 : decode cX10_crew 132 = .ok (.lload_n 3, 1) := by decide +kernel
theorem dX10_crew_133 : decode cX10_crew 133 = .ok (.lload_n 3, 1) := by decide +kernel
theorem dX10_crew_134 : decode cX10_crew 134 = .ok (.lmul, 1) := by decide +kernel
theorem dX10_crew_135 : decode cX10_crew 135 = .ok (.lload 7, 2) := by decide +kernel
theorem dX10_crew_137 : decode cX10_crew 137 = .ok (.aload_n 0, 1) := by decide +kernel
theorem dX10_crew_138 : decode cX10_crew 138 = .ok (.getfield 31, 3) := by decide +kernel
theorem dX10_crew_141 : decode cX10_crew 141 = .ok (.iload_n 1, 1) := by decide +kernel
theorem dX10_crew_142 : decode cX10_crew 142 = .ok (.iaload, 1) := by decide +kernel
theorem dX10_crew_143 : decode cX10_crew 143 = .ok (.aload_n 0, 1) := by decide +kernel
theorem dX10_crew_144 : decode cX10_crew 144 = .ok (.getfield 17, 3) := by decide +kernel
theorem dX10_crew_147 : decode cX10_crew 147 = .ok (.iconst 1, 1) := by decide +kernel
theorem dX10_crew_148 : decode cX10_crew 148 = .ok (.iaload, 1) := by decide +kernel
theorem dX10_crew_149 : decode cX10_crew 149 = .ok (.iadd, 1) := by decide +kernel
theorem dX10_crew_150 : decode cX10_crew 150 = .ok (.i2l, 1) := by decide +kernel
theorem dX10_crew_151 : decode cX10_crew 151 = .ok (.lmul, 1) := by decide +kernel
theorem dX10_crew_152 : decode cX10_crew 152 = .ok (.lload 7, 2) := by decide +kernel
theorem dX10_crew_154 : decode cX10_crew 154 = .ok (.lload_n 3, 1) := by decide +kernel
theorem dX10_crew_155 : decode cX10_crew 155 = .ok (.lload_n 3, 1) := by decide +kernel
theorem dX10_crew_156 : decode cX10_crew 156 = .ok (.lmul, 1) := by decide +kernel
theorem dX10_crew_157 : decode cX10_crew 157 = .ok (.lsub, 1) := by decide +kernel
theorem dX10_crew_158 : decode cX10_crew 158 = .ok (.lload 5, 2) := by decide +kernel
theorem dX10_crew_160 : decode cX10_crew 160 = .ok (.lmul, 1) := by decide +kernel
theorem dX10_crew_161 : decode cX10_crew 161 = .ok (.lsub, 1) := by decide +kernel
theorem dX10_crew_162 : decode cX10_crew 162 = .ok (.invokevirtual 395, 3) := by decide +kernel
theorem dX10_crew_165 : decode cX10_crew 165 = .ok (.aload_n 0, 1) := by decide +kernel
theorem dX10_crew_166 : decode cX10_crew 166 = .ok (.invokevirtual 398, 3) := by decide +kernel
theorem dX10_crew_169 : decode cX10_crew 169 = .ok (.ifCond .ne 5, 3) := by decide +kernel
theorem dX10_crew_172 : decode cX10_crew 172 = .ok (.iconst (-1), 1) := by decide +kernel
theorem dX10_crew_173 : decode cX10_crew 173 = .ok (.ireturn, 1) := by decide +kernel
theorem dX10_crew_174 : decode cX10_crew 174 = .ok (.aload_n 0, 1) := by decide +kernel
theorem dX10_crew_175 : decode cX10_crew 175 = .ok (.lload_n 3, 1) := by decide +kernel
theorem dX10_crew_176 : decode cX10_crew 176 = .ok (.lload_n 3, 1) := by decide +kernel
theorem dX10_crew_177 : decode cX10_crew 177 = .ok (.lmul, 1) := by decide +kernel
theorem dX10_crew_178 : decode cX10_crew 178 = .ok (.aload_n 0, 1) := by decide +kernel
theorem dX10_crew_179 : decode cX10_crew 179 = .ok (.getfield 64, 3) := by decide +kernel
theorem dX10_crew_182 : decode cX10_crew 182 = .ok (.iconst 0, 1) := by decide +kernel
theorem dX10_crew_183 : decode cX10_crew 183 = .ok (.laload, 1) := by decide +kernel
theorem dX10_crew_184 : decode cX10_crew 184 = .ok (.lmul, 1) := by decide +kernel
theorem dX10_crew_185 : decode cX10_crew 185 = .ok (.lload 7, 2) := by decide +kernel
theorem dX10_crew_187 : decode cX10_crew 187 = .ok (.lload_n 3, 1) := by decide +kernel
theorem dX10_crew_188 : decode cX10_crew 188 = .ok (.lload_n 3, 1) := by decide +kernel
theorem dX10_crew_189 : decode cX10_crew 189 = .ok (.lmul, 1) := by decide +kernel
theorem dX10_crew_190 : decode cX10_crew 190 = .ok (.lsub, 1) := by decide +kernel
theorem dX10_crew_191 : decode cX10_crew 191 = .ok (.aload_n 0, 1) := by decide +kernel
theorem dX10_crew_192 : decode cX10_crew 192 = .ok (.getfield 17, 3) := by decide +kernel
theorem dX10_crew_195 : decode cX10_crew 195 = .ok (.iconst 2, 1) := by decide +kernel
theorem dX10_crew_196 : decode cX10_crew 196 = .ok (.iaload, 1) := by decide +kernel
theorem dX10_crew_197 : decode cX10_crew 197 = .ok (.i2l, 1) := by decide +kernel
theorem dX10_crew_198 : decode cX10_crew 198 = .ok (.lmul, 1) := by decide +kernel
theorem dX10_crew_199 : decode cX10_crew 199 = .ok (.aload_n 0, 1) := by decide +kernel
theorem dX10_crew_200 : decode cX10_crew 200 = .ok (.getfield 67, 3) := by decide +kernel
theorem dX10_crew_203 : decode cX10_crew 203 = .ok (.iconst 0, 1) := by decide +kernel
theorem dX10_crew_204 : decode cX10_crew 204 = .ok (.laload, 1) := by decide +kernel
theorem dX10_crew_205 : decode cX10_crew 205 = .ok (.lmul, 1) := by decide +kernel
theorem dX10_crew_206 : decode cX10_crew 206 = .ok (.ladd, 1) := by decide +kernel
theorem dX10_crew_207 : decode cX10_crew 207 = .ok (.lload 7, 2) := by decide +kernel
theorem dX10_crew_209 : decode cX10_crew 209 = .ok (.aload_n 0, 1) := by decide +kernel
theorem dX10_crew_210 : decode cX10_crew 210 = .ok (.getfield 67, 3) := by decide +kernel
theorem dX10_crew_213 : decode cX10_crew 213 = .ok (.iconst 0, 1) := by decide +kernel
theorem dX10_crew_214 : decode cX10_crew 214 = .ok (.laload, 1) := by decide +kernel
theorem dX10_crew_215 : decode cX10_crew 215 = .ok (.lmul, 1) := by decide +kernel
theorem dX10_crew_216 : decode cX10_crew 216 = .ok (.invokevirtual 355, 3) := by decide +kernel
theorem dX10_crew_219 : decode cX10_crew 219 = .ok (.iconst 1, 1) := by decide +kernel
theorem dX10_crew_220 : decode cX10_crew 220 = .ok (.ireturn, 1) := by decide +kernel
theorem pm_X10_watch_r1 : ∀ w ∈ wsX10_watch_r1, w ∈ wsX10_watch := fun _ h => List.mem_cons_of_mem _ (List.mem_append_left _ (List.mem_append_left _ h))
theorem pm_X10_watch_r2 : ∀ w ∈ wsX10_watch_r2, w ∈ wsX10_watch := fun _ h => List.mem_cons_of_mem _ (List.mem_append_left _ (List.mem_append_right _ (List.mem_append_left _ h)))
theorem pm_X10_watch_r3 : ∀ w ∈ wsX10_watch_r3, w ∈ wsX10_watch := fun _ h => List.mem_cons_of_mem _ (List.mem_append_left _ (List.mem_append_right _ (List.mem_append_right _ (h))))
theorem pw_X10_watch_X10 : ∀ w ∈ wsX100, w ∈ wsX10_watch := fun _ h => List.mem_cons_of_mem _ (List.mem_append_right _ h)
set_option maxRecDepth 20000 in
theorem ggX10_watch_X10_isWork : GoodIn wsX10_watch wsX10_isWork := goodIn_sub (List.forall_mem_cons.mpr ⟨pm_X10_watch_r1 _ (List.mem_of_getElem? (i := 9) rfl), List.forall_mem_append.mpr ⟨List.forall_mem_cons.mpr ⟨pm_X10_watch_r1 _ (List.mem_of_getElem? (i := 1) rfl), List.forall_mem_cons.mpr ⟨pm_X10_watch_r1 _ (List.mem_of_getElem? (i := 10) rfl), List.forall_mem_cons.mpr ⟨pm_X10_watch_r1 _ (List.mem_of_getElem? (i := 11) rfl), List.forall_mem_cons.mpr ⟨pm_X10_watch_r1 _ (List.mem_of_getElem? (i := 8) rfl), List.forall_mem_cons.mpr ⟨pm_X10_watch_r1 _ (List.mem_of_getElem? (i := 12) rfl), fun _ h => absurd h List.not_mem_nil⟩⟩⟩⟩⟩, pw_X10_watch_X10⟩⟩) (by decide +kernel)
set_option maxRecDepth 20000 in
theorem gX10_watch_X10_isWork : GoodIn wsX10_watch (wsV RX10 253 RX10 yX10_isWork wsX10_isWork) := goodIn_app (goodIn_of _ (by decide +kernel)) ggX10_watch_X10_isWork
set_option maxRecDepth 20000 in
theorem ggX10_watch_X10_in : GoodIn wsX10_watch wsX10_in := goodIn_sub (List.forall_mem_cons.mpr ⟨pm_X10_watch_r1 _ (List.mem_of_getElem? (i := 12) rfl), fun _ h => absurd h List.not_mem_nil⟩) (by decide +kernel)
set_option maxRecDepth 20000 in
theorem gX10_watch_X10_in : GoodIn wsX10_watch (va_wsS RX10 174 yX10_in wsX10_in) := goodIn_app (goodIn_of _ (by decide +kernel)) ggX10_watch_X10_in
set_option maxRecDepth 20000 in
theorem ggX10_watch_X10_feel : GoodIn wsX10_watch wsX10_feel := goodIn_sub (List.forall_mem_cons.mpr ⟨pm_X10_watch_r1 _ (List.mem_of_getElem? (i := 16) rfl), List.forall_mem_append.mpr ⟨List.forall_mem_cons.mpr ⟨pm_X10_watch_r1 _ (List.mem_of_getElem? (i := 1) rfl), List.forall_mem_cons.mpr ⟨pm_X10_watch_r1 _ (List.mem_of_getElem? (i := 17) rfl), List.forall_mem_cons.mpr ⟨pm_X10_watch_r1 _ (List.mem_of_getElem? (i := 18) rfl), fun _ h => absurd h List.not_mem_nil⟩⟩⟩, pw_X10_watch_X10⟩⟩) (by decide +kernel)
set_option maxRecDepth 20000 in
theorem gX10_watch_X10_feel : GoodIn wsX10_watch (wsV RX10 264 RX10 yX10_feel wsX10_feel) := goodIn_app (goodIn_of _ (by decide +kernel)) ggX10_watch_X10_feel
set_option maxRecDepth 20000 in
theorem ggX10_watch_X10_beginSum : GoodIn wsX10_watch wsX10_beginSum := goodIn_sub (List.forall_mem_cons.mpr ⟨pm_X10_watch_r1 _ (List.mem_of_getElem? (i := 22) rfl), List.forall_mem_append.mpr ⟨List.forall_mem_cons.mpr ⟨pm_X10_watch_r1 _ (List.mem_of_getElem? (i := 1) rfl), List.forall_mem_cons.mpr ⟨pm_X10_watch_r1 _ (List.mem_of_getElem? (i := 23) rfl), List.forall_mem_cons.mpr ⟨pm_X10_watch_r2 _ (List.mem_of_getElem? (i := 0) rfl), List.forall_mem_cons.mpr ⟨pm_X10_watch_r2 _ (List.mem_of_getElem? (i := 1) rfl), List.forall_mem_cons.mpr ⟨pm_X10_watch_r2 _ (List.mem_of_getElem? (i := 2) rfl), List.forall_mem_cons.mpr ⟨pm_X10_watch_r1 _ (List.mem_of_getElem? (i := 13) rfl), List.forall_mem_cons.mpr ⟨pm_X10_watch_r1 _ (List.mem_of_getElem? (i := 14) rfl), List.forall_mem_cons.mpr ⟨pm_X10_watch_r1 _ (List.mem_of_getElem? (i := 15) rfl), List.forall_mem_cons.mpr ⟨pm_X10_watch_r1 _ (List.mem_of_getElem? (i := 8) rfl), List.forall_mem_cons.mpr ⟨pm_X10_watch_r1 _ (List.mem_of_getElem? (i := 16) rfl), List.forall_mem_cons.mpr ⟨pm_X10_watch_r1 _ (List.mem_of_getElem? (i := 17) rfl), List.forall_mem_cons.mpr ⟨pm_X10_watch_r1 _ (List.mem_of_getElem? (i := 18) rfl), fun _ h => absurd h List.not_mem_nil⟩⟩⟩⟩⟩⟩⟩⟩⟩⟩⟩⟩, pw_X10_watch_X10⟩⟩) (by decide +kernel)
set_option maxRecDepth 20000 in
theorem gX10_watch_X10_beginSum : GoodIn wsX10_watch (wsV RX10 392 RX10 yX10_beginSum wsX10_beginSum) := goodIn_app (goodIn_of _ (by decide +kernel)) ggX10_watch_X10_beginSum
set_option maxRecDepth 20000 in
theorem ggX10_watch_X10_must : GoodIn wsX10_watch wsX10_must := goodIn_sub (List.forall_mem_cons.mpr ⟨pm_X10_watch_r2 _ (List.mem_of_getElem? (i := 6) rfl), List.forall_mem_append.mpr ⟨List.forall_mem_cons.mpr ⟨pm_X10_watch_r2 _ (List.mem_of_getElem? (i := 2) rfl), List.forall_mem_cons.mpr ⟨pm_X10_watch_r1 _ (List.mem_of_getElem? (i := 23) rfl), List.forall_mem_cons.mpr ⟨pm_X10_watch_r2 _ (List.mem_of_getElem? (i := 0) rfl), List.forall_mem_cons.mpr ⟨pm_X10_watch_r2 _ (List.mem_of_getElem? (i := 1) rfl), List.forall_mem_cons.mpr ⟨pm_X10_watch_r2 _ (List.mem_of_getElem? (i := 7) rfl), List.forall_mem_cons.mpr ⟨pm_X10_watch_r2 _ (List.mem_of_getElem? (i := 8) rfl), List.forall_mem_cons.mpr ⟨pm_X10_watch_r2 _ (List.mem_of_getElem? (i := 9) rfl), List.forall_mem_cons.mpr ⟨pm_X10_watch_r1 _ (List.mem_of_getElem? (i := 8) rfl), List.forall_mem_cons.mpr ⟨pm_X10_watch_r2 _ (List.mem_of_getElem? (i := 10) rfl), fun _ h => absurd h List.not_mem_nil⟩⟩⟩⟩⟩⟩⟩⟩⟩, pw_X10_watch_X10⟩⟩) (by decide +kernel)
set_option maxRecDepth 20000 in
theorem gX10_watch_X10_must : GoodIn wsX10_watch (wsV RX10 395 RX10 yX10_must wsX10_must) := goodIn_app (goodIn_of _ (by decide +kernel)) ggX10_watch_X10_must
set_option maxRecDepth 20000 in
theorem pq_X10_watch_X10_isSum_r1 : ∀ w ∈ wsX10_isSum_r1, w ∈ wsX10_watch := List.forall_mem_cons.mpr ⟨pm_X10_watch_r2 _ (List.mem_of_getElem? (i := 2) rfl), List.forall_mem_cons.mpr ⟨pm_X10_watch_r2 _ (List.mem_of_getElem? (i := 1) rfl), List.forall_mem_cons.mpr ⟨pm_X10_watch_r1 _ (List.mem_of_getElem? (i := 23) rfl), List.forall_mem_cons.mpr ⟨pm_X10_watch_r2 _ (List.mem_of_getElem? (i := 0) rfl), List.forall_mem_cons.mpr ⟨pm_X10_watch_r2 _ (List.mem_of_getElem? (i := 7) rfl), List.forall_mem_cons.mpr ⟨pm_X10_watch_r2 _ (List.mem_of_getElem? (i := 8) rfl), List.forall_mem_cons.mpr ⟨pm_X10_watch_r2 _ (List.mem_of_getElem? (i := 9) rfl), List.forall_mem_cons.mpr ⟨pm_X10_watch_r1 _ (List.mem_of_getElem? (i := 8) rfl), List.forall_mem_cons.mpr ⟨pm_X10_watch_r2 _ (List.mem_of_getElem? (i := 10) rfl), List.forall_mem_cons.mpr ⟨pm_X10_watch_r2 _ (List.mem_of_getElem? (i := 15) rfl), List.forall_mem_cons.mpr ⟨pm_X10_watch_r2 _ (List.mem_of_getElem? (i := 16) rfl), List.forall_mem_cons.mpr ⟨pm_X10_watch_r2 _ (List.mem_of_getElem? (i := 17) rfl), List.forall_mem_cons.mpr ⟨pm_X10_watch_r2 _ (List.mem_of_getElem? (i := 18) rfl), List.forall_mem_cons.mpr ⟨pm_X10_watch_r1 _ (List.mem_of_getElem? (i := 1) rfl), List.forall_mem_cons.mpr ⟨pm_X10_watch_r1 _ (List.mem_of_getElem? (i := 17) rfl), List.forall_mem_cons.mpr ⟨pm_X10_watch_r1 _ (List.mem_of_getElem? (i := 3) rfl), List.forall_mem_cons.mpr ⟨pm_X10_watch_r1 _ (List.mem_of_getElem? (i := 18) rfl), List.forall_mem_cons.mpr ⟨pm_X10_watch_r1 _ (List.mem_of_getElem? (i := 4) rfl), List.forall_mem_cons.mpr ⟨pm_X10_watch_r1 _ (List.mem_of_getElem? (i := 13) rfl), List.forall_mem_cons.mpr ⟨pm_X10_watch_r1 _ (List.mem_of_getElem? (i := 14) rfl), List.forall_mem_cons.mpr ⟨pm_X10_watch_r1 _ (List.mem_of_getElem? (i := 15) rfl), List.forall_mem_cons.mpr ⟨pm_X10_watch_r1 _ (List.mem_of_getElem? (i := 16) rfl), List.forall_mem_cons.mpr ⟨pm_X10_watch_r2 _ (List.mem_of_getElem? (i := 19) rfl), List.forall_mem_cons.mpr ⟨pm_X10_watch_r2 _ (List.mem_of_getElem? (i := 20) rfl), fun _ h => absurd h List.not_mem_nil⟩⟩⟩⟩⟩⟩⟩⟩⟩⟩⟩⟩⟩⟩⟩⟩⟩⟩⟩⟩⟩⟩⟩⟩
set_option maxRecDepth 20000 in
theorem pq_X10_watch_X10_isSum_r2 : ∀ w ∈ wsX10_isSum_r2, w ∈ wsX10_watch := List.forall_mem_cons.mpr ⟨pm_X10_watch_r2 _ (List.mem_of_getElem? (i := 21) rfl), fun _ h => absurd h List.not_mem_nil⟩
set_option maxRecDepth 20000 in
theorem ggX10_watch_X10_isSum : GoodIn wsX10_watch wsX10_isSum := goodIn_sub (List.forall_mem_cons.mpr ⟨pm_X10_watch_r2 _ (List.mem_of_getElem? (i := 14) rfl), List.forall_mem_append.mpr ⟨List.forall_mem_append.mpr ⟨pq_X10_watch_X10_isSum_r1, pq_X10_watch_X10_isSum_r2⟩, pw_X10_watch_X10⟩⟩) (by decide +kernel)
set_option maxRecDepth 20000 in
theorem gX10_watch_X10_isSum : GoodIn wsX10_watch (wsV RX10 398 RX10 yX10_isSum wsX10_isSum) := goodIn_app (goodIn_of _ (by decide +kernel)) ggX10_watch_X10_isSum
set_option maxRecDepth 20000 in
theorem ggX10_watch_X10_apart : GoodIn wsX10_watch wsX10_apart := goodIn_sub (List.forall_mem_cons.mpr ⟨pm_X10_watch_r2 _ (List.mem_of_getElem? (i := 10) rfl), fun _ h => absurd h List.not_mem_nil⟩) (by decide +kernel)
set_option maxRecDepth 20000 in
theorem gX10_watch_X10_apart : GoodIn wsX10_watch (va_wsS RX10 331 yX10_apart wsX10_apart) := goodIn_app (goodIn_of _ (by decide +kernel)) ggX10_watch_X10_apart
set_option maxRecDepth 20000 in
theorem ggX10_watch_X10_tell : GoodIn wsX10_watch wsX10_tell := goodIn_sub (List.forall_mem_cons.mpr ⟨pm_X10_watch_r3 _ (List.mem_of_getElem? (i := 1) rfl), List.forall_mem_append.mpr ⟨List.forall_mem_cons.mpr ⟨pm_X10_watch_r3 _ (List.mem_of_getElem? (i := 2) rfl), List.forall_mem_cons.mpr ⟨pm_X10_watch_r3 _ (List.mem_of_getElem? (i := 3) rfl), List.forall_mem_cons.mpr ⟨pm_X10_watch_r3 _ (List.mem_of_getElem? (i := 4) rfl), List.forall_mem_cons.mpr ⟨pm_X10_watch_r2 _ (List.mem_of_getElem? (i := 19) rfl), List.forall_mem_cons.mpr ⟨pm_X10_watch_r2 _ (List.mem_of_getElem? (i := 20) rfl), List.forall_mem_cons.mpr ⟨pm_X10_watch_r1 _ (List.mem_of_getElem? (i := 8) rfl), List.forall_mem_cons.mpr ⟨pm_X10_watch_r2 _ (List.mem_of_getElem? (i := 21) rfl), fun _ h => absurd h List.not_mem_nil⟩⟩⟩⟩⟩⟩⟩, pw_X10_watch_X10⟩⟩) (by decide +kernel)
set_option maxRecDepth 20000 in
theorem gX10_watch_X10_tell : GoodIn wsX10_watch (wsV RX10 355 RX10 yX10_tell wsX10_tell) := goodIn_app (goodIn_of _ (by decide +kernel)) ggX10_watch_X10_tell
theorem dX10_watch_0 : decode cX10_watch 0 = .ok (.aload_n 0, 1) := by decide +kernel
theorem dX10_watch_1 : decode cX10_watch 1 = .ok (.iload_n 1, 1) := by decide +kernel
theorem dX10_watch_2 : decode cX10_watch 2 = .ok (.invokevirtual 253, 3) := by decide +kernel
theorem dX10_watch_5 : decode cX10_watch 5 = .ok (.ifCond .eq 15, 3) := by decide +kernel
theorem dX10_watch_8 : decode cX10_watch 8 = .ok (.iload_n 2, 1) := by decide +kernel
theorem dX10_watch_9 : decode cX10_watch 9 = .ok (.i2l, 1) := by decide +kernel
theorem dX10_watch_10 : decode cX10_watch 10 = .ok (.lconst 0, 1) := by decide +kernel
theorem dX10_watch_11 : decode cX10_watch 11 = .ok (.ldc2_w 262, 3) := by decide +kernel
theorem dX10_watch_14 : decode cX10_watch 14 = .ok (.invokestatic 174, 3) := by decide +kernel
theorem dX10_watch_17 : decode cX10_watch 17 = .ok (.ifCond .ne 6, 3) := by decide +kernel
theorem dX10_watch_20 : decode cX10_watch 20 = .ok (.bipush (-2), 2) := by decide +kernel
theorem dX10_watch_22 : decode cX10_watch 22 = .ok (.ireturn, 1) := by decide +kernel
theorem dX10_watch_23 : decode cX10_watch 23 = .ok (.iconst (-1), 1) := by decide +kernel
theorem dX10_watch_24 : decode cX10_watch 24 = .ok (.istore_n 3, 1) := by decide +kernel
theorem dX10_watch_25 : decode cX10_watch 25 = .ok (.lconst 0, 1) := by decide +kernel
theorem dX10_watch_26 : decode cX10_watch 26 = .ok (.lstore 4, 2) := by decide +kernel
theorem dX10_watch_28 : decode cX10_watch 28 = .ok (.lconst 1, 1) := by decide +kernel
theorem dX10_watch_29 : decode cX10_watch 29 = .ok (.lstore 6, 2) := by decide +kernel
theorem dX10_watch_31 : decode cX10_watch 31 = .ok (.aload_n 0, 1) := by decide +kernel
theorem dX10_watch_32 : decode cX10_watch 32 = .ok (.aload_n 0, 1) := by decide +kernel
theorem dX10_watch_33 : decode cX10_watch 33 = .ok (.getfield 17, 3) := by decide +kernel
theorem dX10_watch_36 : decode cX10_watch 36 = .ok (.iconst 2, 1) := by decide +kernel
theorem dX10_watch_37 : decode cX10_watch 37 = .ok (.iaload, 1) := by decide +kernel
theorem dX10_watch_38 : decode cX10_watch 38 = .ok (.invokevirtual 264, 3) := by decide +kernel
theorem dX10_watch_41 : decode cX10_watch 41 = .ok (.i2l, 1) := by decide +kernel
theorem dX10_watch_42 : decode cX10_watch 42 = .ok (.lstore 8, 2) := by decide +kernel
theorem dX10_watch_44 : decode cX10_watch 44 = .ok (.aload_n 0, 1) := by decide +kernel
theorem dX10_watch_45 : decode cX10_watch 45 = .ok (.getfield 17, 3) := by decide +kernel
theorem dX10_watch_48 : decode cX10_watch 48 = .ok (.iconst 0, 1) := by decide +kernel
theorem dX10_watch_49 : decode cX10_watch 49 = .ok (.iaload, 1) := by decide +kernel
theorem dX10_watch_50 : decode cX10_watch 50 = .ok (.i2l, 1) := by decide +kernel
theorem dX10_watch_51 : decode cX10_watch 51 = .ok (.lstore 10, 2) := by decide +kernel
theorem dX10_watch_53 : decode cX10_watch 53 = .ok (.iconst 0, 1) := by decide +kernel
theorem dX10_watch_54 : decode cX10_watch 54 = .ok (.istore 12, 2) := by decide +kernel
theorem dX10_watch_56 : decode cX10_watch 56 = .ok (.iload 12, 2) := by decide +kernel
theorem dX10_watch_58 : decode cX10_watch 58 = .ok (.aload_n 0, 1) := by decide +kernel
theorem dX10_watch_59 : decode cX10_watch 59 = .ok (.getfield 17, 3) := by decide +kernel
theorem dX10_watch_62 : decode cX10_watch 62 = .ok (.iconst 0, 1) := by decide +kernel
theorem dX10_watch_63 : decode cX10_watch 63 = .ok (.iaload, 1) := by decide +kernel
theorem dX10_watch_64 : decode cX10_watch 64 = .ok (.if_icmp .gt 171, 3) := by decide +kernel
theorem dX10_watch_67 : decode cX10_watch 67 = .ok (.aload_n 0, 1) := by decide +kernel
theorem dX10_watch_68 : decode cX10_watch 68 = .ok (.invokevirtual 392, 3) := by decide +kernel
theorem dX10_watch_71 : decode cX10_watch 71 = .ok (.iconst 0, 1) := by decide +kernel
theorem dX10_watch_72 : decode cX10_watch 72 = .ok (.istore 13, 2) := by decide +kernel
theorem dX10_watch_74 : decode cX10_watch 74 = .ok (.iload 13, 2) := by decide +kernel
theorem dX10_watch_76 : decode cX10_watch 76 = .ok (.aload_n 0, 1) := by decide +kernel
theorem dX10_watch_77 : decode cX10_watch 77 = .ok (.getfield 17, 3) := by decide +kernel
theorem dX10_watch_80 : decode cX10_watch 80 = .ok (.iconst 4, 1) := by decide +kernel
theorem dX10_watch_81 : decode cX10_watch 81 = .ok (.iaload, 1) := by decide +kernel
theorem dX10_watch_82 : decode cX10_watch 82 = .ok (.if_icmp .ge 47, 3) := by decide +kernel
theorem dX10_watch_85 : decode cX10_watch 85 = .ok (.iload 13, 2) := by decide +kernel
theorem dX10_watch_87 : decode cX10_watch 87 = .ok (.iload_n 1, 1) := by decide +kernel
theorem dX10_watch_88 : decode cX10_watch 88 = .ok (.if_icmp .eq 35, 3) := by decide +kernel
theorem dX10_watch_91 : decode cX10_watch 91 = .ok (.aload_n 0, 1) := by decide +kernel
theorem dX10_watch_92 : decode cX10_watch 92 = .ok (.iload 12, 2) := by decide +kernel
theorem dX10_watch_94 : decode cX10_watch 94 = .ok (.i2l, 1) := by decide +kernel
theorem dX10_watch_95 : decode cX10_watch 95 = .ok (.lload 10, 2) := by decide +kernel
theorem dX10_watch_97 : decode cX10_watch 97 = .ok (.aload_n 0, 1) := by decide +kernel
theorem dX10_watch_98 : decode cX10_watch 98 = .ok (.getfield 31, 3) := by decide +kernel
theorem dX10_watch_101 : decode cX10_watch 101 = .ok (.iload_n 1, 1) := by decide +kernel
theorem dX10_watch_102 : decode cX10_watch 102 = .ok (.iaload, 1) := by decide +kernel
theorem dX10_watch_103 : decode cX10_watch 103 = .ok (.aload_n 0, 1) := by decide +kernel
theorem dX10_watch_104 : decode cX10_watch 104 = .ok (.getfield 31, 3) := by decide +kernel
theorem dX10_watch_107 : decode cX10_watch 107 = .ok (.iload 13, 2) := by decide +kernel
theorem dX10_watch_109 : decode cX10_watch 109 = .ok (.iaload, 1) := by decide +kernel
theorem dX10_watch_110 : decode cX10_watch 110 = .ok (.isub, 1) := by decide +kernel
theorem dX10_watch_111 : decode cX10_watch 111 = .ok (.i2l, 1) := by decide +kernel
theorem dX10_watch_112 : decode cX10_watch 112 = .ok (.lmul, 1) := by decide +kernel
theorem dX10_watch_113 : decode cX10_watch 113 = .ok (.iload 12, 2) := by decide +kernel
theorem dX10_watch_115 : decode cX10_watch 115 = .ok (.i2l, 1) := by decide +kernel
theorem dX10_watch_116 : decode cX10_watch 116 = .ok (.lload 8, 2) := by decide +kernel
theorem dX10_watch_118 : decode cX10_watch 118 = .ok (.lmul, 1) := by decide +kernel
theorem dX10_watch_119 : decode cX10_watch 119 = .ok (.ladd, 1) := by decide +kernel
theorem dX10_watch_120 : decode cX10_watch 120 = .ok (.invokevirtual 395, 3) := by decide +kernel
theorem dX10_watch_123 : decode cX10_watch 123 = .ok (.iinc 13 1, 3) := by decide +kernel
theorem dX10_watch_126 : decode cX10_watch 126 = .ok (.goto (-52), 3) := by decide +kernel
theorem dX10_watch_129 : decode cX10_watch 129 = .ok (.aload_n 0, 1) := by decide +kernel
theorem dX10_watch_130 : decode cX10_watch 130 = .ok (.lconst 1, 1) := by decide +kernel
theorem dX10_watch_131 : decode cX10_watch 131 = .ok (.aload_n 0, 1) := by decide +kernel
theorem dX10_watch_132 : decode cX10_watch 132 = .ok (.getfield 31, 3) := by decide +kernel
theorem dX10_watch_135 : decode cX10_watch 135 = .ok (.iload_n 1, 1) := by decide +kernel
theorem dX10_watch_136 : decode cX10_watch 136 = .ok (.iaload, 1) := by decide +kernel
theorem dX10_watch_137 : decode cX10_watch 137 = .ok (.aload_n 0, 1) := by decide +kernel
theorem dX10_watch_138 : decode cX10_watch 138 = .ok (.getfield 17, 3) := by decide +kernel
theorem dX10_watch_141 : decode cX10_watch 141 = .ok (.iconst 1, 1) := by decide +kernel
theorem dX10_watch_142 : decode cX10_watch 142 = .ok (.iaload, 1) := by decide +kernel
theorem dX10_watch_143 : decode cX10_watch 143 = .ok (.iadd, 1) := by decide +kernel
theorem dX10_watch_144 : decode cX10_watch 144 = .ok (.i2l, 1) := by decide +kernel
theorem dX10_watch_145 : decode cX10_watch 145 = .ok (.invokevirtual 395, 3) := by decide +kernel
theorem dX10_watch_148 : decode cX10_watch 148 = .ok (.aload_n 0, 1) := by decide +kernel
theorem dX10_watch_149 : decode cX10_watch 149 = .ok (.invokevirtual 398, 3) := by decide +kernel
theorem dX10_watch_152 : decode cX10_watch 152 = .ok (.ifCond .ne 6, 3) := by decide +kernel
theorem dX10_watch_155 : decode cX10_watch 155 = .ok (.goto 74, 3) := by decide +kernel
theorem dX10_watch_158 : decode cX10_watch 158 = .ok (.lload 10, 2) := by decide +kernel
theorem dX10_watch_160 : decode cX10_watch 160 = .ok (.aload_n 0, 1) := by decide +kernel
theorem dX10_watch_161 : decode cX10_watch 161 = .ok (.getfield 64, 3) := by decide +kernel
theorem dX10_watch_164 : decode cX10_watch 164 = .ok (.iconst 0, 1) := by decide +kernel
theorem dX10_watch_165 : decode cX10_watch 165 = .ok (.laload, 1) := by decide +kernel
theorem dX10_watch_166 : decode cX10_watch 166 = .ok (.lmul, 1) := by decide +kernel
theorem dX10_watch_167 : decode cX10_watch 167 = .ok (.iload 12, 2) := by decide +kernel
theorem dX10_watch_169 : decode cX10_watch 169 = .ok (.i2l, 1) := by decide +kernel
theorem dX10_watch_170 : decode cX10_watch 170 = .ok (.iload_n 2, 1) := by decide +kernel
theorem dX10_watch_171 : decode cX10_watch 171 = .ok (.i2l, 1) := by decide +kernel
theorem dX10_watch_172 : decode cX10_watch 172 = .ok (.lmul, 1) := by decide +kernel
theorem dX10_watch_173 : decode cX10_watch 173 = .ok (.aload_n 0, 1) := by decide +kernel
theorem dX10_watch_174 : decode cX10_watch 174 = .ok (.getfield 67, 3) := by decide +kernel
theorem dX10_watch_177 : decode cX10_watch 177 = .ok (.iconst 0, 1) := by decide +kernel
theorem dX10_watch_178 : decode cX10_watch 178 = .ok (.laload, 1) := by decide +kernel
theorem dX10_watch_179 : decode cX10_watch 179 = .ok (.lmul, 1) := by decide +kernel
theorem dX10_watch_180 : decode cX10_watch 180 = .ok (.ladd, 1) := by decide +kernel
theorem dX10_watch_181 : decode cX10_watch 181 = .ok (.lstore 13, 2) := by decide +kernel
theorem dX10_watch_183 : decode cX10_watch 183 = .ok (.lload 10, 2) := by decide +kernel
theorem dX10_watch_185 : decode cX10_watch 185 = .ok (.aload_n 0, 1) := by decide +kernel
theorem dX10_watch_186 : decode cX10_watch 186 = .ok (.getfield 67, 3) := by decide +kernel
theorem dX10_watch_189 : decode cX10_watch 189 = .ok (.iconst 0, 1) := by decide +kernel
theorem dX10_watch_190 : decode cX10_watch 190 = .ok (.laload, 1) := by decide +kernel
theorem dX10_watch_191 : decode cX10_watch 191 = .ok (.lmul, 1) := by decide +kernel
theorem dX10_watch_192 : decode cX10_watch 192 = .ok (.lstore 15, 2) := by decide +kernel
theorem dX10_watch_194 : decode cX10_watch 194 = .ok (.iload_n 3, 1) := by decide +kernel
theorem dX10_watch_195 : decode cX10_watch 195 = .ok (.iconst (-1), 1) := by decide +kernel
theorem dX10_watch_196 : decode cX10_watch 196 = .ok (.if_icmp .eq 22, 3) := by decide +kernel
theorem dX10_watch_199 : decode cX10_watch 199 = .ok (.lload 13, 2) := by decide +kernel
theorem dX10_watch_201 : decode cX10_watch 201 = .ok (.lload 15, 2) := by decide +kernel
theorem dX10_watch_203 : decode cX10_watch 203 = .ok (.lload 4, 2) := by decide +kernel
theorem dX10_watch_205 : decode cX10_watch 205 = .ok (.lload 6, 2) := by decide +kernel
theorem dX10_watch_207 : decode cX10_watch 207 = .ok (.invokestatic 331, 3) := by decide +kernel
theorem dX10_watch_210 : decode cX10_watch 210 = .ok (.lconst 0, 1) := by decide +kernel
theorem dX10_watch_211 : decode cX10_watch 211 = .ok (.lcmp, 1) := by decide +kernel
theorem dX10_watch_212 : decode cX10_watch 212 = .ok (.ifCond .lt 6, 3) := by decide +kernel
theorem dX10_watch_215 : decode cX10_watch 215 = .ok (.goto 14, 3) := by decide +kernel
theorem dX10_watch_218 : decode cX10_watch 218 = .ok (.iload 12, 2) := by decide +kernel
theorem dX10_watch_220 : decode cX10_watch 220 = .ok (.istore_n 3, 1) := by decide +kernel
theorem dX10_watch_221 : decode cX10_watch 221 = .ok (.lload 13, 2) := by decide +kernel
theorem dX10_watch_223 : decode cX10_watch 223 = .ok (.lstore 4, 2) := by decide +kernel
theorem dX10_watch_225 : decode cX10_watch 225 = .ok (.lload 15, 2) := by decide +kernel
theorem dX10_watch_227 : decode cX10_watch 227 = .ok (.lstore 6, 2) := by decide +kernel
theorem dX10_watch_229 : decode cX10_watch 229 = .ok (.iinc 12 1, 3) := by decide +kernel
theorem dX10_watch_232 : decode cX10_watch 232 = .ok (.goto (-176), 3) := by decide +kernel
theorem dX10_watch_235 : decode cX10_watch 235 = .ok (.iload_n 3, 1) := by decide +kernel
theorem dX10_watch_236 : decode cX10_watch 236 = .ok (.iconst (-1), 1) := by decide +kernel
theorem dX10_watch_237 : decode cX10_watch 237 = .ok (.if_icmp .eq 11, 3) := by decide +kernel
theorem dX10_watch_240 : decode cX10_watch 240 = .ok (.aload_n 0, 1) := by decide +kernel
theorem dX10_watch_241 : decode cX10_watch 241 = .ok (.lload 4, 2) := by decide +kernel
theorem dX10_watch_243 : decode cX10_watch 243 = .ok (.lload 6, 2) := by decide +kernel
theorem dX10_watch_245 : decode cX10_watch 245 = .ok (.invokevirtual 355, 3) := by decide +kernel
theorem dX10_watch_248 : decode cX10_watch 248 = .ok (.iload_n 3, 1) := by decide +kernel
theorem dX10_watch_249 : decode cX10_watch 249 = .ok (.ireturn, 1) := by decide +kernel
set_option maxRecDepth 20000 in
theorem ggX10_press_X10_isWork : GoodIn wsX10_press wsX10_isWork := goodIn_r _ [7, 8, 9, 10, 6, 11, 12, 13, 14, 15, 16, 17, 18, 19, 20, 21, 22, 23, 24, 25, 26, 27, 28, 29, 30, 31, 32, 33, 34, 35, 36, 37, 38, 39, 40, 41, 42, 43, 44, 45, 46, 47, 48, 49, 50, 51, 52, 53, 54, 55, 56, 57, 58, 59, 60, 61, 62, 63, 64, 65, 66, 67, 68, 69, 70, 71, 72, 73, 74, 75, 76] (by decide +kernel) (by decide +kernel)
set_option maxRecDepth 20000 in
theorem gX10_press_X10_isWork : GoodIn wsX10_press (wsV RX10 253 RX10 yX10_isWork wsX10_isWork) := goodIn_app (goodIn_of _ (by decide +kernel)) ggX10_press_X10_isWork
set_option maxRecDepth 20000 in
theorem ggX10_press_X10_in : GoodIn wsX10_press wsX10_in := goodIn_r _ [11] (by decide +kernel) (by decide +kernel)
set_option maxRecDepth 20000 in
theorem gX10_press_X10_in : GoodIn wsX10_press (va_wsS RX10 174 yX10_in wsX10_in) := goodIn_app (goodIn_of _ (by decide +kernel)) ggX10_press_X10_in
theorem dX10_press_0 : decode cX10_press 0 = .ok (.iload_n 1, 1) := by decide +kernel
theorem dX10_press_1 : decode cX10_press 1 = .ok (.iconst (-1), 1) := by decide +kernel
theorem dX10_press_2 : decode cX10_press 2 = .ok (.if_icmp .eq 11, 3) := by decide +kernel
theorem dX10_press_5 : decode cX10_press 5 = .ok (.aload_n 0, 1) := by decide +kernel
theorem dX10_press_6 : decode cX10_press 6 = .ok (.iload_n 1, 1) := by decide +kernel
theorem dX10_press_7 : decode cX10_press 7 = .ok (.invokevirtual 253, 3) := by decide +kernel
theorem dX10_press_10 : decode cX10_press 10 = .ok (.ifCond .eq 15, 3) := by decide +kernel
theorem dX10_press_13 : decode cX10_press 13 = .ok (.iload_n 2, 1) := by decide +kernel
theorem dX10_press_14 : decode cX10_press 14 = .ok (.i2l, 1) := by decide +kernel
theorem dX10_press_15 : decode cX10_press 15 = .ok (.lconst 0, 1) := by decide +kernel
theorem dX10_press_16 : decode cX10_press 16 = .ok (.ldc2_w 262, 3) := by decide +kernel
theorem dX10_press_19 : decode cX10_press 19 = .ok (.invokestatic 174, 3) := by decide +kernel
theorem dX10_press_22 : decode cX10_press 22 = .ok (.ifCond .ne 6, 3) := by decide +kernel
theorem dX10_press_25 : decode cX10_press 25 = .ok (.bipush (-2), 2) := by decide +kernel
theorem dX10_press_27 : decode cX10_press 27 = .ok (.ireturn, 1) := by decide +kernel
theorem dX10_press_28 : decode cX10_press 28 = .ok (.iload_n 1, 1) := by decide +kernel
theorem dX10_press_29 : decode cX10_press 29 = .ok (.iconst (-1), 1) := by decide +kernel
theorem dX10_press_30 : decode cX10_press 30 = .ok (.if_icmp .ne 7, 3) := by decide +kernel
theorem dX10_press_33 : decode cX10_press 33 = .ok (.iconst 5, 1) := by decide +kernel
theorem dX10_press_34 : decode cX10_press 34 = .ok (.goto 4, 3) := by decide +kernel
theorem dX10_press_37 : decode cX10_press 37 = .ok (.iload_n 1, 1) := by decide +kernel
theorem dX10_press_38 : decode cX10_press 38 = .ok (.istore_n 3, 1) := by decide +kernel
theorem dX10_press_39 : decode cX10_press 39 = .ok (.aload_n 0, 1) := by decide +kernel
theorem dX10_press_40 : decode cX10_press 40 = .ok (.getfield 85, 3) := by decide +kernel
theorem dX10_press_43 : decode cX10_press 43 = .ok (.iload_n 3, 1) := by decide +kernel
theorem dX10_press_44 : decode cX10_press 44 = .ok (.iaload, 1) := by decide +kernel
theorem dX10_press_45 : decode cX10_press 45 = .ok (.istore 4, 2) := by decide +kernel
theorem dX10_press_47 : decode cX10_press 47 = .ok (.aload_n 0, 1) := by decide +kernel
theorem dX10_press_48 : decode cX10_press 48 = .ok (.getfield 85, 3) := by decide +kernel
theorem dX10_press_51 : decode cX10_press 51 = .ok (.iload_n 3, 1) := by decide +kernel
theorem dX10_press_52 : decode cX10_press 52 = .ok (.iload_n 2, 1) := by decide +kernel
theorem dX10_press_53 : decode cX10_press 53 = .ok (.iastore, 1) := by decide +kernel
theorem dX10_press_54 : decode cX10_press 54 = .ok (.iload 4, 2) := by decide +kernel
theorem dX10_press_56 : decode cX10_press 56 = .ok (.ireturn, 1) := by decide +kernel
set_option maxRecDepth 20000 in
theorem ggX10_by_X10_in : GoodIn wsX10_by wsX10_in := goodIn_r _ [6] (by decide +kernel) (by decide +kernel)
set_option maxRecDepth 20000 in
theorem gX10_by_X10_in : GoodIn wsX10_by (va_wsS RX10 174 yX10_in wsX10_in) := goodIn_app (goodIn_of _ (by decide +kernel)) ggX10_by_X10_in
theorem dX10_by_0 : decode cX10_by 0 = .ok (.iload_n 1, 1) := by decide +kernel
theorem dX10_by_1 : decode cX10_by 1 = .ok (.i2l, 1) := by decide +kernel
theorem dX10_by_2 : decode cX10_by 2 = .ok (.lconst 1, 1) := by decide +kernel
theorem dX10_by_3 : decode cX10_by 3 = .ok (.ldc2_w 262, 3) := by decide +kernel
theorem dX10_by_6 : decode cX10_by 6 = .ok (.invokestatic 174, 3) := by decide +kernel
theorem dX10_by_9 : decode cX10_by 9 = .ok (.ifCond .ne 6, 3) := by decide +kernel
theorem dX10_by_12 : decode cX10_by 12 = .ok (.bipush (-2), 2) := by decide +kernel
theorem dX10_by_14 : decode cX10_by 14 = .ok (.ireturn, 1) := by decide +kernel
theorem dX10_by_15 : decode cX10_by 15 = .ok (.aload_n 0, 1) := by decide +kernel
theorem dX10_by_16 : decode cX10_by 16 = .ok (.getfield 190, 3) := by decide +kernel
theorem dX10_by_19 : decode cX10_by 19 = .ok (.istore_n 2, 1) := by decide +kernel
theorem dX10_by_20 : decode cX10_by 20 = .ok (.aload_n 0, 1) := by decide +kernel
theorem dX10_by_21 : decode cX10_by 21 = .ok (.iload_n 1, 1) := by decide +kernel
theorem dX10_by_22 : decode cX10_by 22 = .ok (.putfield 190, 3) := by decide +kernel
theorem dX10_by_25 : decode cX10_by 25 = .ok (.iload_n 2, 1) := by decide +kernel
theorem dX10_by_26 : decode cX10_by 26 = .ok (.ireturn, 1) := by decide +kernel
theorem kk_X10_bar_0 : Cond.fieldLink RX10 17 "PaidBySignsModel" "num" "[I" ∈ wsX10_bar := pm_X10_bar_r1 _ (List.mem_of_getElem? (i := 0) rfl)
theorem kk_X10_bar_1 : Cond.fieldLink RX10 31 "PaidBySignsModel" "costs" "[I" ∈ wsX10_bar := pm_X10_bar_r1 _ (List.mem_of_getElem? (i := 1) rfl)
theorem kk_X10_bar_2 : Cond.fieldLink RX10 64 "PaidBySignsModel" "wageUp" "[J" ∈ wsX10_bar := pm_X10_bar_r1 _ (List.mem_of_getElem? (i := 2) rfl)
theorem kk_X10_bar_3 : Cond.fieldLink RX10 67 "PaidBySignsModel" "wageLow" "[J" ∈ wsX10_bar := pm_X10_bar_r1 _ (List.mem_of_getElem? (i := 3) rfl)
theorem kk_X10_crew_0 : Cond.fieldLink RX10 17 "PaidBySignsModel" "num" "[I" ∈ wsX10_crew := pm_X10_crew_r1 _ (List.mem_of_getElem? (i := 0) rfl)
theorem kk_X10_crew_1 : Cond.fieldLink RX10 31 "PaidBySignsModel" "costs" "[I" ∈ wsX10_crew := pm_X10_crew_r1 _ (List.mem_of_getElem? (i := 1) rfl)
theorem kk_X10_crew_2 : Cond.fieldLink RX10 64 "PaidBySignsModel" "wageUp" "[J" ∈ wsX10_crew := pm_X10_crew_r1 _ (List.mem_of_getElem? (i := 2) rfl)
theorem kk_X10_crew_3 : Cond.fieldLink RX10 67 "PaidBySignsModel" "wageLow" "[J" ∈ wsX10_crew := pm_X10_crew_r1 _ (List.mem_of_getElem? (i := 3) rfl)
theorem kk_X10_watch_0 : Cond.constantLong RX10 262 (9999) ∈ wsX10_watch := pm_X10_watch_r1 _ (List.mem_of_getElem? (i := 0) rfl)
theorem kk_X10_watch_1 : Cond.fieldLink RX10 17 "PaidBySignsModel" "num" "[I" ∈ wsX10_watch := pm_X10_watch_r1 _ (List.mem_of_getElem? (i := 1) rfl)
theorem kk_X10_watch_2 : Cond.fieldLink RX10 31 "PaidBySignsModel" "costs" "[I" ∈ wsX10_watch := pm_X10_watch_r1 _ (List.mem_of_getElem? (i := 2) rfl)
theorem kk_X10_watch_3 : Cond.fieldLink RX10 64 "PaidBySignsModel" "wageUp" "[J" ∈ wsX10_watch := pm_X10_watch_r1 _ (List.mem_of_getElem? (i := 3) rfl)
theorem kk_X10_watch_4 : Cond.fieldLink RX10 67 "PaidBySignsModel" "wageLow" "[J" ∈ wsX10_watch := pm_X10_watch_r1 _ (List.mem_of_getElem? (i := 4) rfl)
theorem kk_X10_press_0 : Cond.constantLong RX10 262 (9999) ∈ wsX10_press := by decide +kernel
theorem kk_X10_press_1 : Cond.fieldLink RX10 85 "PaidBySignsModel" "presses" "[I" ∈ wsX10_press := by decide +kernel
theorem kk_X10_by_0 : Cond.constantLong RX10 262 (9999) ∈ wsX10_by := by decide +kernel
theorem kk_X10_by_1 : Cond.fieldLink RX10 190 "PaidBySignsModel" "lowerPress" "I" ∈ wsX10_by := by decide +kernel
theorem iw_X10_bar_X10 : ∀ w ∈ wsX100, w ∈ wsX10_bar := pw_X10_bar_X10
theorem iw_X10_crew_X10 : ∀ w ∈ wsX100, w ∈ wsX10_crew := pw_X10_crew_X10
theorem iw_X10_watch_X10 : ∀ w ∈ wsX100, w ∈ wsX10_watch := pw_X10_watch_X10
theorem iw_X10_press_X10 : ∀ w ∈ wsX100, w ∈ wsX10_press := by decide +kernel
theorem iw_X10_by_X10 : ∀ w ∈ wsX100, w ∈ wsX10_by := by decide +kernel
