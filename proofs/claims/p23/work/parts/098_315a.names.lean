abbrev cX10_bar : ByteArray := prog_12_method_68_code
def yX10_bar : MethodName := ⟨RX10, "bar", "(I)I"⟩
abbrev cX10_crew : ByteArray := prog_12_method_69_code
def yX10_crew : MethodName := ⟨RX10, "crew", "(II)I"⟩
abbrev cX10_watch : ByteArray := prog_12_method_70_code
def yX10_watch : MethodName := ⟨RX10, "watch", "(II)I"⟩
abbrev cX10_press : ByteArray := prog_12_method_71_code
def yX10_press : MethodName := ⟨RX10, "press", "(II)I"⟩
abbrev cX10_by : ByteArray := prog_12_method_72_code
def yX10_by : MethodName := ⟨RX10, "by", "(I)I"⟩
def wsX10_bar_r1 : List Cond := [Cond.fieldLink RX10 17 "PaidBySignsModel" "num" "[I", Cond.fieldLink RX10 31 "PaidBySignsModel" "costs" "[I", Cond.fieldLink RX10 64 "PaidBySignsModel" "wageUp" "[J", Cond.fieldLink RX10 67 "PaidBySignsModel" "wageLow" "[J", Cond.methodLink RX10 253 yX10_isWork, Cond.instanceMethod yX10_isWork, Cond.selects RX10 yX10_isWork yX10_isWork, Cond.initialized RX10, Cond.code yX10_isWork cX10_isWork 2 (some .boolean), Cond.methodLink RX10 174 yX10_in, Cond.static yX10_in, Cond.code yX10_in cX10_in 6 (some .boolean), Cond.methodLink RX10 264 yX10_feel, Cond.instanceMethod yX10_feel, Cond.selects RX10 yX10_feel yX10_feel, Cond.code yX10_feel cX10_feel 6 (some .int), Cond.fieldLink RX10 40 "PaidBySignsModel" "marks" "[I", Cond.fieldLink RX10 37 "PaidBySignsModel" "rates" "[I", Cond.methodLink RX10 389 yX10_chanceFrom, Cond.instanceMethod yX10_chanceFrom, Cond.selects RX10 yX10_chanceFrom yX10_chanceFrom, Cond.code yX10_chanceFrom cX10_chanceFrom 5 (some .int), Cond.fieldLink RX10 28 "PaidBySignsModel" "brings" "[I", Cond.methodLink RX10 259 yX10_chanceOf]
def wsX10_bar_r2 : List Cond := [Cond.instanceMethod yX10_chanceOf, Cond.selects RX10 yX10_chanceOf yX10_chanceOf, Cond.code yX10_chanceOf cX10_chanceOf 3 (some .int), Cond.fieldLink RX10 34 "PaidBySignsModel" "chances" "[I", Cond.methodLink RX10 392 yX10_beginSum, Cond.instanceMethod yX10_beginSum, Cond.selects RX10 yX10_beginSum yX10_beginSum, Cond.code yX10_beginSum cX10_beginSum 1 none, Cond.fieldLink RX10 374 "PaidBySignsModel" "fromUp" "J", Cond.fieldLink RX10 377 "PaidBySignsModel" "fromLow" "J", Cond.fieldLink RX10 380 "PaidBySignsModel" "toLow" "J", Cond.fieldLink RX10 383 "PaidBySignsModel" "canBe" "Z", Cond.methodLink RX10 395 yX10_must, Cond.instanceMethod yX10_must, Cond.selects RX10 yX10_must yX10_must, Cond.code yX10_must cX10_must 5 none, Cond.fieldLink RX10 386 "PaidBySignsModel" "toUp" "J", Cond.methodLink RX10 331 yX10_apart, Cond.static yX10_apart, Cond.code yX10_apart cX10_apart 8 (some .long), Cond.methodLink RX10 398 yX10_isSum, Cond.instanceMethod yX10_isSum, Cond.selects RX10 yX10_isSum yX10_isSum, Cond.code yX10_isSum cX10_isSum 1 (some .boolean)]
def wsX10_bar_r3 : List Cond := [Cond.methodLink RX10 318 yX10_wageOf, Cond.instanceMethod yX10_wageOf, Cond.selects RX10 yX10_wageOf yX10_wageOf, Cond.code yX10_wageOf cX10_wageOf 13 none, Cond.methodLink RX10 277 yX10_common, Cond.static yX10_common, Cond.code yX10_common cX10_common 10 (some .long), Cond.methodLink RX10 355 yX10_tell, Cond.instanceMethod yX10_tell, Cond.selects RX10 yX10_tell yX10_tell, Cond.code yX10_tell cX10_tell 7 none, Cond.fieldLink RX10 281 "PaidBySignsModel" "upper" "J", Cond.fieldLink RX10 284 "PaidBySignsModel" "lower" "J", Cond.fieldLink RX10 202 "PaidBySignsModel" "hasFraction" "Z"]
def wsX10_bar : List Cond := .code yX10_bar cX10_bar 18 (some .int) :: ((wsX10_bar_r1 ++ (wsX10_bar_r2 ++ wsX10_bar_r3)) ++ wsX100)
def wsX10_crew_r1 : List Cond := [Cond.fieldLink RX10 17 "PaidBySignsModel" "num" "[I", Cond.fieldLink RX10 31 "PaidBySignsModel" "costs" "[I", Cond.fieldLink RX10 64 "PaidBySignsModel" "wageUp" "[J", Cond.fieldLink RX10 67 "PaidBySignsModel" "wageLow" "[J", Cond.methodLink RX10 253 yX10_isWork, Cond.instanceMethod yX10_isWork, Cond.selects RX10 yX10_isWork yX10_isWork, Cond.initialized RX10, Cond.code yX10_isWork cX10_isWork 2 (some .boolean), Cond.methodLink RX10 174 yX10_in, Cond.static yX10_in, Cond.code yX10_in cX10_in 6 (some .boolean), Cond.methodLink RX10 256 yX10_isSign, Cond.instanceMethod yX10_isSign, Cond.selects RX10 yX10_isSign yX10_isSign, Cond.code yX10_isSign cX10_isSign 2 (some .boolean), Cond.methodLink RX10 389 yX10_chanceFrom, Cond.instanceMethod yX10_chanceFrom, Cond.selects RX10 yX10_chanceFrom yX10_chanceFrom, Cond.code yX10_chanceFrom cX10_chanceFrom 5 (some .int), Cond.fieldLink RX10 28 "PaidBySignsModel" "brings" "[I", Cond.methodLink RX10 259 yX10_chanceOf, Cond.instanceMethod yX10_chanceOf, Cond.selects RX10 yX10_chanceOf yX10_chanceOf]
def wsX10_crew_r2 : List Cond := [Cond.code yX10_chanceOf cX10_chanceOf 3 (some .int), Cond.fieldLink RX10 34 "PaidBySignsModel" "chances" "[I", Cond.methodLink RX10 264 yX10_feel, Cond.instanceMethod yX10_feel, Cond.selects RX10 yX10_feel yX10_feel, Cond.code yX10_feel cX10_feel 6 (some .int), Cond.fieldLink RX10 40 "PaidBySignsModel" "marks" "[I", Cond.fieldLink RX10 37 "PaidBySignsModel" "rates" "[I", Cond.methodLink RX10 392 yX10_beginSum, Cond.instanceMethod yX10_beginSum, Cond.selects RX10 yX10_beginSum yX10_beginSum, Cond.code yX10_beginSum cX10_beginSum 1 none, Cond.fieldLink RX10 374 "PaidBySignsModel" "fromUp" "J", Cond.fieldLink RX10 377 "PaidBySignsModel" "fromLow" "J", Cond.fieldLink RX10 380 "PaidBySignsModel" "toLow" "J", Cond.fieldLink RX10 383 "PaidBySignsModel" "canBe" "Z", Cond.methodLink RX10 395 yX10_must, Cond.instanceMethod yX10_must, Cond.selects RX10 yX10_must yX10_must, Cond.code yX10_must cX10_must 5 none, Cond.fieldLink RX10 386 "PaidBySignsModel" "toUp" "J", Cond.methodLink RX10 331 yX10_apart, Cond.static yX10_apart, Cond.code yX10_apart cX10_apart 8 (some .long)]
def wsX10_crew_r3 : List Cond := [Cond.methodLink RX10 398 yX10_isSum, Cond.instanceMethod yX10_isSum, Cond.selects RX10 yX10_isSum yX10_isSum, Cond.code yX10_isSum cX10_isSum 1 (some .boolean), Cond.methodLink RX10 318 yX10_wageOf, Cond.instanceMethod yX10_wageOf, Cond.selects RX10 yX10_wageOf yX10_wageOf, Cond.code yX10_wageOf cX10_wageOf 13 none, Cond.methodLink RX10 277 yX10_common, Cond.static yX10_common, Cond.code yX10_common cX10_common 10 (some .long), Cond.methodLink RX10 355 yX10_tell, Cond.instanceMethod yX10_tell, Cond.selects RX10 yX10_tell yX10_tell, Cond.code yX10_tell cX10_tell 7 none, Cond.fieldLink RX10 281 "PaidBySignsModel" "upper" "J", Cond.fieldLink RX10 284 "PaidBySignsModel" "lower" "J", Cond.fieldLink RX10 202 "PaidBySignsModel" "hasFraction" "Z"]
def wsX10_crew : List Cond := .code yX10_crew cX10_crew 12 (some .int) :: ((wsX10_crew_r1 ++ (wsX10_crew_r2 ++ wsX10_crew_r3)) ++ wsX100)
def wsX10_watch_r1 : List Cond := [Cond.constantLong RX10 262 (9999), Cond.fieldLink RX10 17 "PaidBySignsModel" "num" "[I", Cond.fieldLink RX10 31 "PaidBySignsModel" "costs" "[I", Cond.fieldLink RX10 64 "PaidBySignsModel" "wageUp" "[J", Cond.fieldLink RX10 67 "PaidBySignsModel" "wageLow" "[J", Cond.methodLink RX10 253 yX10_isWork, Cond.instanceMethod yX10_isWork, Cond.selects RX10 yX10_isWork yX10_isWork, Cond.initialized RX10, Cond.code yX10_isWork cX10_isWork 2 (some .boolean), Cond.methodLink RX10 174 yX10_in, Cond.static yX10_in, Cond.code yX10_in cX10_in 6 (some .boolean), Cond.methodLink RX10 264 yX10_feel, Cond.instanceMethod yX10_feel, Cond.selects RX10 yX10_feel yX10_feel, Cond.code yX10_feel cX10_feel 6 (some .int), Cond.fieldLink RX10 40 "PaidBySignsModel" "marks" "[I", Cond.fieldLink RX10 37 "PaidBySignsModel" "rates" "[I", Cond.methodLink RX10 392 yX10_beginSum, Cond.instanceMethod yX10_beginSum, Cond.selects RX10 yX10_beginSum yX10_beginSum, Cond.code yX10_beginSum cX10_beginSum 1 none, Cond.fieldLink RX10 374 "PaidBySignsModel" "fromUp" "J"]
def wsX10_watch_r2 : List Cond := [Cond.fieldLink RX10 377 "PaidBySignsModel" "fromLow" "J", Cond.fieldLink RX10 380 "PaidBySignsModel" "toLow" "J", Cond.fieldLink RX10 383 "PaidBySignsModel" "canBe" "Z", Cond.methodLink RX10 395 yX10_must, Cond.instanceMethod yX10_must, Cond.selects RX10 yX10_must yX10_must, Cond.code yX10_must cX10_must 5 none, Cond.fieldLink RX10 386 "PaidBySignsModel" "toUp" "J", Cond.methodLink RX10 331 yX10_apart, Cond.static yX10_apart, Cond.code yX10_apart cX10_apart 8 (some .long), Cond.methodLink RX10 398 yX10_isSum, Cond.instanceMethod yX10_isSum, Cond.selects RX10 yX10_isSum yX10_isSum, Cond.code yX10_isSum cX10_isSum 1 (some .boolean), Cond.methodLink RX10 318 yX10_wageOf, Cond.instanceMethod yX10_wageOf, Cond.selects RX10 yX10_wageOf yX10_wageOf, Cond.code yX10_wageOf cX10_wageOf 13 none, Cond.methodLink RX10 277 yX10_common, Cond.static yX10_common, Cond.code yX10_common cX10_common 10 (some .long), Cond.methodLink RX10 355 yX10_tell, Cond.instanceMethod yX10_tell]
def wsX10_watch_r3 : List Cond := [Cond.selects RX10 yX10_tell yX10_tell, Cond.code yX10_tell cX10_tell 7 none, Cond.fieldLink RX10 281 "PaidBySignsModel" "upper" "J", Cond.fieldLink RX10 284 "PaidBySignsModel" "lower" "J", Cond.fieldLink RX10 202 "PaidBySignsModel" "hasFraction" "Z"]
def wsX10_watch : List Cond := .code yX10_watch cX10_watch 17 (some .int) :: ((wsX10_watch_r1 ++ (wsX10_watch_r2 ++ wsX10_watch_r3)) ++ wsX100)
def wsX10_press : List Cond := .code yX10_press cX10_press 5 (some .int) :: ([.constantLong RX10 262 (9999), .fieldLink RX10 85 "PaidBySignsModel" "presses" "[I", .methodLink RX10 253 yX10_isWork, .instanceMethod yX10_isWork, .selects RX10 yX10_isWork yX10_isWork, .initialized RX10, .code yX10_isWork cX10_isWork 2 (some .boolean), .fieldLink RX10 17 "PaidBySignsModel" "num" "[I", .methodLink RX10 174 yX10_in, .static yX10_in, .code yX10_in cX10_in 6 (some .boolean)] ++ wsX100)
def wsX10_by : List Cond := .code yX10_by cX10_by 3 (some .int) :: ([.constantLong RX10 262 (9999), .fieldLink RX10 190 "PaidBySignsModel" "lowerPress" "I", .methodLink RX10 174 yX10_in, .static yX10_in, .initialized RX10, .code yX10_in cX10_in 6 (some .boolean)] ++ wsX100)
theorem pm_X10_bar_r1 : ∀ w ∈ wsX10_bar_r1, w ∈ wsX10_bar := fun _ h => List.mem_cons_of_mem _ (List.mem_append_left _ (List.mem_append_left _ h))
theorem pm_X10_bar_r2 : ∀ w ∈ wsX10_bar_r2, w ∈ wsX10_bar := fun _ h => List.mem_cons_of_mem _ (List.mem_append_left _ (List.mem_append_right _ (List.mem_append_left _ h)))
theorem pm_X10_bar_r3 : ∀ w ∈ wsX10_bar_r3, w ∈ wsX10_bar := fun _ h => List.mem_cons_of_mem _ (List.mem_append_left _ (List.mem_append_right _ (List.mem_append_right _ (h))))
theorem pw_X10_bar_X10 : ∀ w ∈ wsX100, w ∈ wsX10_bar := fun _ h => List.mem_cons_of_mem _ (List.mem_append_right _ h)
set_option maxRecDepth 20000 in
theorem ggX10_bar_X10_isWork : GoodIn wsX10_bar wsX10_isWork := goodIn_sub (List.forall_mem_cons.mpr ⟨pm_X10_bar_r1 _ (List.mem_of_getElem? (i := 8) rfl), List.forall_mem_append.mpr ⟨List.forall_mem_cons.mpr ⟨pm_X10_bar_r1 _ (List.mem_of_getElem? (i := 0) rfl), List.forall_mem_cons.mpr ⟨pm_X10_bar_r1 _ (List.mem_of_getElem? (i := 9) rfl), List.forall_mem_cons.mpr ⟨pm_X10_bar_r1 _ (List.mem_of_getElem? (i := 10) rfl), List.forall_mem_cons.mpr ⟨pm_X10_bar_r1 _ (List.mem_of_getElem? (i := 7) rfl), List.forall_mem_cons.mpr ⟨pm_X10_bar_r1 _ (List.mem_of_getElem? (i := 11) rfl), fun _ h => absurd h List.not_mem_nil⟩⟩⟩⟩⟩, pw_X10_bar_X10⟩⟩) (by decide +kernel)
set_option maxRecDepth 20000 in
theorem gX10_bar_X10_isWork : GoodIn wsX10_bar (wsV RX10 253 RX10 yX10_isWork wsX10_isWork) := goodIn_app (goodIn_sub (List.forall_mem_cons.mpr ⟨pm_X10_bar_r1 _ (List.mem_of_getElem? (i := 4) rfl), List.forall_mem_cons.mpr ⟨pm_X10_bar_r1 _ (List.mem_of_getElem? (i := 5) rfl), List.forall_mem_cons.mpr ⟨pm_X10_bar_r1 _ (List.mem_of_getElem? (i := 6) rfl), List.forall_mem_cons.mpr ⟨pm_X10_bar_r1 _ (List.mem_of_getElem? (i := 7) rfl), fun _ h => absurd h List.not_mem_nil⟩⟩⟩⟩) (by decide +kernel)) ggX10_bar_X10_isWork
set_option maxRecDepth 20000 in
theorem ggX10_bar_X10_feel : GoodIn wsX10_bar wsX10_feel := goodIn_sub (List.forall_mem_cons.mpr ⟨pm_X10_bar_r1 _ (List.mem_of_getElem? (i := 15) rfl), List.forall_mem_append.mpr ⟨List.forall_mem_cons.mpr ⟨pm_X10_bar_r1 _ (List.mem_of_getElem? (i := 0) rfl), List.forall_mem_cons.mpr ⟨pm_X10_bar_r1 _ (List.mem_of_getElem? (i := 16) rfl), List.forall_mem_cons.mpr ⟨pm_X10_bar_r1 _ (List.mem_of_getElem? (i := 17) rfl), fun _ h => absurd h List.not_mem_nil⟩⟩⟩, pw_X10_bar_X10⟩⟩) (by decide +kernel)
set_option maxRecDepth 20000 in
theorem gX10_bar_X10_feel : GoodIn wsX10_bar (wsV RX10 264 RX10 yX10_feel wsX10_feel) := goodIn_app (goodIn_sub (List.forall_mem_cons.mpr ⟨pm_X10_bar_r1 _ (List.mem_of_getElem? (i := 12) rfl), List.forall_mem_cons.mpr ⟨pm_X10_bar_r1 _ (List.mem_of_getElem? (i := 13) rfl), List.forall_mem_cons.mpr ⟨pm_X10_bar_r1 _ (List.mem_of_getElem? (i := 14) rfl), List.forall_mem_cons.mpr ⟨pm_X10_bar_r1 _ (List.mem_of_getElem? (i := 7) rfl), fun _ h => absurd h List.not_mem_nil⟩⟩⟩⟩) (by decide +kernel)) ggX10_bar_X10_feel
set_option maxRecDepth 20000 in
theorem ggX10_bar_X10_chanceFrom : GoodIn wsX10_bar wsX10_chanceFrom := goodIn_sub (List.forall_mem_cons.mpr ⟨pm_X10_bar_r1 _ (List.mem_of_getElem? (i := 21) rfl), List.forall_mem_append.mpr ⟨List.forall_mem_cons.mpr ⟨pm_X10_bar_r1 _ (List.mem_of_getElem? (i := 0) rfl), List.forall_mem_cons.mpr ⟨pm_X10_bar_r1 _ (List.mem_of_getElem? (i := 22) rfl), List.forall_mem_cons.mpr ⟨pm_X10_bar_r1 _ (List.mem_of_getElem? (i := 23) rfl), List.forall_mem_cons.mpr ⟨pm_X10_bar_r2 _ (List.mem_of_getElem? (i := 0) rfl), List.forall_mem_cons.mpr ⟨pm_X10_bar_r2 _ (List.mem_of_getElem? (i := 1) rfl), List.forall_mem_cons.mpr ⟨pm_X10_bar_r1 _ (List.mem_of_getElem? (i := 7) rfl), List.forall_mem_cons.mpr ⟨pm_X10_bar_r2 _ (List.mem_of_getElem? (i := 2) rfl), List.forall_mem_cons.mpr ⟨pm_X10_bar_r2 _ (List.mem_of_getElem? (i := 3) rfl), fun _ h => absurd h List.not_mem_nil⟩⟩⟩⟩⟩⟩⟩⟩, pw_X10_bar_X10⟩⟩) (by decide +kernel)
set_option maxRecDepth 20000 in
theorem gX10_bar_X10_chanceFrom : GoodIn wsX10_bar (wsV RX10 389 RX10 yX10_chanceFrom wsX10_chanceFrom) := goodIn_app (goodIn_sub (List.forall_mem_cons.mpr ⟨pm_X10_bar_r1 _ (List.mem_of_getElem? (i := 18) rfl), List.forall_mem_cons.mpr ⟨pm_X10_bar_r1 _ (List.mem_of_getElem? (i := 19) rfl), List.forall_mem_cons.mpr ⟨pm_X10_bar_r1 _ (List.mem_of_getElem? (i := 20) rfl), List.forall_mem_cons.mpr ⟨pm_X10_bar_r1 _ (List.mem_of_getElem? (i := 7) rfl), fun _ h => absurd h List.not_mem_nil⟩⟩⟩⟩) (by decide +kernel)) ggX10_bar_X10_chanceFrom
set_option maxRecDepth 20000 in
theorem ggX10_bar_X10_beginSum : GoodIn wsX10_bar wsX10_beginSum := goodIn_sub (List.forall_mem_cons.mpr ⟨pm_X10_bar_r2 _ (List.mem_of_getElem? (i := 7) rfl), List.forall_mem_append.mpr ⟨List.forall_mem_cons.mpr ⟨pm_X10_bar_r1 _ (List.mem_of_getElem? (i := 0) rfl), List.forall_mem_cons.mpr ⟨pm_X10_bar_r2 _ (List.mem_of_getElem? (i := 8) rfl), List.forall_mem_cons.mpr ⟨pm_X10_bar_r2 _ (List.mem_of_getElem? (i := 9) rfl), List.forall_mem_cons.mpr ⟨pm_X10_bar_r2 _ (List.mem_of_getElem? (i := 10) rfl), List.forall_mem_cons.mpr ⟨pm_X10_bar_r2 _ (List.mem_of_getElem? (i := 11) rfl), List.forall_mem_cons.mpr ⟨pm_X10_bar_r1 _ (List.mem_of_getElem? (i := 12) rfl), List.forall_mem_cons.mpr ⟨pm_X10_bar_r1 _ (List.mem_of_getElem? (i := 13) rfl), List.forall_mem_cons.mpr ⟨pm_X10_bar_r1 _ (List.mem_of_getElem? (i := 14) rfl), List.forall_mem_cons.mpr ⟨pm_X10_bar_r1 _ (List.mem_of_getElem? (i := 7) rfl), List.forall_mem_cons.mpr ⟨pm_X10_bar_r1 _ (List.mem_of_getElem? (i := 15) rfl), List.forall_mem_cons.mpr ⟨pm_X10_bar_r1 _ (List.mem_of_getElem? (i := 16) rfl), List.forall_mem_cons.mpr ⟨pm_X10_bar_r1 _ (List.mem_of_getElem? (i := 17) rfl), fun _ h => absurd h List.not_mem_nil⟩⟩⟩⟩⟩⟩⟩⟩⟩⟩⟩⟩, pw_X10_bar_X10⟩⟩) (by decide +kernel)
set_option maxRecDepth 20000 in
theorem gX10_bar_X10_beginSum : GoodIn wsX10_bar (wsV RX10 392 RX10 yX10_beginSum wsX10_beginSum) := goodIn_app (goodIn_sub (List.forall_mem_cons.mpr ⟨pm_X10_bar_r2 _ (List.mem_of_getElem? (i := 4) rfl), List.forall_mem_cons.mpr ⟨pm_X10_bar_r2 _ (List.mem_of_getElem? (i := 5) rfl), List.forall_mem_cons.mpr ⟨pm_X10_bar_r2 _ (List.mem_of_getElem? (i := 6) rfl), List.forall_mem_cons.mpr ⟨pm_X10_bar_r1 _ (List.mem_of_getElem? (i := 7) rfl), fun _ h => absurd h List.not_mem_nil⟩⟩⟩⟩) (by decide +kernel)) ggX10_bar_X10_beginSum
set_option maxRecDepth 20000 in
theorem ggX10_bar_X10_must : GoodIn wsX10_bar wsX10_must := goodIn_sub (List.forall_mem_cons.mpr ⟨pm_X10_bar_r2 _ (List.mem_of_getElem? (i := 15) rfl), List.forall_mem_append.mpr ⟨List.forall_mem_cons.mpr ⟨pm_X10_bar_r2 _ (List.mem_of_getElem? (i := 11) rfl), List.forall_mem_cons.mpr ⟨pm_X10_bar_r2 _ (List.mem_of_getElem? (i := 8) rfl), List.forall_mem_cons.mpr ⟨pm_X10_bar_r2 _ (List.mem_of_getElem? (i := 9) rfl), List.forall_mem_cons.mpr ⟨pm_X10_bar_r2 _ (List.mem_of_getElem? (i := 10) rfl), List.forall_mem_cons.mpr ⟨pm_X10_bar_r2 _ (List.mem_of_getElem? (i := 16) rfl), List.forall_mem_cons.mpr ⟨pm_X10_bar_r2 _ (List.mem_of_getElem? (i := 17) rfl), List.forall_mem_cons.mpr ⟨pm_X10_bar_r2 _ (List.mem_of_getElem? (i := 18) rfl), List.forall_mem_cons.mpr ⟨pm_X10_bar_r1 _ (List.mem_of_getElem? (i := 7) rfl), List.forall_mem_cons.mpr ⟨pm_X10_bar_r2 _ (List.mem_of_getElem? (i := 19) rfl), fun _ h => absurd h List.not_mem_nil⟩⟩⟩⟩⟩⟩⟩⟩⟩, pw_X10_bar_X10⟩⟩) (by decide +kernel)
set_option maxRecDepth 20000 in
theorem gX10_bar_X10_must : GoodIn wsX10_bar (wsV RX10 395 RX10 yX10_must wsX10_must) := goodIn_app (goodIn_sub (List.forall_mem_cons.mpr ⟨pm_X10_bar_r2 _ (List.mem_of_getElem? (i := 12) rfl), List.forall_mem_cons.mpr ⟨pm_X10_bar_r2 _ (List.mem_of_getElem? (i := 13) rfl), List.forall_mem_cons.mpr ⟨pm_X10_bar_r2 _ (List.mem_of_getElem? (i := 14) rfl), List.forall_mem_cons.mpr ⟨pm_X10_bar_r1 _ (List.mem_of_getElem? (i := 7) rfl), fun _ h => absurd h List.not_mem_nil⟩⟩⟩⟩) (by decide +kernel)) ggX10_bar_X10_must
set_option maxRecDepth 20000 in
theorem pq_X10_bar_X10_isSum_r1 : ∀ w ∈ wsX10_isSum_r1, w ∈ wsX10_bar := List.forall_mem_cons.mpr ⟨pm_X10_bar_r2 _ (List.mem_of_getElem? (i := 11) rfl), List.forall_mem_cons.mpr ⟨pm_X10_bar_r2 _ (List.mem_of_getElem? (i := 10) rfl), List.forall_mem_cons.mpr ⟨pm_X10_bar_r2 _ (List.mem_of_getElem? (i := 8) rfl), List.forall_mem_cons.mpr ⟨pm_X10_bar_r2 _ (List.mem_of_getElem? (i := 9) rfl), List.forall_mem_cons.mpr ⟨pm_X10_bar_r2 _ (List.mem_of_getElem? (i := 16) rfl), List.forall_mem_cons.mpr ⟨pm_X10_bar_r2 _ (List.mem_of_getElem? (i := 17) rfl), List.forall_mem_cons.mpr ⟨pm_X10_bar_r2 _ (List.mem_of_getElem? (i := 18) rfl), List.forall_mem_cons.mpr ⟨pm_X10_bar_r1 _ (List.mem_of_getElem? (i := 7) rfl), List.forall_mem_cons.mpr ⟨pm_X10_bar_r2 _ (List.mem_of_getElem? (i := 19) rfl), List.forall_mem_cons.mpr ⟨pm_X10_bar_r3 _ (List.mem_of_getElem? (i := 0) rfl), List.forall_mem_cons.mpr ⟨pm_X10_bar_r3 _ (List.mem_of_getElem? (i := 1) rfl), List.forall_mem_cons.mpr ⟨pm_X10_bar_r3 _ (List.mem_of_getElem? (i := 2) rfl), List.forall_mem_cons.mpr ⟨pm_X10_bar_r3 _ (List.mem_of_getElem? (i := 3) rfl), List.forall_mem_cons.mpr ⟨pm_X10_bar_r1 _ (List.mem_of_getElem? (i := 0) rfl), List.forall_mem_cons.mpr ⟨pm_X10_bar_r1 _ (List.mem_of_getElem? (i := 16) rfl), List.forall_mem_cons.mpr ⟨pm_X10_bar_r1 _ (List.mem_of_getElem? (i := 2) rfl), List.forall_mem_cons.mpr ⟨pm_X10_bar_r1 _ (List.mem_of_getElem? (i := 17) rfl), List.forall_mem_cons.mpr ⟨pm_X10_bar_r1 _ (List.mem_of_getElem? (i := 3) rfl), List.forall_mem_cons.mpr ⟨pm_X10_bar_r1 _ (List.mem_of_getElem? (i := 12) rfl), List.forall_mem_cons.mpr ⟨pm_X10_bar_r1 _ (List.mem_of_getElem? (i := 13) rfl), List.forall_mem_cons.mpr ⟨pm_X10_bar_r1 _ (List.mem_of_getElem? (i := 14) rfl), List.forall_mem_cons.mpr ⟨pm_X10_bar_r1 _ (List.mem_of_getElem? (i := 15) rfl), List.forall_mem_cons.mpr ⟨pm_X10_bar_r3 _ (List.mem_of_getElem? (i := 4) rfl), List.forall_mem_cons.mpr ⟨pm_X10_bar_r3 _ (List.mem_of_getElem? (i := 5) rfl), fun _ h => absurd h List.not_mem_nil⟩⟩⟩⟩⟩⟩⟩⟩⟩⟩⟩⟩⟩⟩⟩⟩⟩⟩⟩⟩⟩⟩⟩⟩
set_option maxRecDepth 20000 in
theorem pq_X10_bar_X10_isSum_r2 : ∀ w ∈ wsX10_isSum_r2, w ∈ wsX10_bar := List.forall_mem_cons.mpr ⟨pm_X10_bar_r3 _ (List.mem_of_getElem? (i := 6) rfl), fun _ h => absurd h List.not_mem_nil⟩
set_option maxRecDepth 20000 in
theorem ggX10_bar_X10_isSum : GoodIn wsX10_bar wsX10_isSum := goodIn_sub (List.forall_mem_cons.mpr ⟨pm_X10_bar_r2 _ (List.mem_of_getElem? (i := 23) rfl), List.forall_mem_append.mpr ⟨List.forall_mem_append.mpr ⟨pq_X10_bar_X10_isSum_r1, pq_X10_bar_X10_isSum_r2⟩, pw_X10_bar_X10⟩⟩) (by decide +kernel)
set_option maxRecDepth 20000 in
theorem gX10_bar_X10_isSum : GoodIn wsX10_bar (wsV RX10 398 RX10 yX10_isSum wsX10_isSum) := goodIn_app (goodIn_sub (List.forall_mem_cons.mpr ⟨pm_X10_bar_r2 _ (List.mem_of_getElem? (i := 20) rfl), List.forall_mem_cons.mpr ⟨pm_X10_bar_r2 _ (List.mem_of_getElem? (i := 21) rfl), List.forall_mem_cons.mpr ⟨pm_X10_bar_r2 _ (List.mem_of_getElem? (i := 22) rfl), List.forall_mem_cons.mpr ⟨pm_X10_bar_r1 _ (List.mem_of_getElem? (i := 7) rfl), fun _ h => absurd h List.not_mem_nil⟩⟩⟩⟩) (by decide +kernel)) ggX10_bar_X10_isSum
set_option maxRecDepth 20000 in
theorem ggX10_bar_X10_apart : GoodIn wsX10_bar wsX10_apart := goodIn_sub (List.forall_mem_cons.mpr ⟨pm_X10_bar_r2 _ (List.mem_of_getElem? (i := 19) rfl), fun _ h => absurd h List.not_mem_nil⟩) (by decide +kernel)
set_option maxRecDepth 20000 in
theorem gX10_bar_X10_apart : GoodIn wsX10_bar (va_wsS RX10 331 yX10_apart wsX10_apart) := goodIn_app (goodIn_sub (List.forall_mem_cons.mpr ⟨pm_X10_bar_r2 _ (List.mem_of_getElem? (i := 17) rfl), List.forall_mem_cons.mpr ⟨pm_X10_bar_r2 _ (List.mem_of_getElem? (i := 18) rfl), List.forall_mem_cons.mpr ⟨pm_X10_bar_r1 _ (List.mem_of_getElem? (i := 7) rfl), fun _ h => absurd h List.not_mem_nil⟩⟩⟩) (by decide +kernel)) ggX10_bar_X10_apart
set_option maxRecDepth 20000 in
theorem ggX10_bar_X10_tell : GoodIn wsX10_bar wsX10_tell := goodIn_sub (List.forall_mem_cons.mpr ⟨pm_X10_bar_r3 _ (List.mem_of_getElem? (i := 10) rfl), List.forall_mem_append.mpr ⟨List.forall_mem_cons.mpr ⟨pm_X10_bar_r3 _ (List.mem_of_getElem? (i := 11) rfl), List.forall_mem_cons.mpr ⟨pm_X10_bar_r3 _ (List.mem_of_getElem? (i := 12) rfl), List.forall_mem_cons.mpr ⟨pm_X10_bar_r3 _ (List.mem_of_getElem? (i := 13) rfl), List.forall_mem_cons.mpr ⟨pm_X10_bar_r3 _ (List.mem_of_getElem? (i := 4) rfl), List.forall_mem_cons.mpr ⟨pm_X10_bar_r3 _ (List.mem_of_getElem? (i := 5) rfl), List.forall_mem_cons.mpr ⟨pm_X10_bar_r1 _ (List.mem_of_getElem? (i := 7) rfl), List.forall_mem_cons.mpr ⟨pm_X10_bar_r3 _ (List.mem_of_getElem? (i := 6) rfl), fun _ h => absurd h List.not_mem_nil⟩⟩⟩⟩⟩⟩⟩, pw_X10_bar_X10⟩⟩) (by decide +kernel)
set_option maxRecDepth 20000 in
theorem gX10_bar_X10_tell : GoodIn wsX10_bar (wsV RX10 355 RX10 yX10_tell wsX10_tell) := goodIn_app (goodIn_sub (List.forall_mem_cons.mpr ⟨pm_X10_bar_r3 _ (List.mem_of_getElem? (i := 7) rfl), List.forall_mem_cons.mpr ⟨pm_X10_bar_r3 _ (List.mem_of_getElem? (i := 8) rfl), List.forall_mem_cons.mpr ⟨pm_X10_bar_r3 _ (List.mem_of_getElem? (i := 9) rfl), List.forall_mem_cons.mpr ⟨pm_X10_bar_r1 _ (List.mem_of_getElem? (i := 7) rfl), fun _ h => absurd h List.not_mem_nil⟩⟩⟩⟩) (by decide +kernel)) ggX10_bar_X10_tell
theorem bX10_bar_0 : ((bys cX10_bar).drop 0).take 16 = [42, 27, 182, 0, 253, 154, 0, 6, 16, 254, 172, 2, 61, 9, 66, 10] := by decide +kernel
theorem dX10_bar_0 : decode cX10_bar 0 = .ok (.aload_n 0, 1) := do_42 (byt_at bX10_bar_0 (j := 0) rfl)
theorem dX10_bar_1 : decode cX10_bar 1 = .ok (.iload_n 1, 1) := do_27 (byt_at bX10_bar_0 (j := 1) rfl)
theorem dX10_bar_2 : decode cX10_bar 2 = .ok (.invokevirtual 253, 3) := do_182 0 253 (byt_at bX10_bar_0 (j := 2) rfl) (byt_at bX10_bar_0 (j := 3) rfl) (byt_at bX10_bar_0 (j := 4) rfl)
theorem dX10_bar_5 : decode cX10_bar 5 = .ok (.ifCond .ne 6, 3) := do_154 0 6 (byt_at bX10_bar_0 (j := 5) rfl) (byt_at bX10_bar_0 (j := 6) rfl) (byt_at bX10_bar_0 (j := 7) rfl) (by decide)
theorem dX10_bar_8 : decode cX10_bar 8 = .ok (.bipush (-2), 2) := do_16 254 (byt_at bX10_bar_0 (j := 8) rfl) (byt_at bX10_bar_0 (j := 9) rfl) (by decide)
theorem dX10_bar_10 : decode cX10_bar 10 = .ok (.ireturn, 1) := do_172 (byt_at bX10_bar_0 (j := 10) rfl)
theorem dX10_bar_11 : decode cX10_bar 11 = .ok (.iconst (-1), 1) := do_2 (byt_at bX10_bar_0 (j := 11) rfl)
theorem dX10_bar_12 : decode cX10_bar 12 = .ok (.istore_n 2, 1) := do_61 (byt_at bX10_bar_0 (j := 12) rfl)
theorem dX10_bar_13 : decode cX10_bar 13 = .ok (.lconst 0, 1) := do_9 (byt_at bX10_bar_0 (j := 13) rfl)
theorem dX10_bar_14 : decode cX10_bar 14 = .ok (.lstore_n 3, 1) := do_66 (byt_at bX10_bar_0 (j := 14) rfl)
theorem dX10_bar_15 : decode cX10_bar 15 = .ok (.lconst 1, 1) := do_10 (byt_at bX10_bar_0 (j := 15) rfl)
theorem bX10_bar_1 : ((bys cX10_bar).drop 16).take 16 = [55, 5, 42, 42, 180, 0, 17, 5, 46, 182, 1, 8, 133, 55, 7, 42] := by decide +kernel
theorem dX10_bar_16 : decode cX10_bar 16 = .ok (.lstore 5, 2) := do_55 5 (byt_at bX10_bar_1 (j := 0) rfl) (byt_at bX10_bar_1 (j := 1) rfl)
theorem dX10_bar_18 : decode cX10_bar 18 = .ok (.aload_n 0, 1) := do_42 (byt_at bX10_bar_1 (j := 2) rfl)
theorem dX10_bar_19 : decode cX10_bar 19 = .ok (.aload_n 0, 1) := do_42 (byt_at bX10_bar_1 (j := 3) rfl)
theorem dX10_bar_20 : decode cX10_bar 20 = .ok (.getfield 17, 3) := do_180 0 17 (byt_at bX10_bar_1 (j := 4) rfl) (byt_at bX10_bar_1 (j := 5) rfl) (byt_at bX10_bar_1 (j := 6) rfl)
theorem dX10_bar_23 : decode cX10_bar 23 = .ok (.iconst 2, 1) := do_5 (byt_at bX10_bar_1 (j := 7) rfl)
theorem dX10_bar_24 : decode cX10_bar 24 = .ok (.iaload, 1) := do_46 (byt_at bX10_bar_1 (j := 8) rfl)
theorem dX10_bar_25 : decode cX10_bar 25 = .ok (.invokevirtual 264, 3) := do_182 1 8 (byt_at bX10_bar_1 (j := 9) rfl) (byt_at bX10_bar_1 (j := 10) rfl) (byt_at bX10_bar_1 (j := 11) rfl)
theorem dX10_bar_28 : decode cX10_bar 28 = .ok (.i2l, 1) := do_133 (byt_at bX10_bar_1 (j := 12) rfl)
theorem dX10_bar_29 : decode cX10_bar 29 = .ok (.lstore 7, 2) := do_55 7 (byt_at bX10_bar_1 (j := 13) rfl) (byt_at bX10_bar_1 (j := 14) rfl)
theorem dX10_bar_31 : decode cX10_bar 31 = .ok (.aload_n 0, 1) := do_42 (byt_at bX10_bar_1 (j := 15) rfl)
theorem bX10_bar_2 : ((bys cX10_bar).drop 32).take 16 = [180, 0, 17, 3, 46, 133, 55, 9, 3, 54, 11, 21, 11, 42, 180, 0] := by decide +kernel
theorem dX10_bar_32 : decode cX10_bar 32 = .ok (.getfield 17, 3) := do_180 0 17 (byt_at bX10_bar_2 (j := 0) rfl) (byt_at bX10_bar_2 (j := 1) rfl) (byt_at bX10_bar_2 (j := 2) rfl)
theorem dX10_bar_35 : decode cX10_bar 35 = .ok (.iconst 0, 1) := do_3 (byt_at bX10_bar_2 (j := 3) rfl)
theorem dX10_bar_36 : decode cX10_bar 36 = .ok (.iaload, 1) := do_46 (byt_at bX10_bar_2 (j := 4) rfl)
theorem dX10_bar_37 : decode cX10_bar 37 = .ok (.i2l, 1) := do_133 (byt_at bX10_bar_2 (j := 5) rfl)
theorem dX10_bar_38 : decode cX10_bar 38 = .ok (.lstore 9, 2) := do_55 9 (byt_at bX10_bar_2 (j := 6) rfl) (byt_at bX10_bar_2 (j := 7) rfl)
theorem dX10_bar_40 : decode cX10_bar 40 = .ok (.iconst 0, 1) := do_3 (byt_at bX10_bar_2 (j := 8) rfl)
theorem dX10_bar_41 : decode cX10_bar 41 = .ok (.istore 11, 2) := do_54 11 (byt_at bX10_bar_2 (j := 9) rfl) (byt_at bX10_bar_2 (j := 10) rfl)
theorem dX10_bar_43 : decode cX10_bar 43 = .ok (.iload 11, 2) := do_21 11 (byt_at bX10_bar_2 (j := 11) rfl) (byt_at bX10_bar_2 (j := 12) rfl)
theorem dX10_bar_45 : decode cX10_bar 45 = .ok (.aload_n 0, 1) := do_42 (byt_at bX10_bar_2 (j := 13) rfl)
theorem bX10_bar_3 : ((bys cX10_bar).drop 48).take 16 = [17, 6, 46, 162, 0, 214, 42, 27, 21, 11, 182, 1, 133, 133, 55, 12] := by decide +kernel
theorem dX10_bar_46 : decode cX10_bar 46 = .ok (.getfield 17, 3) := do_180 0 17 (byt_at bX10_bar_2 (j := 14) rfl) (byt_at bX10_bar_2 (j := 15) rfl) (byt_at bX10_bar_3 (j := 0) rfl)
theorem dX10_bar_49 : decode cX10_bar 49 = .ok (.iconst 3, 1) := do_6 (byt_at bX10_bar_3 (j := 1) rfl)
theorem dX10_bar_50 : decode cX10_bar 50 = .ok (.iaload, 1) := do_46 (byt_at bX10_bar_3 (j := 2) rfl)
theorem dX10_bar_51 : decode cX10_bar 51 = .ok (.if_icmp .ge 214, 3) := do_162 0 214 (byt_at bX10_bar_3 (j := 3) rfl) (byt_at bX10_bar_3 (j := 4) rfl) (byt_at bX10_bar_3 (j := 5) rfl) (by decide)
theorem dX10_bar_54 : decode cX10_bar 54 = .ok (.aload_n 0, 1) := do_42 (byt_at bX10_bar_3 (j := 6) rfl)
theorem dX10_bar_55 : decode cX10_bar 55 = .ok (.iload_n 1, 1) := do_27 (byt_at bX10_bar_3 (j := 7) rfl)
theorem dX10_bar_56 : decode cX10_bar 56 = .ok (.iload 11, 2) := do_21 11 (byt_at bX10_bar_3 (j := 8) rfl) (byt_at bX10_bar_3 (j := 9) rfl)
theorem dX10_bar_58 : decode cX10_bar 58 = .ok (.invokevirtual 389, 3) := do_182 1 133 (byt_at bX10_bar_3 (j := 10) rfl) (byt_at bX10_bar_3 (j := 11) rfl) (byt_at bX10_bar_3 (j := 12) rfl)
theorem dX10_bar_61 : decode cX10_bar 61 = .ok (.i2l, 1) := do_133 (byt_at bX10_bar_3 (j := 13) rfl)
theorem dX10_bar_62 : decode cX10_bar 62 = .ok (.lstore 12, 2) := do_55 12 (byt_at bX10_bar_3 (j := 14) rfl) (byt_at bX10_bar_3 (j := 15) rfl)
theorem bX10_bar_4 : ((bys cX10_bar).drop 64).take 16 = [42, 182, 1, 136, 3, 54, 14, 21, 14, 42, 180, 0, 17, 7, 46, 162] := by decide +kernel
theorem dX10_bar_64 : decode cX10_bar 64 = .ok (.aload_n 0, 1) := do_42 (byt_at bX10_bar_4 (j := 0) rfl)
theorem dX10_bar_65 : decode cX10_bar 65 = .ok (.invokevirtual 392, 3) := do_182 1 136 (byt_at bX10_bar_4 (j := 1) rfl) (byt_at bX10_bar_4 (j := 2) rfl) (byt_at bX10_bar_4 (j := 3) rfl)
theorem dX10_bar_68 : decode cX10_bar 68 = .ok (.iconst 0, 1) := do_3 (byt_at bX10_bar_4 (j := 4) rfl)
theorem dX10_bar_69 : decode cX10_bar 69 = .ok (.istore 14, 2) := do_54 14 (byt_at bX10_bar_4 (j := 5) rfl) (byt_at bX10_bar_4 (j := 6) rfl)
theorem dX10_bar_71 : decode cX10_bar 71 = .ok (.iload 14, 2) := do_21 14 (byt_at bX10_bar_4 (j := 7) rfl) (byt_at bX10_bar_4 (j := 8) rfl)
theorem dX10_bar_73 : decode cX10_bar 73 = .ok (.aload_n 0, 1) := do_42 (byt_at bX10_bar_4 (j := 9) rfl)
theorem dX10_bar_74 : decode cX10_bar 74 = .ok (.getfield 17, 3) := do_180 0 17 (byt_at bX10_bar_4 (j := 10) rfl) (byt_at bX10_bar_4 (j := 11) rfl) (byt_at bX10_bar_4 (j := 12) rfl)
theorem dX10_bar_77 : decode cX10_bar 77 = .ok (.iconst 4, 1) := do_7 (byt_at bX10_bar_4 (j := 13) rfl)
theorem dX10_bar_78 : decode cX10_bar 78 = .ok (.iaload, 1) := do_46 (byt_at bX10_bar_4 (j := 14) rfl)
theorem bX10_bar_5 : ((bys cX10_bar).drop 80).take 16 = [0, 62, 42, 21, 14, 21, 11, 182, 1, 133, 133, 55, 15, 21, 14, 27] := by decide +kernel
theorem dX10_bar_79 : decode cX10_bar 79 = .ok (.if_icmp .ge 62, 3) := do_162 0 62 (byt_at bX10_bar_4 (j := 15) rfl) (byt_at bX10_bar_5 (j := 0) rfl) (byt_at bX10_bar_5 (j := 1) rfl) (by decide)
theorem dX10_bar_82 : decode cX10_bar 82 = .ok (.aload_n 0, 1) := do_42 (byt_at bX10_bar_5 (j := 2) rfl)
theorem dX10_bar_83 : decode cX10_bar 83 = .ok (.iload 14, 2) := do_21 14 (byt_at bX10_bar_5 (j := 3) rfl) (byt_at bX10_bar_5 (j := 4) rfl)
theorem dX10_bar_85 : decode cX10_bar 85 = .ok (.iload 11, 2) := do_21 11 (byt_at bX10_bar_5 (j := 5) rfl) (byt_at bX10_bar_5 (j := 6) rfl)
theorem dX10_bar_87 : decode cX10_bar 87 = .ok (.invokevirtual 389, 3) := do_182 1 133 (byt_at bX10_bar_5 (j := 7) rfl) (byt_at bX10_bar_5 (j := 8) rfl) (byt_at bX10_bar_5 (j := 9) rfl)
theorem dX10_bar_90 : decode cX10_bar 90 = .ok (.i2l, 1) := do_133 (byt_at bX10_bar_5 (j := 10) rfl)
theorem dX10_bar_91 : decode cX10_bar 91 = .ok (.lstore 15, 2) := do_55 15 (byt_at bX10_bar_5 (j := 11) rfl) (byt_at bX10_bar_5 (j := 12) rfl)
theorem dX10_bar_93 : decode cX10_bar 93 = .ok (.iload 14, 2) := do_21 14 (byt_at bX10_bar_5 (j := 13) rfl) (byt_at bX10_bar_5 (j := 14) rfl)
theorem dX10_bar_95 : decode cX10_bar 95 = .ok (.iload_n 1, 1) := do_27 (byt_at bX10_bar_5 (j := 15) rfl)
theorem bX10_bar_6 : ((bys cX10_bar).drop 96).take 16 = [159, 0, 39, 42, 22, 12, 22, 15, 101, 22, 9, 42, 180, 0, 31, 27] := by decide +kernel
theorem dX10_bar_96 : decode cX10_bar 96 = .ok (.if_icmp .eq 39, 3) := do_159 0 39 (byt_at bX10_bar_6 (j := 0) rfl) (byt_at bX10_bar_6 (j := 1) rfl) (byt_at bX10_bar_6 (j := 2) rfl) (by decide)
theorem dX10_bar_99 : decode cX10_bar 99 = .ok (.aload_n 0, 1) := do_42 (byt_at bX10_bar_6 (j := 3) rfl)
theorem dX10_bar_100 : decode cX10_bar 100 = .ok (.lload 12, 2) := do_22 12 (byt_at bX10_bar_6 (j := 4) rfl) (byt_at bX10_bar_6 (j := 5) rfl)
theorem dX10_bar_102 : decode cX10_bar 102 = .ok (.lload 15, 2) := do_22 15 (byt_at bX10_bar_6 (j := 6) rfl) (byt_at bX10_bar_6 (j := 7) rfl)
theorem dX10_bar_104 : decode cX10_bar 104 = .ok (.lsub, 1) := do_101 (byt_at bX10_bar_6 (j := 8) rfl)
theorem dX10_bar_105 : decode cX10_bar 105 = .ok (.lload 9, 2) := do_22 9 (byt_at bX10_bar_6 (j := 9) rfl) (byt_at bX10_bar_6 (j := 10) rfl)
theorem dX10_bar_107 : decode cX10_bar 107 = .ok (.aload_n 0, 1) := do_42 (byt_at bX10_bar_6 (j := 11) rfl)
theorem dX10_bar_108 : decode cX10_bar 108 = .ok (.getfield 31, 3) := do_180 0 31 (byt_at bX10_bar_6 (j := 12) rfl) (byt_at bX10_bar_6 (j := 13) rfl) (byt_at bX10_bar_6 (j := 14) rfl)
theorem dX10_bar_111 : decode cX10_bar 111 = .ok (.iload_n 1, 1) := do_27 (byt_at bX10_bar_6 (j := 15) rfl)
theorem bX10_bar_7 : ((bys cX10_bar).drop 112).take 16 = [46, 42, 180, 0, 31, 21, 14, 46, 100, 133, 105, 22, 12, 22, 15, 101] := by decide +kernel
theorem dX10_bar_112 : decode cX10_bar 112 = .ok (.iaload, 1) := do_46 (byt_at bX10_bar_7 (j := 0) rfl)
theorem dX10_bar_113 : decode cX10_bar 113 = .ok (.aload_n 0, 1) := do_42 (byt_at bX10_bar_7 (j := 1) rfl)
theorem dX10_bar_114 : decode cX10_bar 114 = .ok (.getfield 31, 3) := do_180 0 31 (byt_at bX10_bar_7 (j := 2) rfl) (byt_at bX10_bar_7 (j := 3) rfl) (byt_at bX10_bar_7 (j := 4) rfl)
theorem dX10_bar_117 : decode cX10_bar 117 = .ok (.iload 14, 2) := do_21 14 (byt_at bX10_bar_7 (j := 5) rfl) (byt_at bX10_bar_7 (j := 6) rfl)
theorem dX10_bar_119 : decode cX10_bar 119 = .ok (.iaload, 1) := do_46 (byt_at bX10_bar_7 (j := 7) rfl)
theorem dX10_bar_120 : decode cX10_bar 120 = .ok (.isub, 1) := do_100 (byt_at bX10_bar_7 (j := 8) rfl)
theorem dX10_bar_121 : decode cX10_bar 121 = .ok (.i2l, 1) := do_133 (byt_at bX10_bar_7 (j := 9) rfl)
theorem dX10_bar_122 : decode cX10_bar 122 = .ok (.lmul, 1) := do_105 (byt_at bX10_bar_7 (j := 10) rfl)
theorem dX10_bar_123 : decode cX10_bar 123 = .ok (.lload 12, 2) := do_22 12 (byt_at bX10_bar_7 (j := 11) rfl) (byt_at bX10_bar_7 (j := 12) rfl)
theorem dX10_bar_125 : decode cX10_bar 125 = .ok (.lload 15, 2) := do_22 15 (byt_at bX10_bar_7 (j := 13) rfl) (byt_at bX10_bar_7 (j := 14) rfl)
theorem dX10_bar_127 : decode cX10_bar 127 = .ok (.lsub, 1) := do_101 (byt_at bX10_bar_7 (j := 15) rfl)
theorem bX10_bar_8 : ((bys cX10_bar).drop 128).take 16 = [22, 7, 105, 97, 182, 1, 139, 132, 14, 1, 167, 255, 189, 42, 22, 12] := by decide +kernel
theorem dX10_bar_128 : decode cX10_bar 128 = .ok (.lload 7, 2) := do_22 7 (byt_at bX10_bar_8 (j := 0) rfl) (byt_at bX10_bar_8 (j := 1) rfl)
theorem dX10_bar_130 : decode cX10_bar 130 = .ok (.lmul, 1) := do_105 (byt_at bX10_bar_8 (j := 2) rfl)
theorem dX10_bar_131 : decode cX10_bar 131 = .ok (.ladd, 1) := do_97 (byt_at bX10_bar_8 (j := 3) rfl)
theorem dX10_bar_132 : decode cX10_bar 132 = .ok (.invokevirtual 395, 3) := do_182 1 139 (byt_at bX10_bar_8 (j := 4) rfl) (byt_at bX10_bar_8 (j := 5) rfl) (byt_at bX10_bar_8 (j := 6) rfl)
theorem dX10_bar_135 : decode cX10_bar 135 = .ok (.iinc 14 1, 3) := do_132 14 1 (byt_at bX10_bar_8 (j := 7) rfl) (byt_at bX10_bar_8 (j := 8) rfl) (byt_at bX10_bar_8 (j := 9) rfl) (by decide)
theorem dX10_bar_138 : decode cX10_bar 138 = .ok (.goto (-67), 3) := do_167 255 189 (byt_at bX10_bar_8 (j := 10) rfl) (byt_at bX10_bar_8 (j := 11) rfl) (byt_at bX10_bar_8 (j := 12) rfl) (by decide)
theorem dX10_bar_141 : decode cX10_bar 141 = .ok (.aload_n 0, 1) := do_42 (byt_at bX10_bar_8 (j := 13) rfl)
theorem dX10_bar_142 : decode cX10_bar 142 = .ok (.lload 12, 2) := do_22 12 (byt_at bX10_bar_8 (j := 14) rfl) (byt_at bX10_bar_8 (j := 15) rfl)
theorem bX10_bar_9 : ((bys cX10_bar).drop 144).take 16 = [22, 9, 42, 180, 0, 31, 27, 46, 42, 180, 0, 17, 4, 46, 96, 133] := by decide +kernel
theorem dX10_bar_144 : decode cX10_bar 144 = .ok (.lload 9, 2) := do_22 9 (byt_at bX10_bar_9 (j := 0) rfl) (byt_at bX10_bar_9 (j := 1) rfl)
theorem dX10_bar_146 : decode cX10_bar 146 = .ok (.aload_n 0, 1) := do_42 (byt_at bX10_bar_9 (j := 2) rfl)
theorem dX10_bar_147 : decode cX10_bar 147 = .ok (.getfield 31, 3) := do_180 0 31 (byt_at bX10_bar_9 (j := 3) rfl) (byt_at bX10_bar_9 (j := 4) rfl) (byt_at bX10_bar_9 (j := 5) rfl)
theorem dX10_bar_150 : decode cX10_bar 150 = .ok (.iload_n 1, 1) := do_27 (byt_at bX10_bar_9 (j := 6) rfl)
theorem dX10_bar_151 : decode cX10_bar 151 = .ok (.iaload, 1) := do_46 (byt_at bX10_bar_9 (j := 7) rfl)
theorem dX10_bar_152 : decode cX10_bar 152 = .ok (.aload_n 0, 1) := do_42 (byt_at bX10_bar_9 (j := 8) rfl)
theorem dX10_bar_153 : decode cX10_bar 153 = .ok (.getfield 17, 3) := do_180 0 17 (byt_at bX10_bar_9 (j := 9) rfl) (byt_at bX10_bar_9 (j := 10) rfl) (byt_at bX10_bar_9 (j := 11) rfl)
theorem dX10_bar_156 : decode cX10_bar 156 = .ok (.iconst 1, 1) := do_4 (byt_at bX10_bar_9 (j := 12) rfl)
theorem dX10_bar_157 : decode cX10_bar 157 = .ok (.iaload, 1) := do_46 (byt_at bX10_bar_9 (j := 13) rfl)
theorem dX10_bar_158 : decode cX10_bar 158 = .ok (.iadd, 1) := do_96 (byt_at bX10_bar_9 (j := 14) rfl)
theorem dX10_bar_159 : decode cX10_bar 159 = .ok (.i2l, 1) := do_133 (byt_at bX10_bar_9 (j := 15) rfl)
theorem bX10_bar_10 : ((bys cX10_bar).drop 160).take 16 = [105, 22, 9, 22, 12, 101, 22, 7, 105, 101, 182, 1, 139, 42, 182, 1] := by decide +kernel
theorem dX10_bar_160 : decode cX10_bar 160 = .ok (.lmul, 1) := do_105 (byt_at bX10_bar_10 (j := 0) rfl)
theorem dX10_bar_161 : decode cX10_bar 161 = .ok (.lload 9, 2) := do_22 9 (byt_at bX10_bar_10 (j := 1) rfl) (byt_at bX10_bar_10 (j := 2) rfl)
theorem dX10_bar_163 : decode cX10_bar 163 = .ok (.lload 12, 2) := do_22 12 (byt_at bX10_bar_10 (j := 3) rfl) (byt_at bX10_bar_10 (j := 4) rfl)
theorem dX10_bar_165 : decode cX10_bar 165 = .ok (.lsub, 1) := do_101 (byt_at bX10_bar_10 (j := 5) rfl)
theorem dX10_bar_166 : decode cX10_bar 166 = .ok (.lload 7, 2) := do_22 7 (byt_at bX10_bar_10 (j := 6) rfl) (byt_at bX10_bar_10 (j := 7) rfl)
theorem dX10_bar_168 : decode cX10_bar 168 = .ok (.lmul, 1) := do_105 (byt_at bX10_bar_10 (j := 8) rfl)
theorem dX10_bar_169 : decode cX10_bar 169 = .ok (.lsub, 1) := do_101 (byt_at bX10_bar_10 (j := 9) rfl)
theorem dX10_bar_170 : decode cX10_bar 170 = .ok (.invokevirtual 395, 3) := do_182 1 139 (byt_at bX10_bar_10 (j := 10) rfl) (byt_at bX10_bar_10 (j := 11) rfl) (byt_at bX10_bar_10 (j := 12) rfl)
theorem dX10_bar_173 : decode cX10_bar 173 = .ok (.aload_n 0, 1) := do_42 (byt_at bX10_bar_10 (j := 13) rfl)
theorem bX10_bar_11 : ((bys cX10_bar).drop 176).take 16 = [142, 154, 0, 6, 167, 0, 79, 22, 12, 42, 180, 0, 64, 3, 47, 105] := by decide +kernel
theorem dX10_bar_174 : decode cX10_bar 174 = .ok (.invokevirtual 398, 3) := do_182 1 142 (byt_at bX10_bar_10 (j := 14) rfl) (byt_at bX10_bar_10 (j := 15) rfl) (byt_at bX10_bar_11 (j := 0) rfl)
theorem dX10_bar_177 : decode cX10_bar 177 = .ok (.ifCond .ne 6, 3) := do_154 0 6 (byt_at bX10_bar_11 (j := 1) rfl) (byt_at bX10_bar_11 (j := 2) rfl) (byt_at bX10_bar_11 (j := 3) rfl) (by decide)
theorem dX10_bar_180 : decode cX10_bar 180 = .ok (.goto 79, 3) := do_167 0 79 (byt_at bX10_bar_11 (j := 4) rfl) (byt_at bX10_bar_11 (j := 5) rfl) (byt_at bX10_bar_11 (j := 6) rfl) (by decide)
theorem dX10_bar_183 : decode cX10_bar 183 = .ok (.lload 12, 2) := do_22 12 (byt_at bX10_bar_11 (j := 7) rfl) (byt_at bX10_bar_11 (j := 8) rfl)
theorem dX10_bar_185 : decode cX10_bar 185 = .ok (.aload_n 0, 1) := do_42 (byt_at bX10_bar_11 (j := 9) rfl)
theorem dX10_bar_186 : decode cX10_bar 186 = .ok (.getfield 64, 3) := do_180 0 64 (byt_at bX10_bar_11 (j := 10) rfl) (byt_at bX10_bar_11 (j := 11) rfl) (byt_at bX10_bar_11 (j := 12) rfl)
theorem dX10_bar_189 : decode cX10_bar 189 = .ok (.iconst 0, 1) := do_3 (byt_at bX10_bar_11 (j := 13) rfl)
theorem dX10_bar_190 : decode cX10_bar 190 = .ok (.laload, 1) := do_47 (byt_at bX10_bar_11 (j := 14) rfl)
theorem dX10_bar_191 : decode cX10_bar 191 = .ok (.lmul, 1) := do_105 (byt_at bX10_bar_11 (j := 15) rfl)
theorem bX10_bar_12 : ((bys cX10_bar).drop 192).take 16 = [22, 9, 22, 12, 101, 42, 180, 0, 17, 5, 46, 133, 105, 42, 180, 0] := by decide +kernel
theorem dX10_bar_192 : decode cX10_bar 192 = .ok (.lload 9, 2) := do_22 9 (byt_at bX10_bar_12 (j := 0) rfl) (byt_at bX10_bar_12 (j := 1) rfl)
theorem dX10_bar_194 : decode cX10_bar 194 = .ok (.lload 12, 2) := do_22 12 (byt_at bX10_bar_12 (j := 2) rfl) (byt_at bX10_bar_12 (j := 3) rfl)
theorem dX10_bar_196 : decode cX10_bar 196 = .ok (.lsub, 1) := do_101 (byt_at bX10_bar_12 (j := 4) rfl)
theorem dX10_bar_197 : decode cX10_bar 197 = .ok (.aload_n 0, 1) := do_42 (byt_at bX10_bar_12 (j := 5) rfl)
theorem dX10_bar_198 : decode cX10_bar 198 = .ok (.getfield 17, 3) := do_180 0 17 (byt_at bX10_bar_12 (j := 6) rfl) (byt_at bX10_bar_12 (j := 7) rfl) (byt_at bX10_bar_12 (j := 8) rfl)
theorem dX10_bar_201 : decode cX10_bar 201 = .ok (.iconst 2, 1) := do_5 (byt_at bX10_bar_12 (j := 9) rfl)
theorem dX10_bar_202 : decode cX10_bar 202 = .ok (.iaload, 1) := do_46 (byt_at bX10_bar_12 (j := 10) rfl)
theorem dX10_bar_203 : decode cX10_bar 203 = .ok (.i2l, 1) := do_133 (byt_at bX10_bar_12 (j := 11) rfl)
theorem dX10_bar_204 : decode cX10_bar 204 = .ok (.lmul, 1) := do_105 (byt_at bX10_bar_12 (j := 12) rfl)
theorem dX10_bar_205 : decode cX10_bar 205 = .ok (.aload_n 0, 1) := do_42 (byt_at bX10_bar_12 (j := 13) rfl)
theorem bX10_bar_13 : ((bys cX10_bar).drop 208).take 16 = [67, 3, 47, 105, 97, 55, 14, 22, 9, 42, 180, 0, 67, 3, 47, 105] := by decide +kernel
theorem dX10_bar_206 : decode cX10_bar 206 = .ok (.getfield 67, 3) := do_180 0 67 (byt_at bX10_bar_12 (j := 14) rfl) (byt_at bX10_bar_12 (j := 15) rfl) (byt_at bX10_bar_13 (j := 0) rfl)
theorem dX10_bar_209 : decode cX10_bar 209 = .ok (.iconst 0, 1) := do_3 (byt_at bX10_bar_13 (j := 1) rfl)
theorem dX10_bar_210 : decode cX10_bar 210 = .ok (.laload, 1) := do_47 (byt_at bX10_bar_13 (j := 2) rfl)
theorem dX10_bar_211 : decode cX10_bar 211 = .ok (.lmul, 1) := do_105 (byt_at bX10_bar_13 (j := 3) rfl)
theorem dX10_bar_212 : decode cX10_bar 212 = .ok (.ladd, 1) := do_97 (byt_at bX10_bar_13 (j := 4) rfl)
theorem dX10_bar_213 : decode cX10_bar 213 = .ok (.lstore 14, 2) := do_55 14 (byt_at bX10_bar_13 (j := 5) rfl) (byt_at bX10_bar_13 (j := 6) rfl)
theorem dX10_bar_215 : decode cX10_bar 215 = .ok (.lload 9, 2) := do_22 9 (byt_at bX10_bar_13 (j := 7) rfl) (byt_at bX10_bar_13 (j := 8) rfl)
theorem dX10_bar_217 : decode cX10_bar 217 = .ok (.aload_n 0, 1) := do_42 (byt_at bX10_bar_13 (j := 9) rfl)
theorem dX10_bar_218 : decode cX10_bar 218 = .ok (.getfield 67, 3) := do_180 0 67 (byt_at bX10_bar_13 (j := 10) rfl) (byt_at bX10_bar_13 (j := 11) rfl) (byt_at bX10_bar_13 (j := 12) rfl)
theorem dX10_bar_221 : decode cX10_bar 221 = .ok (.iconst 0, 1) := do_3 (byt_at bX10_bar_13 (j := 13) rfl)
theorem dX10_bar_222 : decode cX10_bar 222 = .ok (.laload, 1) := do_47 (byt_at bX10_bar_13 (j := 14) rfl)
theorem dX10_bar_223 : decode cX10_bar 223 = .ok (.lmul, 1) := do_105 (byt_at bX10_bar_13 (j := 15) rfl)
theorem bX10_bar_14 : ((bys cX10_bar).drop 224).take 16 = [55, 16, 28, 2, 159, 0, 21, 22, 14, 22, 16, 33, 22, 5, 184, 1] := by decide +kernel
theorem dX10_bar_224 : decode cX10_bar 224 = .ok (.lstore 16, 2) := do_55 16 (byt_at bX10_bar_14 (j := 0) rfl) (byt_at bX10_bar_14 (j := 1) rfl)
theorem dX10_bar_226 : decode cX10_bar 226 = .ok (.iload_n 2, 1) := do_28 (byt_at bX10_bar_14 (j := 2) rfl)
theorem dX10_bar_227 : decode cX10_bar 227 = .ok (.iconst (-1), 1) := do_2 (byt_at bX10_bar_14 (j := 3) rfl)
theorem dX10_bar_228 : decode cX10_bar 228 = .ok (.if_icmp .eq 21, 3) := do_159 0 21 (byt_at bX10_bar_14 (j := 4) rfl) (byt_at bX10_bar_14 (j := 5) rfl) (byt_at bX10_bar_14 (j := 6) rfl) (by decide)
theorem dX10_bar_231 : decode cX10_bar 231 = .ok (.lload 14, 2) := do_22 14 (byt_at bX10_bar_14 (j := 7) rfl) (byt_at bX10_bar_14 (j := 8) rfl)
theorem dX10_bar_233 : decode cX10_bar 233 = .ok (.lload 16, 2) := do_22 16 (byt_at bX10_bar_14 (j := 9) rfl) (byt_at bX10_bar_14 (j := 10) rfl)
theorem dX10_bar_235 : decode cX10_bar 235 = .ok (.lload_n 3, 1) := do_33 (byt_at bX10_bar_14 (j := 11) rfl)
theorem dX10_bar_236 : decode cX10_bar 236 = .ok (.lload 5, 2) := do_22 5 (byt_at bX10_bar_14 (j := 12) rfl) (byt_at bX10_bar_14 (j := 13) rfl)
theorem bX10_bar_15 : ((bys cX10_bar).drop 240).take 16 = [75, 9, 148, 155, 0, 6, 167, 0, 13, 21, 11, 61, 22, 14, 66, 22] := by decide +kernel
theorem dX10_bar_238 : decode cX10_bar 238 = .ok (.invokestatic 331, 3) := do_184 1 75 (byt_at bX10_bar_14 (j := 14) rfl) (byt_at bX10_bar_14 (j := 15) rfl) (byt_at bX10_bar_15 (j := 0) rfl)
theorem dX10_bar_241 : decode cX10_bar 241 = .ok (.lconst 0, 1) := do_9 (byt_at bX10_bar_15 (j := 1) rfl)
theorem dX10_bar_242 : decode cX10_bar 242 = .ok (.lcmp, 1) := do_148 (byt_at bX10_bar_15 (j := 2) rfl)
theorem dX10_bar_243 : decode cX10_bar 243 = .ok (.ifCond .lt 6, 3) := do_155 0 6 (byt_at bX10_bar_15 (j := 3) rfl) (byt_at bX10_bar_15 (j := 4) rfl) (byt_at bX10_bar_15 (j := 5) rfl) (by decide)
theorem dX10_bar_246 : decode cX10_bar 246 = .ok (.goto 13, 3) := do_167 0 13 (byt_at bX10_bar_15 (j := 6) rfl) (byt_at bX10_bar_15 (j := 7) rfl) (byt_at bX10_bar_15 (j := 8) rfl) (by decide)
theorem dX10_bar_249 : decode cX10_bar 249 = .ok (.iload 11, 2) := do_21 11 (byt_at bX10_bar_15 (j := 9) rfl) (byt_at bX10_bar_15 (j := 10) rfl)
theorem dX10_bar_251 : decode cX10_bar 251 = .ok (.istore_n 2, 1) := do_61 (byt_at bX10_bar_15 (j := 11) rfl)
theorem dX10_bar_252 : decode cX10_bar 252 = .ok (.lload 14, 2) := do_22 14 (byt_at bX10_bar_15 (j := 12) rfl) (byt_at bX10_bar_15 (j := 13) rfl)
theorem dX10_bar_254 : decode cX10_bar 254 = .ok (.lstore_n 3, 1) := do_66 (byt_at bX10_bar_15 (j := 14) rfl)
theorem bX10_bar_16 : ((bys cX10_bar).drop 256).take 16 = [16, 55, 5, 132, 11, 1, 167, 255, 37, 28, 2, 159, 0, 10, 42, 33] := by decide +kernel
theorem dX10_bar_255 : decode cX10_bar 255 = .ok (.lload 16, 2) := do_22 16 (byt_at bX10_bar_15 (j := 15) rfl) (byt_at bX10_bar_16 (j := 0) rfl)
theorem dX10_bar_257 : decode cX10_bar 257 = .ok (.lstore 5, 2) := do_55 5 (byt_at bX10_bar_16 (j := 1) rfl) (byt_at bX10_bar_16 (j := 2) rfl)
theorem dX10_bar_259 : decode cX10_bar 259 = .ok (.iinc 11 1, 3) := do_132 11 1 (byt_at bX10_bar_16 (j := 3) rfl) (byt_at bX10_bar_16 (j := 4) rfl) (byt_at bX10_bar_16 (j := 5) rfl) (by decide)
theorem dX10_bar_262 : decode cX10_bar 262 = .ok (.goto (-219), 3) := do_167 255 37 (byt_at bX10_bar_16 (j := 6) rfl) (byt_at bX10_bar_16 (j := 7) rfl) (byt_at bX10_bar_16 (j := 8) rfl) (by decide)
theorem dX10_bar_265 : decode cX10_bar 265 = .ok (.iload_n 2, 1) := do_28 (byt_at bX10_bar_16 (j := 9) rfl)
theorem dX10_bar_266 : decode cX10_bar 266 = .ok (.iconst (-1), 1) := do_2 (byt_at bX10_bar_16 (j := 10) rfl)
theorem dX10_bar_267 : decode cX10_bar 267 = .ok (.if_icmp .eq 10, 3) := do_159 0 10 (byt_at bX10_bar_16 (j := 11) rfl) (byt_at bX10_bar_16 (j := 12) rfl) (byt_at bX10_bar_16 (j := 13) rfl) (by decide)
theorem dX10_bar_270 : decode cX10_bar 270 = .ok (.aload_n 0, 1) := do_42 (byt_at bX10_bar_16 (j := 14) rfl)
theorem dX10_bar_271 : decode cX10_bar 271 = .ok (.lload_n 3, 1) := do_33 (byt_at bX10_bar_16 (j := 15) rfl)
theorem bX10_bar_17 : ((bys cX10_bar).drop 272).take 16 = [22, 5, 182, 1, 99, 28, 172] := by decide +kernel
theorem dX10_bar_272 : decode cX10_bar 272 = .ok (.lload 5, 2) := do_22 5 (byt_at bX10_bar_17 (j := 0) rfl) (byt_at bX10_bar_17 (j := 1) rfl)
theorem dX10_bar_274 : decode cX10_bar 274 = .ok (.invokevirtual 355, 3) := do_182 1 99 (byt_at bX10_bar_17 (j := 2) rfl) (byt_at bX10_bar_17 (j := 3) rfl) (byt_at bX10_bar_17 (j := 4) rfl)
theorem dX10_bar_277 : decode cX10_bar 277 = .ok (.iload_n 2, 1) := do_28 (byt_at bX10_bar_17 (j := 5) rfl)
theorem dX10_bar_278 : decode cX10_bar 278 = .ok (.ireturn, 1) := do_172 (byt_at bX10_bar_17 (j := 6) rfl)
theorem pm_X10_crew_r1 : ∀ w ∈ wsX10_crew_r1, w ∈ wsX10_crew := fun _ h => List.mem_cons_of_mem _ (List.mem_append_left _ (List.mem_append_left _ h))
theorem pm_X10_crew_r2 : ∀ w ∈ wsX10_crew_r2, w ∈ wsX10_crew := fun _ h => List.mem_cons_of_mem _ (List.mem_append_left _ (List.mem_append_right _ (List.mem_append_left _ h)))
theorem pm_X10_crew_r3 : ∀ w ∈ wsX10_crew_r3, w ∈ wsX10_crew := fun _ h => List.mem_cons_of_mem _ (List.mem_append_left _ (List.mem_append_right _ (List.mem_append_right _ (h))))
theorem pw_X10_crew_X10 : ∀ w ∈ wsX100, w ∈ wsX10_crew := fun _ h => List.mem_cons_of_mem _ (List.mem_append_right _ h)
set_option maxRecDepth 20000 in
theorem ggX10_crew_X10_isWork : GoodIn wsX10_crew wsX10_isWork := goodIn_sub (List.forall_mem_cons.mpr ⟨pm_X10_crew_r1 _ (List.mem_of_getElem? (i := 8) rfl), List.forall_mem_append.mpr ⟨List.forall_mem_cons.mpr ⟨pm_X10_crew_r1 _ (List.mem_of_getElem? (i := 0) rfl), List.forall_mem_cons.mpr ⟨pm_X10_crew_r1 _ (List.mem_of_getElem? (i := 9) rfl), List.forall_mem_cons.mpr ⟨pm_X10_crew_r1 _ (List.mem_of_getElem? (i := 10) rfl), List.forall_mem_cons.mpr ⟨pm_X10_crew_r1 _ (List.mem_of_getElem? (i := 7) rfl), List.forall_mem_cons.mpr ⟨pm_X10_crew_r1 _ (List.mem_of_getElem? (i := 11) rfl), fun _ h => absurd h List.not_mem_nil⟩⟩⟩⟩⟩, pw_X10_crew_X10⟩⟩) (by decide +kernel)
set_option maxRecDepth 20000 in
theorem gX10_crew_X10_isWork : GoodIn wsX10_crew (wsV RX10 253 RX10 yX10_isWork wsX10_isWork) := goodIn_app (goodIn_sub (List.forall_mem_cons.mpr ⟨pm_X10_crew_r1 _ (List.mem_of_getElem? (i := 4) rfl), List.forall_mem_cons.mpr ⟨pm_X10_crew_r1 _ (List.mem_of_getElem? (i := 5) rfl), List.forall_mem_cons.mpr ⟨pm_X10_crew_r1 _ (List.mem_of_getElem? (i := 6) rfl), List.forall_mem_cons.mpr ⟨pm_X10_crew_r1 _ (List.mem_of_getElem? (i := 7) rfl), fun _ h => absurd h List.not_mem_nil⟩⟩⟩⟩) (by decide +kernel)) ggX10_crew_X10_isWork
set_option maxRecDepth 20000 in
theorem ggX10_crew_X10_isSign : GoodIn wsX10_crew wsX10_isSign := goodIn_sub (List.forall_mem_cons.mpr ⟨pm_X10_crew_r1 _ (List.mem_of_getElem? (i := 15) rfl), List.forall_mem_append.mpr ⟨List.forall_mem_cons.mpr ⟨pm_X10_crew_r1 _ (List.mem_of_getElem? (i := 0) rfl), List.forall_mem_cons.mpr ⟨pm_X10_crew_r1 _ (List.mem_of_getElem? (i := 9) rfl), List.forall_mem_cons.mpr ⟨pm_X10_crew_r1 _ (List.mem_of_getElem? (i := 10) rfl), List.forall_mem_cons.mpr ⟨pm_X10_crew_r1 _ (List.mem_of_getElem? (i := 7) rfl), List.forall_mem_cons.mpr ⟨pm_X10_crew_r1 _ (List.mem_of_getElem? (i := 11) rfl), fun _ h => absurd h List.not_mem_nil⟩⟩⟩⟩⟩, pw_X10_crew_X10⟩⟩) (by decide +kernel)
set_option maxRecDepth 20000 in
theorem gX10_crew_X10_isSign : GoodIn wsX10_crew (wsV RX10 256 RX10 yX10_isSign wsX10_isSign) := goodIn_app (goodIn_sub (List.forall_mem_cons.mpr ⟨pm_X10_crew_r1 _ (List.mem_of_getElem? (i := 12) rfl), List.forall_mem_cons.mpr ⟨pm_X10_crew_r1 _ (List.mem_of_getElem? (i := 13) rfl), List.forall_mem_cons.mpr ⟨pm_X10_crew_r1 _ (List.mem_of_getElem? (i := 14) rfl), List.forall_mem_cons.mpr ⟨pm_X10_crew_r1 _ (List.mem_of_getElem? (i := 7) rfl), fun _ h => absurd h List.not_mem_nil⟩⟩⟩⟩) (by decide +kernel)) ggX10_crew_X10_isSign
set_option maxRecDepth 20000 in
theorem ggX10_crew_X10_chanceFrom : GoodIn wsX10_crew wsX10_chanceFrom := goodIn_sub (List.forall_mem_cons.mpr ⟨pm_X10_crew_r1 _ (List.mem_of_getElem? (i := 19) rfl), List.forall_mem_append.mpr ⟨List.forall_mem_cons.mpr ⟨pm_X10_crew_r1 _ (List.mem_of_getElem? (i := 0) rfl), List.forall_mem_cons.mpr ⟨pm_X10_crew_r1 _ (List.mem_of_getElem? (i := 20) rfl), List.forall_mem_cons.mpr ⟨pm_X10_crew_r1 _ (List.mem_of_getElem? (i := 21) rfl), List.forall_mem_cons.mpr ⟨pm_X10_crew_r1 _ (List.mem_of_getElem? (i := 22) rfl), List.forall_mem_cons.mpr ⟨pm_X10_crew_r1 _ (List.mem_of_getElem? (i := 23) rfl), List.forall_mem_cons.mpr ⟨pm_X10_crew_r1 _ (List.mem_of_getElem? (i := 7) rfl), List.forall_mem_cons.mpr ⟨pm_X10_crew_r2 _ (List.mem_of_getElem? (i := 0) rfl), List.forall_mem_cons.mpr ⟨pm_X10_crew_r2 _ (List.mem_of_getElem? (i := 1) rfl), fun _ h => absurd h List.not_mem_nil⟩⟩⟩⟩⟩⟩⟩⟩, pw_X10_crew_X10⟩⟩) (by decide +kernel)
set_option maxRecDepth 20000 in
theorem gX10_crew_X10_chanceFrom : GoodIn wsX10_crew (wsV RX10 389 RX10 yX10_chanceFrom wsX10_chanceFrom) := goodIn_app (goodIn_sub (List.forall_mem_cons.mpr ⟨pm_X10_crew_r1 _ (List.mem_of_getElem? (i := 16) rfl), List.forall_mem_cons.mpr ⟨pm_X10_crew_r1 _ (List.mem_of_getElem? (i := 17) rfl), List.forall_mem_cons.mpr ⟨pm_X10_crew_r1 _ (List.mem_of_getElem? (i := 18) rfl), List.forall_mem_cons.mpr ⟨pm_X10_crew_r1 _ (List.mem_of_getElem? (i := 7) rfl), fun _ h => absurd h List.not_mem_nil⟩⟩⟩⟩) (by decide +kernel)) ggX10_crew_X10_chanceFrom
set_option maxRecDepth 20000 in
theorem ggX10_crew_X10_feel : GoodIn wsX10_crew wsX10_feel := goodIn_sub (List.forall_mem_cons.mpr ⟨pm_X10_crew_r2 _ (List.mem_of_getElem? (i := 5) rfl), List.forall_mem_append.mpr ⟨List.forall_mem_cons.mpr ⟨pm_X10_crew_r1 _ (List.mem_of_getElem? (i := 0) rfl), List.forall_mem_cons.mpr ⟨pm_X10_crew_r2 _ (List.mem_of_getElem? (i := 6) rfl), List.forall_mem_cons.mpr ⟨pm_X10_crew_r2 _ (List.mem_of_getElem? (i := 7) rfl), fun _ h => absurd h List.not_mem_nil⟩⟩⟩, pw_X10_crew_X10⟩⟩) (by decide +kernel)
set_option maxRecDepth 20000 in
theorem gX10_crew_X10_feel : GoodIn wsX10_crew (wsV RX10 264 RX10 yX10_feel wsX10_feel) := goodIn_app (goodIn_sub (List.forall_mem_cons.mpr ⟨pm_X10_crew_r2 _ (List.mem_of_getElem? (i := 2) rfl), List.forall_mem_cons.mpr ⟨pm_X10_crew_r2 _ (List.mem_of_getElem? (i := 3) rfl), List.forall_mem_cons.mpr ⟨pm_X10_crew_r2 _ (List.mem_of_getElem? (i := 4) rfl), List.forall_mem_cons.mpr ⟨pm_X10_crew_r1 _ (List.mem_of_getElem? (i := 7) rfl), fun _ h => absurd h List.not_mem_nil⟩⟩⟩⟩) (by decide +kernel)) ggX10_crew_X10_feel
set_option maxRecDepth 20000 in
theorem ggX10_crew_X10_beginSum : GoodIn wsX10_crew wsX10_beginSum := goodIn_sub (List.forall_mem_cons.mpr ⟨pm_X10_crew_r2 _ (List.mem_of_getElem? (i := 11) rfl), List.forall_mem_append.mpr ⟨List.forall_mem_cons.mpr ⟨pm_X10_crew_r1 _ (List.mem_of_getElem? (i := 0) rfl), List.forall_mem_cons.mpr ⟨pm_X10_crew_r2 _ (List.mem_of_getElem? (i := 12) rfl), List.forall_mem_cons.mpr ⟨pm_X10_crew_r2 _ (List.mem_of_getElem? (i := 13) rfl), List.forall_mem_cons.mpr ⟨pm_X10_crew_r2 _ (List.mem_of_getElem? (i := 14) rfl), List.forall_mem_cons.mpr ⟨pm_X10_crew_r2 _ (List.mem_of_getElem? (i := 15) rfl), List.forall_mem_cons.mpr ⟨pm_X10_crew_r2 _ (List.mem_of_getElem? (i := 2) rfl), List.forall_mem_cons.mpr ⟨pm_X10_crew_r2 _ (List.mem_of_getElem? (i := 3) rfl), List.forall_mem_cons.mpr ⟨pm_X10_crew_r2 _ (List.mem_of_getElem? (i := 4) rfl), List.forall_mem_cons.mpr ⟨pm_X10_crew_r1 _ (List.mem_of_getElem? (i := 7) rfl), List.forall_mem_cons.mpr ⟨pm_X10_crew_r2 _ (List.mem_of_getElem? (i := 5) rfl), List.forall_mem_cons.mpr ⟨pm_X10_crew_r2 _ (List.mem_of_getElem? (i := 6) rfl), List.forall_mem_cons.mpr ⟨pm_X10_crew_r2 _ (List.mem_of_getElem? (i := 7) rfl), fun _ h => absurd h List.not_mem_nil⟩⟩⟩⟩⟩⟩⟩⟩⟩⟩⟩⟩, pw_X10_crew_X10⟩⟩) (by decide +kernel)
set_option maxRecDepth 20000 in
theorem gX10_crew_X10_beginSum : GoodIn wsX10_crew (wsV RX10 392 RX10 yX10_beginSum wsX10_beginSum) := goodIn_app (goodIn_sub (List.forall_mem_cons.mpr ⟨pm_X10_crew_r2 _ (List.mem_of_getElem? (i := 8) rfl), List.forall_mem_cons.mpr ⟨pm_X10_crew_r2 _ (List.mem_of_getElem? (i := 9) rfl), List.forall_mem_cons.mpr ⟨pm_X10_crew_r2 _ (List.mem_of_getElem? (i := 10) rfl), List.forall_mem_cons.mpr ⟨pm_X10_crew_r1 _ (List.mem_of_getElem? (i := 7) rfl), fun _ h => absurd h List.not_mem_nil⟩⟩⟩⟩) (by decide +kernel)) ggX10_crew_X10_beginSum
set_option maxRecDepth 20000 in
theorem ggX10_crew_X10_must : GoodIn wsX10_crew wsX10_must := goodIn_sub (List.forall_mem_cons.mpr ⟨pm_X10_crew_r2 _ (List.mem_of_getElem? (i := 19) rfl), List.forall_mem_append.mpr ⟨List.forall_mem_cons.mpr ⟨pm_X10_crew_r2 _ (List.mem_of_getElem? (i := 15) rfl), List.forall_mem_cons.mpr ⟨pm_X10_crew_r2 _ (List.mem_of_getElem? (i := 12) rfl), List.forall_mem_cons.mpr ⟨pm_X10_crew_r2 _ (List.mem_of_getElem? (i := 13) rfl), List.forall_mem_cons.mpr ⟨pm_X10_crew_r2 _ (List.mem_of_getElem? (i := 14) rfl), List.forall_mem_cons.mpr ⟨pm_X10_crew_r2 _ (List.mem_of_getElem? (i := 20) rfl), List.forall_mem_cons.mpr ⟨pm_X10_crew_r2 _ (List.mem_of_getElem? (i := 21) rfl), List.forall_mem_cons.mpr ⟨pm_X10_crew_r2 _ (List.mem_of_getElem? (i := 22) rfl), List.forall_mem_cons.mpr ⟨pm_X10_crew_r1 _ (List.mem_of_getElem? (i := 7) rfl), List.forall_mem_cons.mpr ⟨pm_X10_crew_r2 _ (List.mem_of_getElem? (i := 23) rfl), fun _ h => absurd h List.not_mem_nil⟩⟩⟩⟩⟩⟩⟩⟩⟩, pw_X10_crew_X10⟩⟩) (by decide +kernel)
set_option maxRecDepth 20000 in
theorem gX10_crew_X10_must : GoodIn wsX10_crew (wsV RX10 395 RX10 yX10_must wsX10_must) := goodIn_app (goodIn_sub (List.forall_mem_cons.mpr ⟨pm_X10_crew_r2 _ (List.mem_of_getElem? (i := 16) rfl), List.forall_mem_cons.mpr ⟨pm_X10_crew_r2 _ (List.mem_of_getElem? (i := 17) rfl), List.forall_mem_cons.mpr ⟨pm_X10_crew_r2 _ (List.mem_of_getElem? (i := 18) rfl), List.forall_mem_cons.mpr ⟨pm_X10_crew_r1 _ (List.mem_of_getElem? (i := 7) rfl), fun _ h => absurd h List.not_mem_nil⟩⟩⟩⟩) (by decide +kernel)) ggX10_crew_X10_must
set_option maxRecDepth 20000 in
theorem pq_X10_crew_X10_isSum_r1 : ∀ w ∈ wsX10_isSum_r1, w ∈ wsX10_crew := List.forall_mem_cons.mpr ⟨pm_X10_crew_r2 _ (List.mem_of_getElem? (i := 15) rfl), List.forall_mem_cons.mpr ⟨pm_X10_crew_r2 _ (List.mem_of_getElem? (i := 14) rfl), List.forall_mem_cons.mpr ⟨pm_X10_crew_r2 _ (List.mem_of_getElem? (i := 12) rfl), List.forall_mem_cons.mpr ⟨pm_X10_crew_r2 _ (List.mem_of_getElem? (i := 13) rfl), List.forall_mem_cons.mpr ⟨pm_X10_crew_r2 _ (List.mem_of_getElem? (i := 20) rfl), List.forall_mem_cons.mpr ⟨pm_X10_crew_r2 _ (List.mem_of_getElem? (i := 21) rfl), List.forall_mem_cons.mpr ⟨pm_X10_crew_r2 _ (List.mem_of_getElem? (i := 22) rfl), List.forall_mem_cons.mpr ⟨pm_X10_crew_r1 _ (List.mem_of_getElem? (i := 7) rfl), List.forall_mem_cons.mpr ⟨pm_X10_crew_r2 _ (List.mem_of_getElem? (i := 23) rfl), List.forall_mem_cons.mpr ⟨pm_X10_crew_r3 _ (List.mem_of_getElem? (i := 4) rfl), List.forall_mem_cons.mpr ⟨pm_X10_crew_r3 _ (List.mem_of_getElem? (i := 5) rfl), List.forall_mem_cons.mpr ⟨pm_X10_crew_r3 _ (List.mem_of_getElem? (i := 6) rfl), List.forall_mem_cons.mpr ⟨pm_X10_crew_r3 _ (List.mem_of_getElem? (i := 7) rfl), List.forall_mem_cons.mpr ⟨pm_X10_crew_r1 _ (List.mem_of_getElem? (i := 0) rfl), List.forall_mem_cons.mpr ⟨pm_X10_crew_r2 _ (List.mem_of_getElem? (i := 6) rfl), List.forall_mem_cons.mpr ⟨pm_X10_crew_r1 _ (List.mem_of_getElem? (i := 2) rfl), List.forall_mem_cons.mpr ⟨pm_X10_crew_r2 _ (List.mem_of_getElem? (i := 7) rfl), List.forall_mem_cons.mpr ⟨pm_X10_crew_r1 _ (List.mem_of_getElem? (i := 3) rfl), List.forall_mem_cons.mpr ⟨pm_X10_crew_r2 _ (List.mem_of_getElem? (i := 2) rfl), List.forall_mem_cons.mpr ⟨pm_X10_crew_r2 _ (List.mem_of_getElem? (i := 3) rfl), List.forall_mem_cons.mpr ⟨pm_X10_crew_r2 _ (List.mem_of_getElem? (i := 4) rfl), List.forall_mem_cons.mpr ⟨pm_X10_crew_r2 _ (List.mem_of_getElem? (i := 5) rfl), List.forall_mem_cons.mpr ⟨pm_X10_crew_r3 _ (List.mem_of_getElem? (i := 8) rfl), List.forall_mem_cons.mpr ⟨pm_X10_crew_r3 _ (List.mem_of_getElem? (i := 9) rfl), fun _ h => absurd h List.not_mem_nil⟩⟩⟩⟩⟩⟩⟩⟩⟩⟩⟩⟩⟩⟩⟩⟩⟩⟩⟩⟩⟩⟩⟩⟩
set_option maxRecDepth 20000 in
theorem pq_X10_crew_X10_isSum_r2 : ∀ w ∈ wsX10_isSum_r2, w ∈ wsX10_crew := List.forall_mem_cons.mpr ⟨pm_X10_crew_r3 _ (List.mem_of_getElem? (i := 10) rfl), fun _ h => absurd h List.not_mem_nil⟩
set_option maxRecDepth 20000 in
theorem ggX10_crew_X10_isSum : GoodIn wsX10_crew wsX10_isSum := goodIn_sub (List.forall_mem_cons.mpr ⟨pm_X10_crew_r3 _ (List.mem_of_getElem? (i := 3) rfl), List.forall_mem_append.mpr ⟨List.forall_mem_append.mpr ⟨pq_X10_crew_X10_isSum_r1, pq_X10_crew_X10_isSum_r2⟩, pw_X10_crew_X10⟩⟩) (by decide +kernel)
set_option maxRecDepth 20000 in
theorem gX10_crew_X10_isSum : GoodIn wsX10_crew (wsV RX10 398 RX10 yX10_isSum wsX10_isSum) := goodIn_app (goodIn_sub (List.forall_mem_cons.mpr ⟨pm_X10_crew_r3 _ (List.mem_of_getElem? (i := 0) rfl), List.forall_mem_cons.mpr ⟨pm_X10_crew_r3 _ (List.mem_of_getElem? (i := 1) rfl), List.forall_mem_cons.mpr ⟨pm_X10_crew_r3 _ (List.mem_of_getElem? (i := 2) rfl), List.forall_mem_cons.mpr ⟨pm_X10_crew_r1 _ (List.mem_of_getElem? (i := 7) rfl), fun _ h => absurd h List.not_mem_nil⟩⟩⟩⟩) (by decide +kernel)) ggX10_crew_X10_isSum
set_option maxRecDepth 20000 in
theorem ggX10_crew_X10_tell : GoodIn wsX10_crew wsX10_tell := goodIn_sub (List.forall_mem_cons.mpr ⟨pm_X10_crew_r3 _ (List.mem_of_getElem? (i := 14) rfl), List.forall_mem_append.mpr ⟨List.forall_mem_cons.mpr ⟨pm_X10_crew_r3 _ (List.mem_of_getElem? (i := 15) rfl), List.forall_mem_cons.mpr ⟨pm_X10_crew_r3 _ (List.mem_of_getElem? (i := 16) rfl), List.forall_mem_cons.mpr ⟨pm_X10_crew_r3 _ (List.mem_of_getElem? (i := 17) rfl), List.forall_mem_cons.mpr ⟨pm_X10_crew_r3 _ (List.mem_of_getElem? (i := 8) rfl), List.forall_mem_cons.mpr ⟨pm_X10_crew_r3 _ (List.mem_of_getElem? (i := 9) rfl), List.forall_mem_cons.mpr ⟨pm_X10_crew_r1 _ (List.mem_of_getElem? (i := 7) rfl), List.forall_mem_cons.mpr ⟨pm_X10_crew_r3 _ (List.mem_of_getElem? (i := 10) rfl), fun _ h => absurd h List.not_mem_nil⟩⟩⟩⟩⟩⟩⟩, pw_X10_crew_X10⟩⟩) (by decide +kernel)
set_option maxRecDepth 20000 in
theorem gX10_crew_X10_tell : GoodIn wsX10_crew (wsV RX10 355 RX10 yX10_tell wsX10_tell) := goodIn_app (goodIn_sub (List.forall_mem_cons.mpr ⟨pm_X10_crew_r3 _ (List.mem_of_getElem? (i := 11) rfl), List.forall_mem_cons.mpr ⟨pm_X10_crew_r3 _ (List.mem_of_getElem? (i := 12) rfl), List.forall_mem_cons.mpr ⟨pm_X10_crew_r3 _ (List.mem_of_getElem? (i := 13) rfl), List.forall_mem_cons.mpr ⟨pm_X10_crew_r1 _ (List.mem_of_getElem? (i := 7) rfl), fun _ h => absurd h List.not_mem_nil⟩⟩⟩⟩) (by decide +kernel)) ggX10_crew_X10_tell
theorem bX10_crew_0 : ((bys cX10_crew).drop 0).take 16 = [42, 27, 182, 0, 253, 153, 0, 11, 42, 28, 182, 1, 0, 154, 0, 6] := by decide +kernel
theorem dX10_crew_0 : decode cX10_crew 0 = .ok (.aload_n 0, 1) := do_42 (byt_at bX10_crew_0 (j := 0) rfl)
theorem dX10_crew_1 : decode cX10_crew 1 = .ok (.iload_n 1, 1) := do_27 (byt_at bX10_crew_0 (j := 1) rfl)
theorem dX10_crew_2 : decode cX10_crew 2 = .ok (.invokevirtual 253, 3) := do_182 0 253 (byt_at bX10_crew_0 (j := 2) rfl) (byt_at bX10_crew_0 (j := 3) rfl) (byt_at bX10_crew_0 (j := 4) rfl)
theorem dX10_crew_5 : decode cX10_crew 5 = .ok (.ifCond .eq 11, 3) := do_153 0 11 (byt_at bX10_crew_0 (j := 5) rfl) (byt_at bX10_crew_0 (j := 6) rfl) (byt_at bX10_crew_0 (j := 7) rfl) (by decide)
theorem dX10_crew_8 : decode cX10_crew 8 = .ok (.aload_n 0, 1) := do_42 (byt_at bX10_crew_0 (j := 8) rfl)
theorem dX10_crew_9 : decode cX10_crew 9 = .ok (.iload_n 2, 1) := do_28 (byt_at bX10_crew_0 (j := 9) rfl)
theorem dX10_crew_10 : decode cX10_crew 10 = .ok (.invokevirtual 256, 3) := do_182 1 0 (byt_at bX10_crew_0 (j := 10) rfl) (byt_at bX10_crew_0 (j := 11) rfl) (byt_at bX10_crew_0 (j := 12) rfl)
theorem dX10_crew_13 : decode cX10_crew 13 = .ok (.ifCond .ne 6, 3) := do_154 0 6 (byt_at bX10_crew_0 (j := 13) rfl) (byt_at bX10_crew_0 (j := 14) rfl) (byt_at bX10_crew_0 (j := 15) rfl) (by decide)
theorem bX10_crew_1 : ((bys cX10_crew).drop 16).take 16 = [16, 254, 172, 42, 27, 28, 182, 1, 133, 133, 66, 42, 42, 180, 0, 17] := by decide +kernel
theorem dX10_crew_16 : decode cX10_crew 16 = .ok (.bipush (-2), 2) := do_16 254 (byt_at bX10_crew_1 (j := 0) rfl) (byt_at bX10_crew_1 (j := 1) rfl) (by decide)
theorem dX10_crew_18 : decode cX10_crew 18 = .ok (.ireturn, 1) := do_172 (byt_at bX10_crew_1 (j := 2) rfl)
theorem dX10_crew_19 : decode cX10_crew 19 = .ok (.aload_n 0, 1) := do_42 (byt_at bX10_crew_1 (j := 3) rfl)
theorem dX10_crew_20 : decode cX10_crew 20 = .ok (.iload_n 1, 1) := do_27 (byt_at bX10_crew_1 (j := 4) rfl)
theorem dX10_crew_21 : decode cX10_crew 21 = .ok (.iload_n 2, 1) := do_28 (byt_at bX10_crew_1 (j := 5) rfl)
theorem dX10_crew_22 : decode cX10_crew 22 = .ok (.invokevirtual 389, 3) := do_182 1 133 (byt_at bX10_crew_1 (j := 6) rfl) (byt_at bX10_crew_1 (j := 7) rfl) (byt_at bX10_crew_1 (j := 8) rfl)
theorem dX10_crew_25 : decode cX10_crew 25 = .ok (.i2l, 1) := do_133 (byt_at bX10_crew_1 (j := 9) rfl)
theorem dX10_crew_26 : decode cX10_crew 26 = .ok (.lstore_n 3, 1) := do_66 (byt_at bX10_crew_1 (j := 10) rfl)
theorem dX10_crew_27 : decode cX10_crew 27 = .ok (.aload_n 0, 1) := do_42 (byt_at bX10_crew_1 (j := 11) rfl)
theorem dX10_crew_28 : decode cX10_crew 28 = .ok (.aload_n 0, 1) := do_42 (byt_at bX10_crew_1 (j := 12) rfl)
theorem dX10_crew_29 : decode cX10_crew 29 = .ok (.getfield 17, 3) := do_180 0 17 (byt_at bX10_crew_1 (j := 13) rfl) (byt_at bX10_crew_1 (j := 14) rfl) (byt_at bX10_crew_1 (j := 15) rfl)
theorem bX10_crew_2 : ((bys cX10_crew).drop 32).take 16 = [5, 46, 182, 1, 8, 133, 55, 5, 42, 180, 0, 17, 3, 46, 133, 42] := by decide +kernel
theorem dX10_crew_32 : decode cX10_crew 32 = .ok (.iconst 2, 1) := do_5 (byt_at bX10_crew_2 (j := 0) rfl)
theorem dX10_crew_33 : decode cX10_crew 33 = .ok (.iaload, 1) := do_46 (byt_at bX10_crew_2 (j := 1) rfl)
theorem dX10_crew_34 : decode cX10_crew 34 = .ok (.invokevirtual 264, 3) := do_182 1 8 (byt_at bX10_crew_2 (j := 2) rfl) (byt_at bX10_crew_2 (j := 3) rfl) (byt_at bX10_crew_2 (j := 4) rfl)
theorem dX10_crew_37 : decode cX10_crew 37 = .ok (.i2l, 1) := do_133 (byt_at bX10_crew_2 (j := 5) rfl)
theorem dX10_crew_38 : decode cX10_crew 38 = .ok (.lstore 5, 2) := do_55 5 (byt_at bX10_crew_2 (j := 6) rfl) (byt_at bX10_crew_2 (j := 7) rfl)
theorem dX10_crew_40 : decode cX10_crew 40 = .ok (.aload_n 0, 1) := do_42 (byt_at bX10_crew_2 (j := 8) rfl)
theorem dX10_crew_41 : decode cX10_crew 41 = .ok (.getfield 17, 3) := do_180 0 17 (byt_at bX10_crew_2 (j := 9) rfl) (byt_at bX10_crew_2 (j := 10) rfl) (byt_at bX10_crew_2 (j := 11) rfl)
theorem dX10_crew_44 : decode cX10_crew 44 = .ok (.iconst 0, 1) := do_3 (byt_at bX10_crew_2 (j := 12) rfl)
theorem dX10_crew_45 : decode cX10_crew 45 = .ok (.iaload, 1) := do_46 (byt_at bX10_crew_2 (j := 13) rfl)
theorem dX10_crew_46 : decode cX10_crew 46 = .ok (.i2l, 1) := do_133 (byt_at bX10_crew_2 (j := 14) rfl)
theorem dX10_crew_47 : decode cX10_crew 47 = .ok (.aload_n 0, 1) := do_42 (byt_at bX10_crew_2 (j := 15) rfl)
theorem bX10_crew_3 : ((bys cX10_crew).drop 48).take 16 = [180, 0, 17, 3, 46, 133, 105, 55, 7, 42, 182, 1, 136, 3, 54, 9] := by decide +kernel
theorem dX10_crew_48 : decode cX10_crew 48 = .ok (.getfield 17, 3) := do_180 0 17 (byt_at bX10_crew_3 (j := 0) rfl) (byt_at bX10_crew_3 (j := 1) rfl) (byt_at bX10_crew_3 (j := 2) rfl)
theorem dX10_crew_51 : decode cX10_crew 51 = .ok (.iconst 0, 1) := do_3 (byt_at bX10_crew_3 (j := 3) rfl)
theorem dX10_crew_52 : decode cX10_crew 52 = .ok (.iaload, 1) := do_46 (byt_at bX10_crew_3 (j := 4) rfl)
theorem dX10_crew_53 : decode cX10_crew 53 = .ok (.i2l, 1) := do_133 (byt_at bX10_crew_3 (j := 5) rfl)
theorem dX10_crew_54 : decode cX10_crew 54 = .ok (.lmul, 1) := do_105 (byt_at bX10_crew_3 (j := 6) rfl)
theorem dX10_crew_55 : decode cX10_crew 55 = .ok (.lstore 7, 2) := do_55 7 (byt_at bX10_crew_3 (j := 7) rfl) (byt_at bX10_crew_3 (j := 8) rfl)
theorem dX10_crew_57 : decode cX10_crew 57 = .ok (.aload_n 0, 1) := do_42 (byt_at bX10_crew_3 (j := 9) rfl)
theorem dX10_crew_58 : decode cX10_crew 58 = .ok (.invokevirtual 392, 3) := do_182 1 136 (byt_at bX10_crew_3 (j := 10) rfl) (byt_at bX10_crew_3 (j := 11) rfl) (byt_at bX10_crew_3 (j := 12) rfl)
theorem dX10_crew_61 : decode cX10_crew 61 = .ok (.iconst 0, 1) := do_3 (byt_at bX10_crew_3 (j := 13) rfl)
theorem dX10_crew_62 : decode cX10_crew 62 = .ok (.istore 9, 2) := do_54 9 (byt_at bX10_crew_3 (j := 14) rfl) (byt_at bX10_crew_3 (j := 15) rfl)
theorem bX10_crew_4 : ((bys cX10_crew).drop 64).take 16 = [21, 9, 42, 180, 0, 17, 7, 46, 162, 0, 59, 33, 42, 21, 9, 28] := by decide +kernel
theorem dX10_crew_64 : decode cX10_crew 64 = .ok (.iload 9, 2) := do_21 9 (byt_at bX10_crew_4 (j := 0) rfl) (byt_at bX10_crew_4 (j := 1) rfl)
theorem dX10_crew_66 : decode cX10_crew 66 = .ok (.aload_n 0, 1) := do_42 (byt_at bX10_crew_4 (j := 2) rfl)
theorem dX10_crew_67 : decode cX10_crew 67 = .ok (.getfield 17, 3) := do_180 0 17 (byt_at bX10_crew_4 (j := 3) rfl) (byt_at bX10_crew_4 (j := 4) rfl) (byt_at bX10_crew_4 (j := 5) rfl)
theorem dX10_crew_70 : decode cX10_crew 70 = .ok (.iconst 4, 1) := do_7 (byt_at bX10_crew_4 (j := 6) rfl)
theorem dX10_crew_71 : decode cX10_crew 71 = .ok (.iaload, 1) := do_46 (byt_at bX10_crew_4 (j := 7) rfl)
theorem dX10_crew_72 : decode cX10_crew 72 = .ok (.if_icmp .ge 59, 3) := do_162 0 59 (byt_at bX10_crew_4 (j := 8) rfl) (byt_at bX10_crew_4 (j := 9) rfl) (byt_at bX10_crew_4 (j := 10) rfl) (by decide)
theorem dX10_crew_75 : decode cX10_crew 75 = .ok (.lload_n 3, 1) := do_33 (byt_at bX10_crew_4 (j := 11) rfl)
theorem dX10_crew_76 : decode cX10_crew 76 = .ok (.aload_n 0, 1) := do_42 (byt_at bX10_crew_4 (j := 12) rfl)
theorem dX10_crew_77 : decode cX10_crew 77 = .ok (.iload 9, 2) := do_21 9 (byt_at bX10_crew_4 (j := 13) rfl) (byt_at bX10_crew_4 (j := 14) rfl)
theorem dX10_crew_79 : decode cX10_crew 79 = .ok (.iload_n 2, 1) := do_28 (byt_at bX10_crew_4 (j := 15) rfl)
theorem bX10_crew_5 : ((bys cX10_crew).drop 80).take 16 = [182, 1, 133, 133, 101, 33, 105, 55, 10, 21, 9, 27, 159, 0, 33, 42] := by decide +kernel
theorem dX10_crew_80 : decode cX10_crew 80 = .ok (.invokevirtual 389, 3) := do_182 1 133 (byt_at bX10_crew_5 (j := 0) rfl) (byt_at bX10_crew_5 (j := 1) rfl) (byt_at bX10_crew_5 (j := 2) rfl)
theorem dX10_crew_83 : decode cX10_crew 83 = .ok (.i2l, 1) := do_133 (byt_at bX10_crew_5 (j := 3) rfl)
theorem dX10_crew_84 : decode cX10_crew 84 = .ok (.lsub, 1) := do_101 (byt_at bX10_crew_5 (j := 4) rfl)
theorem dX10_crew_85 : decode cX10_crew 85 = .ok (.lload_n 3, 1) := do_33 (byt_at bX10_crew_5 (j := 5) rfl)
theorem dX10_crew_86 : decode cX10_crew 86 = .ok (.lmul, 1) := do_105 (byt_at bX10_crew_5 (j := 6) rfl)
theorem dX10_crew_87 : decode cX10_crew 87 = .ok (.lstore 10, 2) := do_55 10 (byt_at bX10_crew_5 (j := 7) rfl) (byt_at bX10_crew_5 (j := 8) rfl)
theorem dX10_crew_89 : decode cX10_crew 89 = .ok (.iload 9, 2) := do_21 9 (byt_at bX10_crew_5 (j := 9) rfl) (byt_at bX10_crew_5 (j := 10) rfl)
theorem dX10_crew_91 : decode cX10_crew 91 = .ok (.iload_n 1, 1) := do_27 (byt_at bX10_crew_5 (j := 11) rfl)
theorem dX10_crew_92 : decode cX10_crew 92 = .ok (.if_icmp .eq 33, 3) := do_159 0 33 (byt_at bX10_crew_5 (j := 12) rfl) (byt_at bX10_crew_5 (j := 13) rfl) (byt_at bX10_crew_5 (j := 14) rfl) (by decide)
theorem dX10_crew_95 : decode cX10_crew 95 = .ok (.aload_n 0, 1) := do_42 (byt_at bX10_crew_5 (j := 15) rfl)
theorem bX10_crew_6 : ((bys cX10_crew).drop 96).take 16 = [22, 10, 22, 7, 42, 180, 0, 31, 27, 46, 42, 180, 0, 31, 21, 9] := by decide +kernel
theorem dX10_crew_96 : decode cX10_crew 96 = .ok (.lload 10, 2) := do_22 10 (byt_at bX10_crew_6 (j := 0) rfl) (byt_at bX10_crew_6 (j := 1) rfl)
theorem dX10_crew_98 : decode cX10_crew 98 = .ok (.lload 7, 2) := do_22 7 (byt_at bX10_crew_6 (j := 2) rfl) (byt_at bX10_crew_6 (j := 3) rfl)
theorem dX10_crew_100 : decode cX10_crew 100 = .ok (.aload_n 0, 1) := do_42 (byt_at bX10_crew_6 (j := 4) rfl)
theorem dX10_crew_101 : decode cX10_crew 101 = .ok (.getfield 31, 3) := do_180 0 31 (byt_at bX10_crew_6 (j := 5) rfl) (byt_at bX10_crew_6 (j := 6) rfl) (byt_at bX10_crew_6 (j := 7) rfl)
theorem dX10_crew_104 : decode cX10_crew 104 = .ok (.iload_n 1, 1) := do_27 (byt_at bX10_crew_6 (j := 8) rfl)
theorem dX10_crew_105 : decode cX10_crew 105 = .ok (.iaload, 1) := do_46 (byt_at bX10_crew_6 (j := 9) rfl)
theorem dX10_crew_106 : decode cX10_crew 106 = .ok (.aload_n 0, 1) := do_42 (byt_at bX10_crew_6 (j := 10) rfl)
theorem dX10_crew_107 : decode cX10_crew 107 = .ok (.getfield 31, 3) := do_180 0 31 (byt_at bX10_crew_6 (j := 11) rfl) (byt_at bX10_crew_6 (j := 12) rfl) (byt_at bX10_crew_6 (j := 13) rfl)
theorem dX10_crew_110 : decode cX10_crew 110 = .ok (.iload 9, 2) := do_21 9 (byt_at bX10_crew_6 (j := 14) rfl) (byt_at bX10_crew_6 (j := 15) rfl)
theorem bX10_crew_7 : ((bys cX10_crew).drop 112).take 16 = [46, 100, 133, 105, 22, 10, 22, 5, 105, 97, 182, 1, 139, 132, 9, 1] := by decide +kernel
theorem dX10_crew_112 : decode cX10_crew 112 = .ok (.iaload, 1) := do_46 (byt_at bX10_crew_7 (j := 0) rfl)
theorem dX10_crew_113 : decode cX10_crew 113 = .ok (.isub, 1) := do_100 (byt_at bX10_crew_7 (j := 1) rfl)
theorem dX10_crew_114 : decode cX10_crew 114 = .ok (.i2l, 1) := do_133 (byt_at bX10_crew_7 (j := 2) rfl)
theorem dX10_crew_115 : decode cX10_crew 115 = .ok (.lmul, 1) := do_105 (byt_at bX10_crew_7 (j := 3) rfl)
theorem dX10_crew_116 : decode cX10_crew 116 = .ok (.lload 10, 2) := do_22 10 (byt_at bX10_crew_7 (j := 4) rfl) (byt_at bX10_crew_7 (j := 5) rfl)
theorem dX10_crew_118 : decode cX10_crew 118 = .ok (.lload 5, 2) := do_22 5 (byt_at bX10_crew_7 (j := 6) rfl) (byt_at bX10_crew_7 (j := 7) rfl)
theorem dX10_crew_120 : decode cX10_crew 120 = .ok (.lmul, 1) := do_105 (byt_at bX10_crew_7 (j := 8) rfl)
theorem dX10_crew_121 : decode cX10_crew 121 = .ok (.ladd, 1) := do_97 (byt_at bX10_crew_7 (j := 9) rfl)
theorem dX10_crew_122 : decode cX10_crew 122 = .ok (.invokevirtual 395, 3) := do_182 1 139 (byt_at bX10_crew_7 (j := 10) rfl) (byt_at bX10_crew_7 (j := 11) rfl) (byt_at bX10_crew_7 (j := 12) rfl)
theorem dX10_crew_125 : decode cX10_crew 125 = .ok (.iinc 9 1, 3) := do_132 9 1 (byt_at bX10_crew_7 (j := 13) rfl) (byt_at bX10_crew_7 (j := 14) rfl) (byt_at bX10_crew_7 (j := 15) rfl) (by decide)
theorem bX10_crew_8 : ((bys cX10_crew).drop 128).take 16 = [167, 255, 192, 42, 33, 33, 105, 22, 7, 42, 180, 0, 31, 27, 46, 42] := by decide +kernel
theorem dX10_crew_128 : decode cX10_crew 128 = .ok (.goto (-64), 3) := do_167 255 192 (byt_at bX10_crew_8 (j := 0) rfl) (byt_at bX10_crew_8 (j := 1) rfl) (byt_at bX10_crew_8 (j := 2) rfl) (by decide)
theorem dX10_crew_131 : decode cX10_crew 131 = .ok (.aload_n 0, 1) := do_42 (byt_at bX10_crew_8 (j := 3) rfl)
theorem dX10_crew_132 : decode cX10_crew 132 = .ok (.lload_n 3, 1) := do_33 (byt_at bX10_crew_8 (j := 4) rfl)
theorem dX10_crew_133 : decode cX10_crew 133 = .ok (.lload_n 3, 1) := do_33 (byt_at bX10_crew_8 (j := 5) rfl)
theorem dX10_crew_134 : decode cX10_crew 134 = .ok (.lmul, 1) := do_105 (byt_at bX10_crew_8 (j := 6) rfl)
theorem dX10_crew_135 : decode cX10_crew 135 = .ok (.lload 7, 2) := do_22 7 (byt_at bX10_crew_8 (j := 7) rfl) (byt_at bX10_crew_8 (j := 8) rfl)
theorem dX10_crew_137 : decode cX10_crew 137 = .ok (.aload_n 0, 1) := do_42 (byt_at bX10_crew_8 (j := 9) rfl)
theorem dX10_crew_138 : decode cX10_crew 138 = .ok (.getfield 31, 3) := do_180 0 31 (byt_at bX10_crew_8 (j := 10) rfl) (byt_at bX10_crew_8 (j := 11) rfl) (byt_at bX10_crew_8 (j := 12) rfl)
theorem dX10_crew_141 : decode cX10_crew 141 = .ok (.iload_n 1, 1) := do_27 (byt_at bX10_crew_8 (j := 13) rfl)
theorem dX10_crew_142 : decode cX10_crew 142 = .ok (.iaload, 1) := do_46 (byt_at bX10_crew_8 (j := 14) rfl)
theorem dX10_crew_143 : decode cX10_crew 143 = .ok (.aload_n 0, 1) := do_42 (byt_at bX10_crew_8 (j := 15) rfl)
theorem bX10_crew_9 : ((bys cX10_crew).drop 144).take 16 = [180, 0, 17, 4, 46, 96, 133, 105, 22, 7, 33, 33, 105, 101, 22, 5] := by decide +kernel
theorem dX10_crew_144 : decode cX10_crew 144 = .ok (.getfield 17, 3) := do_180 0 17 (byt_at bX10_crew_9 (j := 0) rfl) (byt_at bX10_crew_9 (j := 1) rfl) (byt_at bX10_crew_9 (j := 2) rfl)
theorem dX10_crew_147 : decode cX10_crew 147 = .ok (.iconst 1, 1) := do_4 (byt_at bX10_crew_9 (j := 3) rfl)
theorem dX10_crew_148 : decode cX10_crew 148 = .ok (.iaload, 1) := do_46 (byt_at bX10_crew_9 (j := 4) rfl)
theorem dX10_crew_149 : decode cX10_crew 149 = .ok (.iadd, 1) := do_96 (byt_at bX10_crew_9 (j := 5) rfl)
theorem dX10_crew_150 : decode cX10_crew 150 = .ok (.i2l, 1) := do_133 (byt_at bX10_crew_9 (j := 6) rfl)
theorem dX10_crew_151 : decode cX10_crew 151 = .ok (.lmul, 1) := do_105 (byt_at bX10_crew_9 (j := 7) rfl)
theorem dX10_crew_152 : decode cX10_crew 152 = .ok (.lload 7, 2) := do_22 7 (byt_at bX10_crew_9 (j := 8) rfl) (byt_at bX10_crew_9 (j := 9) rfl)
theorem dX10_crew_154 : decode cX10_crew 154 = .ok (.lload_n 3, 1) := do_33 (byt_at bX10_crew_9 (j := 10) rfl)
theorem dX10_crew_155 : decode cX10_crew 155 = .ok (.lload_n 3, 1) := do_33 (byt_at bX10_crew_9 (j := 11) rfl)
theorem dX10_crew_156 : decode cX10_crew 156 = .ok (.lmul, 1) := do_105 (byt_at bX10_crew_9 (j := 12) rfl)
theorem dX10_crew_157 : decode cX10_crew 157 = .ok (.lsub, 1) := do_101 (byt_at bX10_crew_9 (j := 13) rfl)
theorem dX10_crew_158 : decode cX10_crew 158 = .ok (.lload 5, 2) := do_22 5 (byt_at bX10_crew_9 (j := 14) rfl) (byt_at bX10_crew_9 (j := 15) rfl)
theorem bX10_crew_10 : ((bys cX10_crew).drop 160).take 16 = [105, 101, 182, 1, 139, 42, 182, 1, 142, 154, 0, 5, 2, 172, 42, 33] := by decide +kernel
theorem dX10_crew_160 : decode cX10_crew 160 = .ok (.lmul, 1) := do_105 (byt_at bX10_crew_10 (j := 0) rfl)
theorem dX10_crew_161 : decode cX10_crew 161 = .ok (.lsub, 1) := do_101 (byt_at bX10_crew_10 (j := 1) rfl)
theorem dX10_crew_162 : decode cX10_crew 162 = .ok (.invokevirtual 395, 3) := do_182 1 139 (byt_at bX10_crew_10 (j := 2) rfl) (byt_at bX10_crew_10 (j := 3) rfl) (byt_at bX10_crew_10 (j := 4) rfl)
theorem dX10_crew_165 : decode cX10_crew 165 = .ok (.aload_n 0, 1) := do_42 (byt_at bX10_crew_10 (j := 5) rfl)
theorem dX10_crew_166 : decode cX10_crew 166 = .ok (.invokevirtual 398, 3) := do_182 1 142 (byt_at bX10_crew_10 (j := 6) rfl) (byt_at bX10_crew_10 (j := 7) rfl) (byt_at bX10_crew_10 (j := 8) rfl)
theorem dX10_crew_169 : decode cX10_crew 169 = .ok (.ifCond .ne 5, 3) := do_154 0 5 (byt_at bX10_crew_10 (j := 9) rfl) (byt_at bX10_crew_10 (j := 10) rfl) (byt_at bX10_crew_10 (j := 11) rfl) (by decide)
theorem dX10_crew_172 : decode cX10_crew 172 = .ok (.iconst (-1), 1) := do_2 (byt_at bX10_crew_10 (j := 12) rfl)
theorem dX10_crew_173 : decode cX10_crew 173 = .ok (.ireturn, 1) := do_172 (byt_at bX10_crew_10 (j := 13) rfl)
theorem dX10_crew_174 : decode cX10_crew 174 = .ok (.aload_n 0, 1) := do_42 (byt_at bX10_crew_10 (j := 14) rfl)
theorem dX10_crew_175 : decode cX10_crew 175 = .ok (.lload_n 3, 1) := do_33 (byt_at bX10_crew_10 (j := 15) rfl)
theorem bX10_crew_11 : ((bys cX10_crew).drop 176).take 16 = [33, 105, 42, 180, 0, 64, 3, 47, 105, 22, 7, 33, 33, 105, 101, 42] := by decide +kernel
theorem dX10_crew_176 : decode cX10_crew 176 = .ok (.lload_n 3, 1) := do_33 (byt_at bX10_crew_11 (j := 0) rfl)
theorem dX10_crew_177 : decode cX10_crew 177 = .ok (.lmul, 1) := do_105 (byt_at bX10_crew_11 (j := 1) rfl)
theorem dX10_crew_178 : decode cX10_crew 178 = .ok (.aload_n 0, 1) := do_42 (byt_at bX10_crew_11 (j := 2) rfl)
theorem dX10_crew_179 : decode cX10_crew 179 = .ok (.getfield 64, 3) := do_180 0 64 (byt_at bX10_crew_11 (j := 3) rfl) (byt_at bX10_crew_11 (j := 4) rfl) (byt_at bX10_crew_11 (j := 5) rfl)
theorem dX10_crew_182 : decode cX10_crew 182 = .ok (.iconst 0, 1) := do_3 (byt_at bX10_crew_11 (j := 6) rfl)
theorem dX10_crew_183 : decode cX10_crew 183 = .ok (.laload, 1) := do_47 (byt_at bX10_crew_11 (j := 7) rfl)
theorem dX10_crew_184 : decode cX10_crew 184 = .ok (.lmul, 1) := do_105 (byt_at bX10_crew_11 (j := 8) rfl)
theorem dX10_crew_185 : decode cX10_crew 185 = .ok (.lload 7, 2) := do_22 7 (byt_at bX10_crew_11 (j := 9) rfl) (byt_at bX10_crew_11 (j := 10) rfl)
theorem dX10_crew_187 : decode cX10_crew 187 = .ok (.lload_n 3, 1) := do_33 (byt_at bX10_crew_11 (j := 11) rfl)
theorem dX10_crew_188 : decode cX10_crew 188 = .ok (.lload_n 3, 1) := do_33 (byt_at bX10_crew_11 (j := 12) rfl)
theorem dX10_crew_189 : decode cX10_crew 189 = .ok (.lmul, 1) := do_105 (byt_at bX10_crew_11 (j := 13) rfl)
theorem dX10_crew_190 : decode cX10_crew 190 = .ok (.lsub, 1) := do_101 (byt_at bX10_crew_11 (j := 14) rfl)
theorem dX10_crew_191 : decode cX10_crew 191 = .ok (.aload_n 0, 1) := do_42 (byt_at bX10_crew_11 (j := 15) rfl)
theorem bX10_crew_12 : ((bys cX10_crew).drop 192).take 16 = [180, 0, 17, 5, 46, 133, 105, 42, 180, 0, 67, 3, 47, 105, 97, 22] := by decide +kernel
theorem dX10_crew_192 : decode cX10_crew 192 = .ok (.getfield 17, 3) := do_180 0 17 (byt_at bX10_crew_12 (j := 0) rfl) (byt_at bX10_crew_12 (j := 1) rfl) (byt_at bX10_crew_12 (j := 2) rfl)
theorem dX10_crew_195 : decode cX10_crew 195 = .ok (.iconst 2, 1) := do_5 (byt_at bX10_crew_12 (j := 3) rfl)
theorem dX10_crew_196 : decode cX10_crew 196 = .ok (.iaload, 1) := do_46 (byt_at bX10_crew_12 (j := 4) rfl)
theorem dX10_crew_197 : decode cX10_crew 197 = .ok (.i2l, 1) := do_133 (byt_at bX10_crew_12 (j := 5) rfl)
theorem dX10_crew_198 : decode cX10_crew 198 = .ok (.lmul, 1) := do_105 (byt_at bX10_crew_12 (j := 6) rfl)
theorem dX10_crew_199 : decode cX10_crew 199 = .ok (.aload_n 0, 1) := do_42 (byt_at bX10_crew_12 (j := 7) rfl)
theorem dX10_crew_200 : decode cX10_crew 200 = .ok (.getfield 67, 3) := do_180 0 67 (byt_at bX10_crew_12 (j := 8) rfl) (byt_at bX10_crew_12 (j := 9) rfl) (byt_at bX10_crew_12 (j := 10) rfl)
theorem dX10_crew_203 : decode cX10_crew 203 = .ok (.iconst 0, 1) := do_3 (byt_at bX10_crew_12 (j := 11) rfl)
theorem dX10_crew_204 : decode cX10_crew 204 = .ok (.laload, 1) := do_47 (byt_at bX10_crew_12 (j := 12) rfl)
theorem dX10_crew_205 : decode cX10_crew 205 = .ok (.lmul, 1) := do_105 (byt_at bX10_crew_12 (j := 13) rfl)
theorem dX10_crew_206 : decode cX10_crew 206 = .ok (.ladd, 1) := do_97 (byt_at bX10_crew_12 (j := 14) rfl)
theorem bX10_crew_13 : ((bys cX10_crew).drop 208).take 16 = [7, 42, 180, 0, 67, 3, 47, 105, 182, 1, 99, 4, 172] := by decide +kernel
theorem dX10_crew_207 : decode cX10_crew 207 = .ok (.lload 7, 2) := do_22 7 (byt_at bX10_crew_12 (j := 15) rfl) (byt_at bX10_crew_13 (j := 0) rfl)
theorem dX10_crew_209 : decode cX10_crew 209 = .ok (.aload_n 0, 1) := do_42 (byt_at bX10_crew_13 (j := 1) rfl)
theorem dX10_crew_210 : decode cX10_crew 210 = .ok (.getfield 67, 3) := do_180 0 67 (byt_at bX10_crew_13 (j := 2) rfl) (byt_at bX10_crew_13 (j := 3) rfl) (byt_at bX10_crew_13 (j := 4) rfl)
theorem dX10_crew_213 : decode cX10_crew 213 = .ok (.iconst 0, 1) := do_3 (byt_at bX10_crew_13 (j := 5) rfl)
theorem dX10_crew_214 : decode cX10_crew 214 = .ok (.laload, 1) := do_47 (byt_at bX10_crew_13 (j := 6) rfl)
theorem dX10_crew_215 : decode cX10_crew 215 = .ok (.lmul, 1) := do_105 (byt_at bX10_crew_13 (j := 7) rfl)
theorem dX10_crew_216 : decode cX10_crew 216 = .ok (.invokevirtual 355, 3) := do_182 1 99 (byt_at bX10_crew_13 (j := 8) rfl) (byt_at bX10_crew_13 (j := 9) rfl) (byt_at bX10_crew_13 (j := 10) rfl)
theorem dX10_crew_219 : decode cX10_crew 219 = .ok (.iconst 1, 1) := do_4 (byt_at bX10_crew_13 (j := 11) rfl)
theorem dX10_crew_220 : decode cX10_crew 220 = .ok (.ireturn, 1) := do_172 (byt_at bX10_crew_13 (j := 12) rfl)
theorem pm_X10_watch_r1 : ∀ w ∈ wsX10_watch_r1, w ∈ wsX10_watch := fun _ h => List.mem_cons_of_mem _ (List.mem_append_left _ (List.mem_append_left _ h))
theorem pm_X10_watch_r2 : ∀ w ∈ wsX10_watch_r2, w ∈ wsX10_watch := fun _ h => List.mem_cons_of_mem _ (List.mem_append_left _ (List.mem_append_right _ (List.mem_append_left _ h)))
theorem pm_X10_watch_r3 : ∀ w ∈ wsX10_watch_r3, w ∈ wsX10_watch := fun _ h => List.mem_cons_of_mem _ (List.mem_append_left _ (List.mem_append_right _ (List.mem_append_right _ (h))))
theorem pw_X10_watch_X10 : ∀ w ∈ wsX100, w ∈ wsX10_watch := fun _ h => List.mem_cons_of_mem _ (List.mem_append_right _ h)
set_option maxRecDepth 20000 in
theorem ggX10_watch_X10_isWork : GoodIn wsX10_watch wsX10_isWork := goodIn_sub (List.forall_mem_cons.mpr ⟨pm_X10_watch_r1 _ (List.mem_of_getElem? (i := 9) rfl), List.forall_mem_append.mpr ⟨List.forall_mem_cons.mpr ⟨pm_X10_watch_r1 _ (List.mem_of_getElem? (i := 1) rfl), List.forall_mem_cons.mpr ⟨pm_X10_watch_r1 _ (List.mem_of_getElem? (i := 10) rfl), List.forall_mem_cons.mpr ⟨pm_X10_watch_r1 _ (List.mem_of_getElem? (i := 11) rfl), List.forall_mem_cons.mpr ⟨pm_X10_watch_r1 _ (List.mem_of_getElem? (i := 8) rfl), List.forall_mem_cons.mpr ⟨pm_X10_watch_r1 _ (List.mem_of_getElem? (i := 12) rfl), fun _ h => absurd h List.not_mem_nil⟩⟩⟩⟩⟩, pw_X10_watch_X10⟩⟩) (by decide +kernel)
set_option maxRecDepth 20000 in
theorem gX10_watch_X10_isWork : GoodIn wsX10_watch (wsV RX10 253 RX10 yX10_isWork wsX10_isWork) := goodIn_app (goodIn_sub (List.forall_mem_cons.mpr ⟨pm_X10_watch_r1 _ (List.mem_of_getElem? (i := 5) rfl), List.forall_mem_cons.mpr ⟨pm_X10_watch_r1 _ (List.mem_of_getElem? (i := 6) rfl), List.forall_mem_cons.mpr ⟨pm_X10_watch_r1 _ (List.mem_of_getElem? (i := 7) rfl), List.forall_mem_cons.mpr ⟨pm_X10_watch_r1 _ (List.mem_of_getElem? (i := 8) rfl), fun _ h => absurd h List.not_mem_nil⟩⟩⟩⟩) (by decide +kernel)) ggX10_watch_X10_isWork
set_option maxRecDepth 20000 in
theorem ggX10_watch_X10_in : GoodIn wsX10_watch wsX10_in := goodIn_sub (List.forall_mem_cons.mpr ⟨pm_X10_watch_r1 _ (List.mem_of_getElem? (i := 12) rfl), fun _ h => absurd h List.not_mem_nil⟩) (by decide +kernel)
set_option maxRecDepth 20000 in
theorem gX10_watch_X10_in : GoodIn wsX10_watch (va_wsS RX10 174 yX10_in wsX10_in) := goodIn_app (goodIn_sub (List.forall_mem_cons.mpr ⟨pm_X10_watch_r1 _ (List.mem_of_getElem? (i := 10) rfl), List.forall_mem_cons.mpr ⟨pm_X10_watch_r1 _ (List.mem_of_getElem? (i := 11) rfl), List.forall_mem_cons.mpr ⟨pm_X10_watch_r1 _ (List.mem_of_getElem? (i := 8) rfl), fun _ h => absurd h List.not_mem_nil⟩⟩⟩) (by decide +kernel)) ggX10_watch_X10_in
set_option maxRecDepth 20000 in
theorem ggX10_watch_X10_feel : GoodIn wsX10_watch wsX10_feel := goodIn_sub (List.forall_mem_cons.mpr ⟨pm_X10_watch_r1 _ (List.mem_of_getElem? (i := 16) rfl), List.forall_mem_append.mpr ⟨List.forall_mem_cons.mpr ⟨pm_X10_watch_r1 _ (List.mem_of_getElem? (i := 1) rfl), List.forall_mem_cons.mpr ⟨pm_X10_watch_r1 _ (List.mem_of_getElem? (i := 17) rfl), List.forall_mem_cons.mpr ⟨pm_X10_watch_r1 _ (List.mem_of_getElem? (i := 18) rfl), fun _ h => absurd h List.not_mem_nil⟩⟩⟩, pw_X10_watch_X10⟩⟩) (by decide +kernel)
set_option maxRecDepth 20000 in
theorem gX10_watch_X10_feel : GoodIn wsX10_watch (wsV RX10 264 RX10 yX10_feel wsX10_feel) := goodIn_app (goodIn_sub (List.forall_mem_cons.mpr ⟨pm_X10_watch_r1 _ (List.mem_of_getElem? (i := 13) rfl), List.forall_mem_cons.mpr ⟨pm_X10_watch_r1 _ (List.mem_of_getElem? (i := 14) rfl), List.forall_mem_cons.mpr ⟨pm_X10_watch_r1 _ (List.mem_of_getElem? (i := 15) rfl), List.forall_mem_cons.mpr ⟨pm_X10_watch_r1 _ (List.mem_of_getElem? (i := 8) rfl), fun _ h => absurd h List.not_mem_nil⟩⟩⟩⟩) (by decide +kernel)) ggX10_watch_X10_feel
set_option maxRecDepth 20000 in
theorem ggX10_watch_X10_beginSum : GoodIn wsX10_watch wsX10_beginSum := goodIn_sub (List.forall_mem_cons.mpr ⟨pm_X10_watch_r1 _ (List.mem_of_getElem? (i := 22) rfl), List.forall_mem_append.mpr ⟨List.forall_mem_cons.mpr ⟨pm_X10_watch_r1 _ (List.mem_of_getElem? (i := 1) rfl), List.forall_mem_cons.mpr ⟨pm_X10_watch_r1 _ (List.mem_of_getElem? (i := 23) rfl), List.forall_mem_cons.mpr ⟨pm_X10_watch_r2 _ (List.mem_of_getElem? (i := 0) rfl), List.forall_mem_cons.mpr ⟨pm_X10_watch_r2 _ (List.mem_of_getElem? (i := 1) rfl), List.forall_mem_cons.mpr ⟨pm_X10_watch_r2 _ (List.mem_of_getElem? (i := 2) rfl), List.forall_mem_cons.mpr ⟨pm_X10_watch_r1 _ (List.mem_of_getElem? (i := 13) rfl), List.forall_mem_cons.mpr ⟨pm_X10_watch_r1 _ (List.mem_of_getElem? (i := 14) rfl), List.forall_mem_cons.mpr ⟨pm_X10_watch_r1 _ (List.mem_of_getElem? (i := 15) rfl), List.forall_mem_cons.mpr ⟨pm_X10_watch_r1 _ (List.mem_of_getElem? (i := 8) rfl), List.forall_mem_cons.mpr ⟨pm_X10_watch_r1 _ (List.mem_of_getElem? (i := 16) rfl), List.forall_mem_cons.mpr ⟨pm_X10_watch_r1 _ (List.mem_of_getElem? (i := 17) rfl), List.forall_mem_cons.mpr ⟨pm_X10_watch_r1 _ (List.mem_of_getElem? (i := 18) rfl), fun _ h => absurd h List.not_mem_nil⟩⟩⟩⟩⟩⟩⟩⟩⟩⟩⟩⟩, pw_X10_watch_X10⟩⟩) (by decide +kernel)
set_option maxRecDepth 20000 in
theorem gX10_watch_X10_beginSum : GoodIn wsX10_watch (wsV RX10 392 RX10 yX10_beginSum wsX10_beginSum) := goodIn_app (goodIn_sub (List.forall_mem_cons.mpr ⟨pm_X10_watch_r1 _ (List.mem_of_getElem? (i := 19) rfl), List.forall_mem_cons.mpr ⟨pm_X10_watch_r1 _ (List.mem_of_getElem? (i := 20) rfl), List.forall_mem_cons.mpr ⟨pm_X10_watch_r1 _ (List.mem_of_getElem? (i := 21) rfl), List.forall_mem_cons.mpr ⟨pm_X10_watch_r1 _ (List.mem_of_getElem? (i := 8) rfl), fun _ h => absurd h List.not_mem_nil⟩⟩⟩⟩) (by decide +kernel)) ggX10_watch_X10_beginSum
set_option maxRecDepth 20000 in
theorem ggX10_watch_X10_must : GoodIn wsX10_watch wsX10_must := goodIn_sub (List.forall_mem_cons.mpr ⟨pm_X10_watch_r2 _ (List.mem_of_getElem? (i := 6) rfl), List.forall_mem_append.mpr ⟨List.forall_mem_cons.mpr ⟨pm_X10_watch_r2 _ (List.mem_of_getElem? (i := 2) rfl), List.forall_mem_cons.mpr ⟨pm_X10_watch_r1 _ (List.mem_of_getElem? (i := 23) rfl), List.forall_mem_cons.mpr ⟨pm_X10_watch_r2 _ (List.mem_of_getElem? (i := 0) rfl), List.forall_mem_cons.mpr ⟨pm_X10_watch_r2 _ (List.mem_of_getElem? (i := 1) rfl), List.forall_mem_cons.mpr ⟨pm_X10_watch_r2 _ (List.mem_of_getElem? (i := 7) rfl), List.forall_mem_cons.mpr ⟨pm_X10_watch_r2 _ (List.mem_of_getElem? (i := 8) rfl), List.forall_mem_cons.mpr ⟨pm_X10_watch_r2 _ (List.mem_of_getElem? (i := 9) rfl), List.forall_mem_cons.mpr ⟨pm_X10_watch_r1 _ (List.mem_of_getElem? (i := 8) rfl), List.forall_mem_cons.mpr ⟨pm_X10_watch_r2 _ (List.mem_of_getElem? (i := 10) rfl), fun _ h => absurd h List.not_mem_nil⟩⟩⟩⟩⟩⟩⟩⟩⟩, pw_X10_watch_X10⟩⟩) (by decide +kernel)
set_option maxRecDepth 20000 in
theorem gX10_watch_X10_must : GoodIn wsX10_watch (wsV RX10 395 RX10 yX10_must wsX10_must) := goodIn_app (goodIn_sub (List.forall_mem_cons.mpr ⟨pm_X10_watch_r2 _ (List.mem_of_getElem? (i := 3) rfl), List.forall_mem_cons.mpr ⟨pm_X10_watch_r2 _ (List.mem_of_getElem? (i := 4) rfl), List.forall_mem_cons.mpr ⟨pm_X10_watch_r2 _ (List.mem_of_getElem? (i := 5) rfl), List.forall_mem_cons.mpr ⟨pm_X10_watch_r1 _ (List.mem_of_getElem? (i := 8) rfl), fun _ h => absurd h List.not_mem_nil⟩⟩⟩⟩) (by decide +kernel)) ggX10_watch_X10_must
set_option maxRecDepth 20000 in
theorem pq_X10_watch_X10_isSum_r1 : ∀ w ∈ wsX10_isSum_r1, w ∈ wsX10_watch := List.forall_mem_cons.mpr ⟨pm_X10_watch_r2 _ (List.mem_of_getElem? (i := 2) rfl), List.forall_mem_cons.mpr ⟨pm_X10_watch_r2 _ (List.mem_of_getElem? (i := 1) rfl), List.forall_mem_cons.mpr ⟨pm_X10_watch_r1 _ (List.mem_of_getElem? (i := 23) rfl), List.forall_mem_cons.mpr ⟨pm_X10_watch_r2 _ (List.mem_of_getElem? (i := 0) rfl), List.forall_mem_cons.mpr ⟨pm_X10_watch_r2 _ (List.mem_of_getElem? (i := 7) rfl), List.forall_mem_cons.mpr ⟨pm_X10_watch_r2 _ (List.mem_of_getElem? (i := 8) rfl), List.forall_mem_cons.mpr ⟨pm_X10_watch_r2 _ (List.mem_of_getElem? (i := 9) rfl), List.forall_mem_cons.mpr ⟨pm_X10_watch_r1 _ (List.mem_of_getElem? (i := 8) rfl), List.forall_mem_cons.mpr ⟨pm_X10_watch_r2 _ (List.mem_of_getElem? (i := 10) rfl), List.forall_mem_cons.mpr ⟨pm_X10_watch_r2 _ (List.mem_of_getElem? (i := 15) rfl), List.forall_mem_cons.mpr ⟨pm_X10_watch_r2 _ (List.mem_of_getElem? (i := 16) rfl), List.forall_mem_cons.mpr ⟨pm_X10_watch_r2 _ (List.mem_of_getElem? (i := 17) rfl), List.forall_mem_cons.mpr ⟨pm_X10_watch_r2 _ (List.mem_of_getElem? (i := 18) rfl), List.forall_mem_cons.mpr ⟨pm_X10_watch_r1 _ (List.mem_of_getElem? (i := 1) rfl), List.forall_mem_cons.mpr ⟨pm_X10_watch_r1 _ (List.mem_of_getElem? (i := 17) rfl), List.forall_mem_cons.mpr ⟨pm_X10_watch_r1 _ (List.mem_of_getElem? (i := 3) rfl), List.forall_mem_cons.mpr ⟨pm_X10_watch_r1 _ (List.mem_of_getElem? (i := 18) rfl), List.forall_mem_cons.mpr ⟨pm_X10_watch_r1 _ (List.mem_of_getElem? (i := 4) rfl), List.forall_mem_cons.mpr ⟨pm_X10_watch_r1 _ (List.mem_of_getElem? (i := 13) rfl), List.forall_mem_cons.mpr ⟨pm_X10_watch_r1 _ (List.mem_of_getElem? (i := 14) rfl), List.forall_mem_cons.mpr ⟨pm_X10_watch_r1 _ (List.mem_of_getElem? (i := 15) rfl), List.forall_mem_cons.mpr ⟨pm_X10_watch_r1 _ (List.mem_of_getElem? (i := 16) rfl), List.forall_mem_cons.mpr ⟨pm_X10_watch_r2 _ (List.mem_of_getElem? (i := 19) rfl), List.forall_mem_cons.mpr ⟨pm_X10_watch_r2 _ (List.mem_of_getElem? (i := 20) rfl), fun _ h => absurd h List.not_mem_nil⟩⟩⟩⟩⟩⟩⟩⟩⟩⟩⟩⟩⟩⟩⟩⟩⟩⟩⟩⟩⟩⟩⟩⟩
set_option maxRecDepth 20000 in
theorem pq_X10_watch_X10_isSum_r2 : ∀ w ∈ wsX10_isSum_r2, w ∈ wsX10_watch := List.forall_mem_cons.mpr ⟨pm_X10_watch_r2 _ (List.mem_of_getElem? (i := 21) rfl), fun _ h => absurd h List.not_mem_nil⟩
set_option maxRecDepth 20000 in
theorem ggX10_watch_X10_isSum : GoodIn wsX10_watch wsX10_isSum := goodIn_sub (List.forall_mem_cons.mpr ⟨pm_X10_watch_r2 _ (List.mem_of_getElem? (i := 14) rfl), List.forall_mem_append.mpr ⟨List.forall_mem_append.mpr ⟨pq_X10_watch_X10_isSum_r1, pq_X10_watch_X10_isSum_r2⟩, pw_X10_watch_X10⟩⟩) (by decide +kernel)
set_option maxRecDepth 20000 in
theorem gX10_watch_X10_isSum : GoodIn wsX10_watch (wsV RX10 398 RX10 yX10_isSum wsX10_isSum) := goodIn_app (goodIn_sub (List.forall_mem_cons.mpr ⟨pm_X10_watch_r2 _ (List.mem_of_getElem? (i := 11) rfl), List.forall_mem_cons.mpr ⟨pm_X10_watch_r2 _ (List.mem_of_getElem? (i := 12) rfl), List.forall_mem_cons.mpr ⟨pm_X10_watch_r2 _ (List.mem_of_getElem? (i := 13) rfl), List.forall_mem_cons.mpr ⟨pm_X10_watch_r1 _ (List.mem_of_getElem? (i := 8) rfl), fun _ h => absurd h List.not_mem_nil⟩⟩⟩⟩) (by decide +kernel)) ggX10_watch_X10_isSum
set_option maxRecDepth 20000 in
theorem ggX10_watch_X10_apart : GoodIn wsX10_watch wsX10_apart := goodIn_sub (List.forall_mem_cons.mpr ⟨pm_X10_watch_r2 _ (List.mem_of_getElem? (i := 10) rfl), fun _ h => absurd h List.not_mem_nil⟩) (by decide +kernel)
set_option maxRecDepth 20000 in
theorem gX10_watch_X10_apart : GoodIn wsX10_watch (va_wsS RX10 331 yX10_apart wsX10_apart) := goodIn_app (goodIn_sub (List.forall_mem_cons.mpr ⟨pm_X10_watch_r2 _ (List.mem_of_getElem? (i := 8) rfl), List.forall_mem_cons.mpr ⟨pm_X10_watch_r2 _ (List.mem_of_getElem? (i := 9) rfl), List.forall_mem_cons.mpr ⟨pm_X10_watch_r1 _ (List.mem_of_getElem? (i := 8) rfl), fun _ h => absurd h List.not_mem_nil⟩⟩⟩) (by decide +kernel)) ggX10_watch_X10_apart
set_option maxRecDepth 20000 in
theorem ggX10_watch_X10_tell : GoodIn wsX10_watch wsX10_tell := goodIn_sub (List.forall_mem_cons.mpr ⟨pm_X10_watch_r3 _ (List.mem_of_getElem? (i := 1) rfl), List.forall_mem_append.mpr ⟨List.forall_mem_cons.mpr ⟨pm_X10_watch_r3 _ (List.mem_of_getElem? (i := 2) rfl), List.forall_mem_cons.mpr ⟨pm_X10_watch_r3 _ (List.mem_of_getElem? (i := 3) rfl), List.forall_mem_cons.mpr ⟨pm_X10_watch_r3 _ (List.mem_of_getElem? (i := 4) rfl), List.forall_mem_cons.mpr ⟨pm_X10_watch_r2 _ (List.mem_of_getElem? (i := 19) rfl), List.forall_mem_cons.mpr ⟨pm_X10_watch_r2 _ (List.mem_of_getElem? (i := 20) rfl), List.forall_mem_cons.mpr ⟨pm_X10_watch_r1 _ (List.mem_of_getElem? (i := 8) rfl), List.forall_mem_cons.mpr ⟨pm_X10_watch_r2 _ (List.mem_of_getElem? (i := 21) rfl), fun _ h => absurd h List.not_mem_nil⟩⟩⟩⟩⟩⟩⟩, pw_X10_watch_X10⟩⟩) (by decide +kernel)
set_option maxRecDepth 20000 in
theorem gX10_watch_X10_tell : GoodIn wsX10_watch (wsV RX10 355 RX10 yX10_tell wsX10_tell) := goodIn_app (goodIn_sub (List.forall_mem_cons.mpr ⟨pm_X10_watch_r2 _ (List.mem_of_getElem? (i := 22) rfl), List.forall_mem_cons.mpr ⟨pm_X10_watch_r2 _ (List.mem_of_getElem? (i := 23) rfl), List.forall_mem_cons.mpr ⟨pm_X10_watch_r3 _ (List.mem_of_getElem? (i := 0) rfl), List.forall_mem_cons.mpr ⟨pm_X10_watch_r1 _ (List.mem_of_getElem? (i := 8) rfl), fun _ h => absurd h List.not_mem_nil⟩⟩⟩⟩) (by decide +kernel)) ggX10_watch_X10_tell
theorem bX10_watch_0 : ((bys cX10_watch).drop 0).take 16 = [42, 27, 182, 0, 253, 153, 0, 15, 28, 133, 9, 20, 1, 6, 184, 0] := by decide +kernel
theorem dX10_watch_0 : decode cX10_watch 0 = .ok (.aload_n 0, 1) := do_42 (byt_at bX10_watch_0 (j := 0) rfl)
theorem dX10_watch_1 : decode cX10_watch 1 = .ok (.iload_n 1, 1) := do_27 (byt_at bX10_watch_0 (j := 1) rfl)
theorem dX10_watch_2 : decode cX10_watch 2 = .ok (.invokevirtual 253, 3) := do_182 0 253 (byt_at bX10_watch_0 (j := 2) rfl) (byt_at bX10_watch_0 (j := 3) rfl) (byt_at bX10_watch_0 (j := 4) rfl)
theorem dX10_watch_5 : decode cX10_watch 5 = .ok (.ifCond .eq 15, 3) := do_153 0 15 (byt_at bX10_watch_0 (j := 5) rfl) (byt_at bX10_watch_0 (j := 6) rfl) (byt_at bX10_watch_0 (j := 7) rfl) (by decide)
theorem dX10_watch_8 : decode cX10_watch 8 = .ok (.iload_n 2, 1) := do_28 (byt_at bX10_watch_0 (j := 8) rfl)
theorem dX10_watch_9 : decode cX10_watch 9 = .ok (.i2l, 1) := do_133 (byt_at bX10_watch_0 (j := 9) rfl)
theorem dX10_watch_10 : decode cX10_watch 10 = .ok (.lconst 0, 1) := do_9 (byt_at bX10_watch_0 (j := 10) rfl)
theorem dX10_watch_11 : decode cX10_watch 11 = .ok (.ldc2_w 262, 3) := do_20 1 6 (byt_at bX10_watch_0 (j := 11) rfl) (byt_at bX10_watch_0 (j := 12) rfl) (byt_at bX10_watch_0 (j := 13) rfl)
theorem bX10_watch_1 : ((bys cX10_watch).drop 16).take 16 = [174, 154, 0, 6, 16, 254, 172, 2, 62, 9, 55, 4, 10, 55, 6, 42] := by decide +kernel
theorem dX10_watch_14 : decode cX10_watch 14 = .ok (.invokestatic 174, 3) := do_184 0 174 (byt_at bX10_watch_0 (j := 14) rfl) (byt_at bX10_watch_0 (j := 15) rfl) (byt_at bX10_watch_1 (j := 0) rfl)
theorem dX10_watch_17 : decode cX10_watch 17 = .ok (.ifCond .ne 6, 3) := do_154 0 6 (byt_at bX10_watch_1 (j := 1) rfl) (byt_at bX10_watch_1 (j := 2) rfl) (byt_at bX10_watch_1 (j := 3) rfl) (by decide)
theorem dX10_watch_20 : decode cX10_watch 20 = .ok (.bipush (-2), 2) := do_16 254 (byt_at bX10_watch_1 (j := 4) rfl) (byt_at bX10_watch_1 (j := 5) rfl) (by decide)
theorem dX10_watch_22 : decode cX10_watch 22 = .ok (.ireturn, 1) := do_172 (byt_at bX10_watch_1 (j := 6) rfl)
theorem dX10_watch_23 : decode cX10_watch 23 = .ok (.iconst (-1), 1) := do_2 (byt_at bX10_watch_1 (j := 7) rfl)
theorem dX10_watch_24 : decode cX10_watch 24 = .ok (.istore_n 3, 1) := do_62 (byt_at bX10_watch_1 (j := 8) rfl)
theorem dX10_watch_25 : decode cX10_watch 25 = .ok (.lconst 0, 1) := do_9 (byt_at bX10_watch_1 (j := 9) rfl)
theorem dX10_watch_26 : decode cX10_watch 26 = .ok (.lstore 4, 2) := do_55 4 (byt_at bX10_watch_1 (j := 10) rfl) (byt_at bX10_watch_1 (j := 11) rfl)
theorem dX10_watch_28 : decode cX10_watch 28 = .ok (.lconst 1, 1) := do_10 (byt_at bX10_watch_1 (j := 12) rfl)
theorem dX10_watch_29 : decode cX10_watch 29 = .ok (.lstore 6, 2) := do_55 6 (byt_at bX10_watch_1 (j := 13) rfl) (byt_at bX10_watch_1 (j := 14) rfl)
theorem dX10_watch_31 : decode cX10_watch 31 = .ok (.aload_n 0, 1) := do_42 (byt_at bX10_watch_1 (j := 15) rfl)
theorem bX10_watch_2 : ((bys cX10_watch).drop 32).take 16 = [42, 180, 0, 17, 5, 46, 182, 1, 8, 133, 55, 8, 42, 180, 0, 17] := by decide +kernel
theorem dX10_watch_32 : decode cX10_watch 32 = .ok (.aload_n 0, 1) := do_42 (byt_at bX10_watch_2 (j := 0) rfl)
theorem dX10_watch_33 : decode cX10_watch 33 = .ok (.getfield 17, 3) := do_180 0 17 (byt_at bX10_watch_2 (j := 1) rfl) (byt_at bX10_watch_2 (j := 2) rfl) (byt_at bX10_watch_2 (j := 3) rfl)
theorem dX10_watch_36 : decode cX10_watch 36 = .ok (.iconst 2, 1) := do_5 (byt_at bX10_watch_2 (j := 4) rfl)
theorem dX10_watch_37 : decode cX10_watch 37 = .ok (.iaload, 1) := do_46 (byt_at bX10_watch_2 (j := 5) rfl)
theorem dX10_watch_38 : decode cX10_watch 38 = .ok (.invokevirtual 264, 3) := do_182 1 8 (byt_at bX10_watch_2 (j := 6) rfl) (byt_at bX10_watch_2 (j := 7) rfl) (byt_at bX10_watch_2 (j := 8) rfl)
theorem dX10_watch_41 : decode cX10_watch 41 = .ok (.i2l, 1) := do_133 (byt_at bX10_watch_2 (j := 9) rfl)
theorem dX10_watch_42 : decode cX10_watch 42 = .ok (.lstore 8, 2) := do_55 8 (byt_at bX10_watch_2 (j := 10) rfl) (byt_at bX10_watch_2 (j := 11) rfl)
theorem dX10_watch_44 : decode cX10_watch 44 = .ok (.aload_n 0, 1) := do_42 (byt_at bX10_watch_2 (j := 12) rfl)
theorem dX10_watch_45 : decode cX10_watch 45 = .ok (.getfield 17, 3) := do_180 0 17 (byt_at bX10_watch_2 (j := 13) rfl) (byt_at bX10_watch_2 (j := 14) rfl) (byt_at bX10_watch_2 (j := 15) rfl)
theorem bX10_watch_3 : ((bys cX10_watch).drop 48).take 16 = [3, 46, 133, 55, 10, 3, 54, 12, 21, 12, 42, 180, 0, 17, 3, 46] := by decide +kernel
theorem dX10_watch_48 : decode cX10_watch 48 = .ok (.iconst 0, 1) := do_3 (byt_at bX10_watch_3 (j := 0) rfl)
theorem dX10_watch_49 : decode cX10_watch 49 = .ok (.iaload, 1) := do_46 (byt_at bX10_watch_3 (j := 1) rfl)
theorem dX10_watch_50 : decode cX10_watch 50 = .ok (.i2l, 1) := do_133 (byt_at bX10_watch_3 (j := 2) rfl)
theorem dX10_watch_51 : decode cX10_watch 51 = .ok (.lstore 10, 2) := do_55 10 (byt_at bX10_watch_3 (j := 3) rfl) (byt_at bX10_watch_3 (j := 4) rfl)
theorem dX10_watch_53 : decode cX10_watch 53 = .ok (.iconst 0, 1) := do_3 (byt_at bX10_watch_3 (j := 5) rfl)
theorem dX10_watch_54 : decode cX10_watch 54 = .ok (.istore 12, 2) := do_54 12 (byt_at bX10_watch_3 (j := 6) rfl) (byt_at bX10_watch_3 (j := 7) rfl)
theorem dX10_watch_56 : decode cX10_watch 56 = .ok (.iload 12, 2) := do_21 12 (byt_at bX10_watch_3 (j := 8) rfl) (byt_at bX10_watch_3 (j := 9) rfl)
theorem dX10_watch_58 : decode cX10_watch 58 = .ok (.aload_n 0, 1) := do_42 (byt_at bX10_watch_3 (j := 10) rfl)
theorem dX10_watch_59 : decode cX10_watch 59 = .ok (.getfield 17, 3) := do_180 0 17 (byt_at bX10_watch_3 (j := 11) rfl) (byt_at bX10_watch_3 (j := 12) rfl) (byt_at bX10_watch_3 (j := 13) rfl)
theorem dX10_watch_62 : decode cX10_watch 62 = .ok (.iconst 0, 1) := do_3 (byt_at bX10_watch_3 (j := 14) rfl)
theorem dX10_watch_63 : decode cX10_watch 63 = .ok (.iaload, 1) := do_46 (byt_at bX10_watch_3 (j := 15) rfl)
theorem bX10_watch_4 : ((bys cX10_watch).drop 64).take 16 = [163, 0, 171, 42, 182, 1, 136, 3, 54, 13, 21, 13, 42, 180, 0, 17] := by decide +kernel
theorem dX10_watch_64 : decode cX10_watch 64 = .ok (.if_icmp .gt 171, 3) := do_163 0 171 (byt_at bX10_watch_4 (j := 0) rfl) (byt_at bX10_watch_4 (j := 1) rfl) (byt_at bX10_watch_4 (j := 2) rfl) (by decide)
theorem dX10_watch_67 : decode cX10_watch 67 = .ok (.aload_n 0, 1) := do_42 (byt_at bX10_watch_4 (j := 3) rfl)
theorem dX10_watch_68 : decode cX10_watch 68 = .ok (.invokevirtual 392, 3) := do_182 1 136 (byt_at bX10_watch_4 (j := 4) rfl) (byt_at bX10_watch_4 (j := 5) rfl) (byt_at bX10_watch_4 (j := 6) rfl)
theorem dX10_watch_71 : decode cX10_watch 71 = .ok (.iconst 0, 1) := do_3 (byt_at bX10_watch_4 (j := 7) rfl)
theorem dX10_watch_72 : decode cX10_watch 72 = .ok (.istore 13, 2) := do_54 13 (byt_at bX10_watch_4 (j := 8) rfl) (byt_at bX10_watch_4 (j := 9) rfl)
theorem dX10_watch_74 : decode cX10_watch 74 = .ok (.iload 13, 2) := do_21 13 (byt_at bX10_watch_4 (j := 10) rfl) (byt_at bX10_watch_4 (j := 11) rfl)
theorem dX10_watch_76 : decode cX10_watch 76 = .ok (.aload_n 0, 1) := do_42 (byt_at bX10_watch_4 (j := 12) rfl)
theorem dX10_watch_77 : decode cX10_watch 77 = .ok (.getfield 17, 3) := do_180 0 17 (byt_at bX10_watch_4 (j := 13) rfl) (byt_at bX10_watch_4 (j := 14) rfl) (byt_at bX10_watch_4 (j := 15) rfl)
theorem bX10_watch_5 : ((bys cX10_watch).drop 80).take 16 = [7, 46, 162, 0, 47, 21, 13, 27, 159, 0, 35, 42, 21, 12, 133, 22] := by decide +kernel
theorem dX10_watch_80 : decode cX10_watch 80 = .ok (.iconst 4, 1) := do_7 (byt_at bX10_watch_5 (j := 0) rfl)
theorem dX10_watch_81 : decode cX10_watch 81 = .ok (.iaload, 1) := do_46 (byt_at bX10_watch_5 (j := 1) rfl)
theorem dX10_watch_82 : decode cX10_watch 82 = .ok (.if_icmp .ge 47, 3) := do_162 0 47 (byt_at bX10_watch_5 (j := 2) rfl) (byt_at bX10_watch_5 (j := 3) rfl) (byt_at bX10_watch_5 (j := 4) rfl) (by decide)
theorem dX10_watch_85 : decode cX10_watch 85 = .ok (.iload 13, 2) := do_21 13 (byt_at bX10_watch_5 (j := 5) rfl) (byt_at bX10_watch_5 (j := 6) rfl)
theorem dX10_watch_87 : decode cX10_watch 87 = .ok (.iload_n 1, 1) := do_27 (byt_at bX10_watch_5 (j := 7) rfl)
theorem dX10_watch_88 : decode cX10_watch 88 = .ok (.if_icmp .eq 35, 3) := do_159 0 35 (byt_at bX10_watch_5 (j := 8) rfl) (byt_at bX10_watch_5 (j := 9) rfl) (byt_at bX10_watch_5 (j := 10) rfl) (by decide)
theorem dX10_watch_91 : decode cX10_watch 91 = .ok (.aload_n 0, 1) := do_42 (byt_at bX10_watch_5 (j := 11) rfl)
theorem dX10_watch_92 : decode cX10_watch 92 = .ok (.iload 12, 2) := do_21 12 (byt_at bX10_watch_5 (j := 12) rfl) (byt_at bX10_watch_5 (j := 13) rfl)
theorem dX10_watch_94 : decode cX10_watch 94 = .ok (.i2l, 1) := do_133 (byt_at bX10_watch_5 (j := 14) rfl)
theorem bX10_watch_6 : ((bys cX10_watch).drop 96).take 16 = [10, 42, 180, 0, 31, 27, 46, 42, 180, 0, 31, 21, 13, 46, 100, 133] := by decide +kernel
theorem dX10_watch_95 : decode cX10_watch 95 = .ok (.lload 10, 2) := do_22 10 (byt_at bX10_watch_5 (j := 15) rfl) (byt_at bX10_watch_6 (j := 0) rfl)
theorem dX10_watch_97 : decode cX10_watch 97 = .ok (.aload_n 0, 1) := do_42 (byt_at bX10_watch_6 (j := 1) rfl)
theorem dX10_watch_98 : decode cX10_watch 98 = .ok (.getfield 31, 3) := do_180 0 31 (byt_at bX10_watch_6 (j := 2) rfl) (byt_at bX10_watch_6 (j := 3) rfl) (byt_at bX10_watch_6 (j := 4) rfl)
theorem dX10_watch_101 : decode cX10_watch 101 = .ok (.iload_n 1, 1) := do_27 (byt_at bX10_watch_6 (j := 5) rfl)
theorem dX10_watch_102 : decode cX10_watch 102 = .ok (.iaload, 1) := do_46 (byt_at bX10_watch_6 (j := 6) rfl)
theorem dX10_watch_103 : decode cX10_watch 103 = .ok (.aload_n 0, 1) := do_42 (byt_at bX10_watch_6 (j := 7) rfl)
theorem dX10_watch_104 : decode cX10_watch 104 = .ok (.getfield 31, 3) := do_180 0 31 (byt_at bX10_watch_6 (j := 8) rfl) (byt_at bX10_watch_6 (j := 9) rfl) (byt_at bX10_watch_6 (j := 10) rfl)
theorem dX10_watch_107 : decode cX10_watch 107 = .ok (.iload 13, 2) := do_21 13 (byt_at bX10_watch_6 (j := 11) rfl) (byt_at bX10_watch_6 (j := 12) rfl)
theorem dX10_watch_109 : decode cX10_watch 109 = .ok (.iaload, 1) := do_46 (byt_at bX10_watch_6 (j := 13) rfl)
theorem dX10_watch_110 : decode cX10_watch 110 = .ok (.isub, 1) := do_100 (byt_at bX10_watch_6 (j := 14) rfl)
theorem dX10_watch_111 : decode cX10_watch 111 = .ok (.i2l, 1) := do_133 (byt_at bX10_watch_6 (j := 15) rfl)
theorem bX10_watch_7 : ((bys cX10_watch).drop 112).take 16 = [105, 21, 12, 133, 22, 8, 105, 97, 182, 1, 139, 132, 13, 1, 167, 255] := by decide +kernel
theorem dX10_watch_112 : decode cX10_watch 112 = .ok (.lmul, 1) := do_105 (byt_at bX10_watch_7 (j := 0) rfl)
theorem dX10_watch_113 : decode cX10_watch 113 = .ok (.iload 12, 2) := do_21 12 (byt_at bX10_watch_7 (j := 1) rfl) (byt_at bX10_watch_7 (j := 2) rfl)
theorem dX10_watch_115 : decode cX10_watch 115 = .ok (.i2l, 1) := do_133 (byt_at bX10_watch_7 (j := 3) rfl)
theorem dX10_watch_116 : decode cX10_watch 116 = .ok (.lload 8, 2) := do_22 8 (byt_at bX10_watch_7 (j := 4) rfl) (byt_at bX10_watch_7 (j := 5) rfl)
theorem dX10_watch_118 : decode cX10_watch 118 = .ok (.lmul, 1) := do_105 (byt_at bX10_watch_7 (j := 6) rfl)
theorem dX10_watch_119 : decode cX10_watch 119 = .ok (.ladd, 1) := do_97 (byt_at bX10_watch_7 (j := 7) rfl)
theorem dX10_watch_120 : decode cX10_watch 120 = .ok (.invokevirtual 395, 3) := do_182 1 139 (byt_at bX10_watch_7 (j := 8) rfl) (byt_at bX10_watch_7 (j := 9) rfl) (byt_at bX10_watch_7 (j := 10) rfl)
theorem dX10_watch_123 : decode cX10_watch 123 = .ok (.iinc 13 1, 3) := do_132 13 1 (byt_at bX10_watch_7 (j := 11) rfl) (byt_at bX10_watch_7 (j := 12) rfl) (byt_at bX10_watch_7 (j := 13) rfl) (by decide)
theorem bX10_watch_8 : ((bys cX10_watch).drop 128).take 16 = [204, 42, 10, 42, 180, 0, 31, 27, 46, 42, 180, 0, 17, 4, 46, 96] := by decide +kernel
theorem dX10_watch_126 : decode cX10_watch 126 = .ok (.goto (-52), 3) := do_167 255 204 (byt_at bX10_watch_7 (j := 14) rfl) (byt_at bX10_watch_7 (j := 15) rfl) (byt_at bX10_watch_8 (j := 0) rfl) (by decide)
theorem dX10_watch_129 : decode cX10_watch 129 = .ok (.aload_n 0, 1) := do_42 (byt_at bX10_watch_8 (j := 1) rfl)
theorem dX10_watch_130 : decode cX10_watch 130 = .ok (.lconst 1, 1) := do_10 (byt_at bX10_watch_8 (j := 2) rfl)
theorem dX10_watch_131 : decode cX10_watch 131 = .ok (.aload_n 0, 1) := do_42 (byt_at bX10_watch_8 (j := 3) rfl)
theorem dX10_watch_132 : decode cX10_watch 132 = .ok (.getfield 31, 3) := do_180 0 31 (byt_at bX10_watch_8 (j := 4) rfl) (byt_at bX10_watch_8 (j := 5) rfl) (byt_at bX10_watch_8 (j := 6) rfl)
theorem dX10_watch_135 : decode cX10_watch 135 = .ok (.iload_n 1, 1) := do_27 (byt_at bX10_watch_8 (j := 7) rfl)
theorem dX10_watch_136 : decode cX10_watch 136 = .ok (.iaload, 1) := do_46 (byt_at bX10_watch_8 (j := 8) rfl)
theorem dX10_watch_137 : decode cX10_watch 137 = .ok (.aload_n 0, 1) := do_42 (byt_at bX10_watch_8 (j := 9) rfl)
theorem dX10_watch_138 : decode cX10_watch 138 = .ok (.getfield 17, 3) := do_180 0 17 (byt_at bX10_watch_8 (j := 10) rfl) (byt_at bX10_watch_8 (j := 11) rfl) (byt_at bX10_watch_8 (j := 12) rfl)
theorem dX10_watch_141 : decode cX10_watch 141 = .ok (.iconst 1, 1) := do_4 (byt_at bX10_watch_8 (j := 13) rfl)
theorem dX10_watch_142 : decode cX10_watch 142 = .ok (.iaload, 1) := do_46 (byt_at bX10_watch_8 (j := 14) rfl)
theorem dX10_watch_143 : decode cX10_watch 143 = .ok (.iadd, 1) := do_96 (byt_at bX10_watch_8 (j := 15) rfl)
theorem bX10_watch_9 : ((bys cX10_watch).drop 144).take 16 = [133, 182, 1, 139, 42, 182, 1, 142, 154, 0, 6, 167, 0, 74, 22, 10] := by decide +kernel
theorem dX10_watch_144 : decode cX10_watch 144 = .ok (.i2l, 1) := do_133 (byt_at bX10_watch_9 (j := 0) rfl)
theorem dX10_watch_145 : decode cX10_watch 145 = .ok (.invokevirtual 395, 3) := do_182 1 139 (byt_at bX10_watch_9 (j := 1) rfl) (byt_at bX10_watch_9 (j := 2) rfl) (byt_at bX10_watch_9 (j := 3) rfl)
theorem dX10_watch_148 : decode cX10_watch 148 = .ok (.aload_n 0, 1) := do_42 (byt_at bX10_watch_9 (j := 4) rfl)
theorem dX10_watch_149 : decode cX10_watch 149 = .ok (.invokevirtual 398, 3) := do_182 1 142 (byt_at bX10_watch_9 (j := 5) rfl) (byt_at bX10_watch_9 (j := 6) rfl) (byt_at bX10_watch_9 (j := 7) rfl)
theorem dX10_watch_152 : decode cX10_watch 152 = .ok (.ifCond .ne 6, 3) := do_154 0 6 (byt_at bX10_watch_9 (j := 8) rfl) (byt_at bX10_watch_9 (j := 9) rfl) (byt_at bX10_watch_9 (j := 10) rfl) (by decide)
theorem dX10_watch_155 : decode cX10_watch 155 = .ok (.goto 74, 3) := do_167 0 74 (byt_at bX10_watch_9 (j := 11) rfl) (byt_at bX10_watch_9 (j := 12) rfl) (byt_at bX10_watch_9 (j := 13) rfl) (by decide)
theorem dX10_watch_158 : decode cX10_watch 158 = .ok (.lload 10, 2) := do_22 10 (byt_at bX10_watch_9 (j := 14) rfl) (byt_at bX10_watch_9 (j := 15) rfl)
theorem bX10_watch_10 : ((bys cX10_watch).drop 160).take 16 = [42, 180, 0, 64, 3, 47, 105, 21, 12, 133, 28, 133, 105, 42, 180, 0] := by decide +kernel
theorem dX10_watch_160 : decode cX10_watch 160 = .ok (.aload_n 0, 1) := do_42 (byt_at bX10_watch_10 (j := 0) rfl)
theorem dX10_watch_161 : decode cX10_watch 161 = .ok (.getfield 64, 3) := do_180 0 64 (byt_at bX10_watch_10 (j := 1) rfl) (byt_at bX10_watch_10 (j := 2) rfl) (byt_at bX10_watch_10 (j := 3) rfl)
theorem dX10_watch_164 : decode cX10_watch 164 = .ok (.iconst 0, 1) := do_3 (byt_at bX10_watch_10 (j := 4) rfl)
theorem dX10_watch_165 : decode cX10_watch 165 = .ok (.laload, 1) := do_47 (byt_at bX10_watch_10 (j := 5) rfl)
theorem dX10_watch_166 : decode cX10_watch 166 = .ok (.lmul, 1) := do_105 (byt_at bX10_watch_10 (j := 6) rfl)
theorem dX10_watch_167 : decode cX10_watch 167 = .ok (.iload 12, 2) := do_21 12 (byt_at bX10_watch_10 (j := 7) rfl) (byt_at bX10_watch_10 (j := 8) rfl)
theorem dX10_watch_169 : decode cX10_watch 169 = .ok (.i2l, 1) := do_133 (byt_at bX10_watch_10 (j := 9) rfl)
theorem dX10_watch_170 : decode cX10_watch 170 = .ok (.iload_n 2, 1) := do_28 (byt_at bX10_watch_10 (j := 10) rfl)
theorem dX10_watch_171 : decode cX10_watch 171 = .ok (.i2l, 1) := do_133 (byt_at bX10_watch_10 (j := 11) rfl)
theorem dX10_watch_172 : decode cX10_watch 172 = .ok (.lmul, 1) := do_105 (byt_at bX10_watch_10 (j := 12) rfl)
theorem dX10_watch_173 : decode cX10_watch 173 = .ok (.aload_n 0, 1) := do_42 (byt_at bX10_watch_10 (j := 13) rfl)
theorem bX10_watch_11 : ((bys cX10_watch).drop 176).take 16 = [67, 3, 47, 105, 97, 55, 13, 22, 10, 42, 180, 0, 67, 3, 47, 105] := by decide +kernel
theorem dX10_watch_174 : decode cX10_watch 174 = .ok (.getfield 67, 3) := do_180 0 67 (byt_at bX10_watch_10 (j := 14) rfl) (byt_at bX10_watch_10 (j := 15) rfl) (byt_at bX10_watch_11 (j := 0) rfl)
theorem dX10_watch_177 : decode cX10_watch 177 = .ok (.iconst 0, 1) := do_3 (byt_at bX10_watch_11 (j := 1) rfl)
theorem dX10_watch_178 : decode cX10_watch 178 = .ok (.laload, 1) := do_47 (byt_at bX10_watch_11 (j := 2) rfl)
theorem dX10_watch_179 : decode cX10_watch 179 = .ok (.lmul, 1) := do_105 (byt_at bX10_watch_11 (j := 3) rfl)
theorem dX10_watch_180 : decode cX10_watch 180 = .ok (.ladd, 1) := do_97 (byt_at bX10_watch_11 (j := 4) rfl)
theorem dX10_watch_181 : decode cX10_watch 181 = .ok (.lstore 13, 2) := do_55 13 (byt_at bX10_watch_11 (j := 5) rfl) (byt_at bX10_watch_11 (j := 6) rfl)
theorem dX10_watch_183 : decode cX10_watch 183 = .ok (.lload 10, 2) := do_22 10 (byt_at bX10_watch_11 (j := 7) rfl) (byt_at bX10_watch_11 (j := 8) rfl)
theorem dX10_watch_185 : decode cX10_watch 185 = .ok (.aload_n 0, 1) := do_42 (byt_at bX10_watch_11 (j := 9) rfl)
theorem dX10_watch_186 : decode cX10_watch 186 = .ok (.getfield 67, 3) := do_180 0 67 (byt_at bX10_watch_11 (j := 10) rfl) (byt_at bX10_watch_11 (j := 11) rfl) (byt_at bX10_watch_11 (j := 12) rfl)
theorem dX10_watch_189 : decode cX10_watch 189 = .ok (.iconst 0, 1) := do_3 (byt_at bX10_watch_11 (j := 13) rfl)
theorem dX10_watch_190 : decode cX10_watch 190 = .ok (.laload, 1) := do_47 (byt_at bX10_watch_11 (j := 14) rfl)
theorem dX10_watch_191 : decode cX10_watch 191 = .ok (.lmul, 1) := do_105 (byt_at bX10_watch_11 (j := 15) rfl)
theorem bX10_watch_12 : ((bys cX10_watch).drop 192).take 16 = [55, 15, 29, 2, 159, 0, 22, 22, 13, 22, 15, 22, 4, 22, 6, 184] := by decide +kernel
theorem dX10_watch_192 : decode cX10_watch 192 = .ok (.lstore 15, 2) := do_55 15 (byt_at bX10_watch_12 (j := 0) rfl) (byt_at bX10_watch_12 (j := 1) rfl)
theorem dX10_watch_194 : decode cX10_watch 194 = .ok (.iload_n 3, 1) := do_29 (byt_at bX10_watch_12 (j := 2) rfl)
theorem dX10_watch_195 : decode cX10_watch 195 = .ok (.iconst (-1), 1) := do_2 (byt_at bX10_watch_12 (j := 3) rfl)
theorem dX10_watch_196 : decode cX10_watch 196 = .ok (.if_icmp .eq 22, 3) := do_159 0 22 (byt_at bX10_watch_12 (j := 4) rfl) (byt_at bX10_watch_12 (j := 5) rfl) (byt_at bX10_watch_12 (j := 6) rfl) (by decide)
theorem dX10_watch_199 : decode cX10_watch 199 = .ok (.lload 13, 2) := do_22 13 (byt_at bX10_watch_12 (j := 7) rfl) (byt_at bX10_watch_12 (j := 8) rfl)
theorem dX10_watch_201 : decode cX10_watch 201 = .ok (.lload 15, 2) := do_22 15 (byt_at bX10_watch_12 (j := 9) rfl) (byt_at bX10_watch_12 (j := 10) rfl)
theorem dX10_watch_203 : decode cX10_watch 203 = .ok (.lload 4, 2) := do_22 4 (byt_at bX10_watch_12 (j := 11) rfl) (byt_at bX10_watch_12 (j := 12) rfl)
theorem dX10_watch_205 : decode cX10_watch 205 = .ok (.lload 6, 2) := do_22 6 (byt_at bX10_watch_12 (j := 13) rfl) (byt_at bX10_watch_12 (j := 14) rfl)
theorem bX10_watch_13 : ((bys cX10_watch).drop 208).take 16 = [1, 75, 9, 148, 155, 0, 6, 167, 0, 14, 21, 12, 62, 22, 13, 55] := by decide +kernel
theorem dX10_watch_207 : decode cX10_watch 207 = .ok (.invokestatic 331, 3) := do_184 1 75 (byt_at bX10_watch_12 (j := 15) rfl) (byt_at bX10_watch_13 (j := 0) rfl) (byt_at bX10_watch_13 (j := 1) rfl)
theorem dX10_watch_210 : decode cX10_watch 210 = .ok (.lconst 0, 1) := do_9 (byt_at bX10_watch_13 (j := 2) rfl)
theorem dX10_watch_211 : decode cX10_watch 211 = .ok (.lcmp, 1) := do_148 (byt_at bX10_watch_13 (j := 3) rfl)
theorem dX10_watch_212 : decode cX10_watch 212 = .ok (.ifCond .lt 6, 3) := do_155 0 6 (byt_at bX10_watch_13 (j := 4) rfl) (byt_at bX10_watch_13 (j := 5) rfl) (byt_at bX10_watch_13 (j := 6) rfl) (by decide)
theorem dX10_watch_215 : decode cX10_watch 215 = .ok (.goto 14, 3) := do_167 0 14 (byt_at bX10_watch_13 (j := 7) rfl) (byt_at bX10_watch_13 (j := 8) rfl) (byt_at bX10_watch_13 (j := 9) rfl) (by decide)
theorem dX10_watch_218 : decode cX10_watch 218 = .ok (.iload 12, 2) := do_21 12 (byt_at bX10_watch_13 (j := 10) rfl) (byt_at bX10_watch_13 (j := 11) rfl)
theorem dX10_watch_220 : decode cX10_watch 220 = .ok (.istore_n 3, 1) := do_62 (byt_at bX10_watch_13 (j := 12) rfl)
theorem dX10_watch_221 : decode cX10_watch 221 = .ok (.lload 13, 2) := do_22 13 (byt_at bX10_watch_13 (j := 13) rfl) (byt_at bX10_watch_13 (j := 14) rfl)
theorem bX10_watch_14 : ((bys cX10_watch).drop 224).take 16 = [4, 22, 15, 55, 6, 132, 12, 1, 167, 255, 80, 29, 2, 159, 0, 11] := by decide +kernel
theorem dX10_watch_223 : decode cX10_watch 223 = .ok (.lstore 4, 2) := do_55 4 (byt_at bX10_watch_13 (j := 15) rfl) (byt_at bX10_watch_14 (j := 0) rfl)
theorem dX10_watch_225 : decode cX10_watch 225 = .ok (.lload 15, 2) := do_22 15 (byt_at bX10_watch_14 (j := 1) rfl) (byt_at bX10_watch_14 (j := 2) rfl)
theorem dX10_watch_227 : decode cX10_watch 227 = .ok (.lstore 6, 2) := do_55 6 (byt_at bX10_watch_14 (j := 3) rfl) (byt_at bX10_watch_14 (j := 4) rfl)
theorem dX10_watch_229 : decode cX10_watch 229 = .ok (.iinc 12 1, 3) := do_132 12 1 (byt_at bX10_watch_14 (j := 5) rfl) (byt_at bX10_watch_14 (j := 6) rfl) (byt_at bX10_watch_14 (j := 7) rfl) (by decide)
theorem dX10_watch_232 : decode cX10_watch 232 = .ok (.goto (-176), 3) := do_167 255 80 (byt_at bX10_watch_14 (j := 8) rfl) (byt_at bX10_watch_14 (j := 9) rfl) (byt_at bX10_watch_14 (j := 10) rfl) (by decide)
theorem dX10_watch_235 : decode cX10_watch 235 = .ok (.iload_n 3, 1) := do_29 (byt_at bX10_watch_14 (j := 11) rfl)
theorem dX10_watch_236 : decode cX10_watch 236 = .ok (.iconst (-1), 1) := do_2 (byt_at bX10_watch_14 (j := 12) rfl)
theorem dX10_watch_237 : decode cX10_watch 237 = .ok (.if_icmp .eq 11, 3) := do_159 0 11 (byt_at bX10_watch_14 (j := 13) rfl) (byt_at bX10_watch_14 (j := 14) rfl) (byt_at bX10_watch_14 (j := 15) rfl) (by decide)
theorem bX10_watch_15 : ((bys cX10_watch).drop 240).take 16 = [42, 22, 4, 22, 6, 182, 1, 99, 29, 172] := by decide +kernel
theorem dX10_watch_240 : decode cX10_watch 240 = .ok (.aload_n 0, 1) := do_42 (byt_at bX10_watch_15 (j := 0) rfl)
theorem dX10_watch_241 : decode cX10_watch 241 = .ok (.lload 4, 2) := do_22 4 (byt_at bX10_watch_15 (j := 1) rfl) (byt_at bX10_watch_15 (j := 2) rfl)
theorem dX10_watch_243 : decode cX10_watch 243 = .ok (.lload 6, 2) := do_22 6 (byt_at bX10_watch_15 (j := 3) rfl) (byt_at bX10_watch_15 (j := 4) rfl)
theorem dX10_watch_245 : decode cX10_watch 245 = .ok (.invokevirtual 355, 3) := do_182 1 99 (byt_at bX10_watch_15 (j := 5) rfl) (byt_at bX10_watch_15 (j := 6) rfl) (byt_at bX10_watch_15 (j := 7) rfl)
theorem dX10_watch_248 : decode cX10_watch 248 = .ok (.iload_n 3, 1) := do_29 (byt_at bX10_watch_15 (j := 8) rfl)
theorem dX10_watch_249 : decode cX10_watch 249 = .ok (.ireturn, 1) := do_172 (byt_at bX10_watch_15 (j := 9) rfl)
set_option maxRecDepth 20000 in
theorem ggX10_press_X10_isWork : GoodIn wsX10_press wsX10_isWork := goodIn_sub (List.forall_mem_cons.mpr ⟨List.mem_cons_of_mem _ (List.mem_append_left _ (List.mem_of_getElem? (i := 6) rfl)), List.forall_mem_append.mpr ⟨List.forall_mem_cons.mpr ⟨List.mem_cons_of_mem _ (List.mem_append_left _ (List.mem_of_getElem? (i := 7) rfl)), List.forall_mem_cons.mpr ⟨List.mem_cons_of_mem _ (List.mem_append_left _ (List.mem_of_getElem? (i := 8) rfl)), List.forall_mem_cons.mpr ⟨List.mem_cons_of_mem _ (List.mem_append_left _ (List.mem_of_getElem? (i := 9) rfl)), List.forall_mem_cons.mpr ⟨List.mem_cons_of_mem _ (List.mem_append_left _ (List.mem_of_getElem? (i := 5) rfl)), List.forall_mem_cons.mpr ⟨List.mem_cons_of_mem _ (List.mem_append_left _ (List.mem_of_getElem? (i := 10) rfl)), fun _ h => absurd h List.not_mem_nil⟩⟩⟩⟩⟩, fun _ h => List.mem_cons_of_mem _ (List.mem_append_right _ h)⟩⟩) (by decide +kernel)
set_option maxRecDepth 20000 in
theorem gX10_press_X10_isWork : GoodIn wsX10_press (wsV RX10 253 RX10 yX10_isWork wsX10_isWork) := goodIn_app (goodIn_sub (List.forall_mem_cons.mpr ⟨List.mem_cons_of_mem _ (List.mem_append_left _ (List.mem_of_getElem? (i := 2) rfl)), List.forall_mem_cons.mpr ⟨List.mem_cons_of_mem _ (List.mem_append_left _ (List.mem_of_getElem? (i := 3) rfl)), List.forall_mem_cons.mpr ⟨List.mem_cons_of_mem _ (List.mem_append_left _ (List.mem_of_getElem? (i := 4) rfl)), List.forall_mem_cons.mpr ⟨List.mem_cons_of_mem _ (List.mem_append_left _ (List.mem_of_getElem? (i := 5) rfl)), fun _ h => absurd h List.not_mem_nil⟩⟩⟩⟩) (by decide +kernel)) ggX10_press_X10_isWork
set_option maxRecDepth 20000 in
theorem ggX10_press_X10_in : GoodIn wsX10_press wsX10_in := goodIn_sub (List.forall_mem_cons.mpr ⟨List.mem_cons_of_mem _ (List.mem_append_left _ (List.mem_of_getElem? (i := 10) rfl)), fun _ h => absurd h List.not_mem_nil⟩) (by decide +kernel)
set_option maxRecDepth 20000 in
theorem gX10_press_X10_in : GoodIn wsX10_press (va_wsS RX10 174 yX10_in wsX10_in) := goodIn_app (goodIn_sub (List.forall_mem_cons.mpr ⟨List.mem_cons_of_mem _ (List.mem_append_left _ (List.mem_of_getElem? (i := 8) rfl)), List.forall_mem_cons.mpr ⟨List.mem_cons_of_mem _ (List.mem_append_left _ (List.mem_of_getElem? (i := 9) rfl)), List.forall_mem_cons.mpr ⟨List.mem_cons_of_mem _ (List.mem_append_left _ (List.mem_of_getElem? (i := 5) rfl)), fun _ h => absurd h List.not_mem_nil⟩⟩⟩) (by decide +kernel)) ggX10_press_X10_in
theorem bX10_press_0 : ((bys cX10_press).drop 0).take 16 = [27, 2, 159, 0, 11, 42, 27, 182, 0, 253, 153, 0, 15, 28, 133, 9] := by decide +kernel
theorem dX10_press_0 : decode cX10_press 0 = .ok (.iload_n 1, 1) := do_27 (byt_at bX10_press_0 (j := 0) rfl)
theorem dX10_press_1 : decode cX10_press 1 = .ok (.iconst (-1), 1) := do_2 (byt_at bX10_press_0 (j := 1) rfl)
theorem dX10_press_2 : decode cX10_press 2 = .ok (.if_icmp .eq 11, 3) := do_159 0 11 (byt_at bX10_press_0 (j := 2) rfl) (byt_at bX10_press_0 (j := 3) rfl) (byt_at bX10_press_0 (j := 4) rfl) (by decide)
theorem dX10_press_5 : decode cX10_press 5 = .ok (.aload_n 0, 1) := do_42 (byt_at bX10_press_0 (j := 5) rfl)
theorem dX10_press_6 : decode cX10_press 6 = .ok (.iload_n 1, 1) := do_27 (byt_at bX10_press_0 (j := 6) rfl)
theorem dX10_press_7 : decode cX10_press 7 = .ok (.invokevirtual 253, 3) := do_182 0 253 (byt_at bX10_press_0 (j := 7) rfl) (byt_at bX10_press_0 (j := 8) rfl) (byt_at bX10_press_0 (j := 9) rfl)
theorem dX10_press_10 : decode cX10_press 10 = .ok (.ifCond .eq 15, 3) := do_153 0 15 (byt_at bX10_press_0 (j := 10) rfl) (byt_at bX10_press_0 (j := 11) rfl) (byt_at bX10_press_0 (j := 12) rfl) (by decide)
theorem dX10_press_13 : decode cX10_press 13 = .ok (.iload_n 2, 1) := do_28 (byt_at bX10_press_0 (j := 13) rfl)
theorem dX10_press_14 : decode cX10_press 14 = .ok (.i2l, 1) := do_133 (byt_at bX10_press_0 (j := 14) rfl)
theorem dX10_press_15 : decode cX10_press 15 = .ok (.lconst 0, 1) := do_9 (byt_at bX10_press_0 (j := 15) rfl)
theorem bX10_press_1 : ((bys cX10_press).drop 16).take 16 = [20, 1, 6, 184, 0, 174, 154, 0, 6, 16, 254, 172, 27, 2, 160, 0] := by decide +kernel
theorem dX10_press_16 : decode cX10_press 16 = .ok (.ldc2_w 262, 3) := do_20 1 6 (byt_at bX10_press_1 (j := 0) rfl) (byt_at bX10_press_1 (j := 1) rfl) (byt_at bX10_press_1 (j := 2) rfl)
theorem dX10_press_19 : decode cX10_press 19 = .ok (.invokestatic 174, 3) := do_184 0 174 (byt_at bX10_press_1 (j := 3) rfl) (byt_at bX10_press_1 (j := 4) rfl) (byt_at bX10_press_1 (j := 5) rfl)
theorem dX10_press_22 : decode cX10_press 22 = .ok (.ifCond .ne 6, 3) := do_154 0 6 (byt_at bX10_press_1 (j := 6) rfl) (byt_at bX10_press_1 (j := 7) rfl) (byt_at bX10_press_1 (j := 8) rfl) (by decide)
theorem dX10_press_25 : decode cX10_press 25 = .ok (.bipush (-2), 2) := do_16 254 (byt_at bX10_press_1 (j := 9) rfl) (byt_at bX10_press_1 (j := 10) rfl) (by decide)
theorem dX10_press_27 : decode cX10_press 27 = .ok (.ireturn, 1) := do_172 (byt_at bX10_press_1 (j := 11) rfl)
theorem dX10_press_28 : decode cX10_press 28 = .ok (.iload_n 1, 1) := do_27 (byt_at bX10_press_1 (j := 12) rfl)
theorem dX10_press_29 : decode cX10_press 29 = .ok (.iconst (-1), 1) := do_2 (byt_at bX10_press_1 (j := 13) rfl)
theorem bX10_press_2 : ((bys cX10_press).drop 32).take 16 = [7, 8, 167, 0, 4, 27, 62, 42, 180, 0, 85, 29, 46, 54, 4, 42] := by decide +kernel
theorem dX10_press_30 : decode cX10_press 30 = .ok (.if_icmp .ne 7, 3) := do_160 0 7 (byt_at bX10_press_1 (j := 14) rfl) (byt_at bX10_press_1 (j := 15) rfl) (byt_at bX10_press_2 (j := 0) rfl) (by decide)
theorem dX10_press_33 : decode cX10_press 33 = .ok (.iconst 5, 1) := do_8 (byt_at bX10_press_2 (j := 1) rfl)
theorem dX10_press_34 : decode cX10_press 34 = .ok (.goto 4, 3) := do_167 0 4 (byt_at bX10_press_2 (j := 2) rfl) (byt_at bX10_press_2 (j := 3) rfl) (byt_at bX10_press_2 (j := 4) rfl) (by decide)
theorem dX10_press_37 : decode cX10_press 37 = .ok (.iload_n 1, 1) := do_27 (byt_at bX10_press_2 (j := 5) rfl)
theorem dX10_press_38 : decode cX10_press 38 = .ok (.istore_n 3, 1) := do_62 (byt_at bX10_press_2 (j := 6) rfl)
theorem dX10_press_39 : decode cX10_press 39 = .ok (.aload_n 0, 1) := do_42 (byt_at bX10_press_2 (j := 7) rfl)
theorem dX10_press_40 : decode cX10_press 40 = .ok (.getfield 85, 3) := do_180 0 85 (byt_at bX10_press_2 (j := 8) rfl) (byt_at bX10_press_2 (j := 9) rfl) (byt_at bX10_press_2 (j := 10) rfl)
theorem dX10_press_43 : decode cX10_press 43 = .ok (.iload_n 3, 1) := do_29 (byt_at bX10_press_2 (j := 11) rfl)
theorem dX10_press_44 : decode cX10_press 44 = .ok (.iaload, 1) := do_46 (byt_at bX10_press_2 (j := 12) rfl)
theorem dX10_press_45 : decode cX10_press 45 = .ok (.istore 4, 2) := do_54 4 (byt_at bX10_press_2 (j := 13) rfl) (byt_at bX10_press_2 (j := 14) rfl)
theorem dX10_press_47 : decode cX10_press 47 = .ok (.aload_n 0, 1) := do_42 (byt_at bX10_press_2 (j := 15) rfl)
theorem bX10_press_3 : ((bys cX10_press).drop 48).take 16 = [180, 0, 85, 29, 28, 79, 21, 4, 172] := by decide +kernel
theorem dX10_press_48 : decode cX10_press 48 = .ok (.getfield 85, 3) := do_180 0 85 (byt_at bX10_press_3 (j := 0) rfl) (byt_at bX10_press_3 (j := 1) rfl) (byt_at bX10_press_3 (j := 2) rfl)
theorem dX10_press_51 : decode cX10_press 51 = .ok (.iload_n 3, 1) := do_29 (byt_at bX10_press_3 (j := 3) rfl)
theorem dX10_press_52 : decode cX10_press 52 = .ok (.iload_n 2, 1) := do_28 (byt_at bX10_press_3 (j := 4) rfl)
theorem dX10_press_53 : decode cX10_press 53 = .ok (.iastore, 1) := do_79 (byt_at bX10_press_3 (j := 5) rfl)
theorem dX10_press_54 : decode cX10_press 54 = .ok (.iload 4, 2) := do_21 4 (byt_at bX10_press_3 (j := 6) rfl) (byt_at bX10_press_3 (j := 7) rfl)
theorem dX10_press_56 : decode cX10_press 56 = .ok (.ireturn, 1) := do_172 (byt_at bX10_press_3 (j := 8) rfl)
set_option maxRecDepth 20000 in
theorem ggX10_by_X10_in : GoodIn wsX10_by wsX10_in := goodIn_sub (List.forall_mem_cons.mpr ⟨List.mem_cons_of_mem _ (List.mem_append_left _ (List.mem_of_getElem? (i := 5) rfl)), fun _ h => absurd h List.not_mem_nil⟩) (by decide +kernel)
set_option maxRecDepth 20000 in
theorem gX10_by_X10_in : GoodIn wsX10_by (va_wsS RX10 174 yX10_in wsX10_in) := goodIn_app (goodIn_sub (List.forall_mem_cons.mpr ⟨List.mem_cons_of_mem _ (List.mem_append_left _ (List.mem_of_getElem? (i := 2) rfl)), List.forall_mem_cons.mpr ⟨List.mem_cons_of_mem _ (List.mem_append_left _ (List.mem_of_getElem? (i := 3) rfl)), List.forall_mem_cons.mpr ⟨List.mem_cons_of_mem _ (List.mem_append_left _ (List.mem_of_getElem? (i := 4) rfl)), fun _ h => absurd h List.not_mem_nil⟩⟩⟩) (by decide +kernel)) ggX10_by_X10_in
theorem bX10_by_0 : ((bys cX10_by).drop 0).take 16 = [27, 133, 10, 20, 1, 6, 184, 0, 174, 154, 0, 6, 16, 254, 172, 42] := by decide +kernel
theorem dX10_by_0 : decode cX10_by 0 = .ok (.iload_n 1, 1) := do_27 (byt_at bX10_by_0 (j := 0) rfl)
theorem dX10_by_1 : decode cX10_by 1 = .ok (.i2l, 1) := do_133 (byt_at bX10_by_0 (j := 1) rfl)
theorem dX10_by_2 : decode cX10_by 2 = .ok (.lconst 1, 1) := do_10 (byt_at bX10_by_0 (j := 2) rfl)
theorem dX10_by_3 : decode cX10_by 3 = .ok (.ldc2_w 262, 3) := do_20 1 6 (byt_at bX10_by_0 (j := 3) rfl) (byt_at bX10_by_0 (j := 4) rfl) (byt_at bX10_by_0 (j := 5) rfl)
theorem dX10_by_6 : decode cX10_by 6 = .ok (.invokestatic 174, 3) := do_184 0 174 (byt_at bX10_by_0 (j := 6) rfl) (byt_at bX10_by_0 (j := 7) rfl) (byt_at bX10_by_0 (j := 8) rfl)
theorem dX10_by_9 : decode cX10_by 9 = .ok (.ifCond .ne 6, 3) := do_154 0 6 (byt_at bX10_by_0 (j := 9) rfl) (byt_at bX10_by_0 (j := 10) rfl) (byt_at bX10_by_0 (j := 11) rfl) (by decide)
theorem dX10_by_12 : decode cX10_by 12 = .ok (.bipush (-2), 2) := do_16 254 (byt_at bX10_by_0 (j := 12) rfl) (byt_at bX10_by_0 (j := 13) rfl) (by decide)
theorem dX10_by_14 : decode cX10_by 14 = .ok (.ireturn, 1) := do_172 (byt_at bX10_by_0 (j := 14) rfl)
theorem dX10_by_15 : decode cX10_by 15 = .ok (.aload_n 0, 1) := do_42 (byt_at bX10_by_0 (j := 15) rfl)
theorem bX10_by_1 : ((bys cX10_by).drop 16).take 16 = [180, 0, 190, 61, 42, 27, 181, 0, 190, 28, 172] := by decide +kernel
theorem dX10_by_16 : decode cX10_by 16 = .ok (.getfield 190, 3) := do_180 0 190 (byt_at bX10_by_1 (j := 0) rfl) (byt_at bX10_by_1 (j := 1) rfl) (byt_at bX10_by_1 (j := 2) rfl)
theorem dX10_by_19 : decode cX10_by 19 = .ok (.istore_n 2, 1) := do_61 (byt_at bX10_by_1 (j := 3) rfl)
theorem dX10_by_20 : decode cX10_by 20 = .ok (.aload_n 0, 1) := do_42 (byt_at bX10_by_1 (j := 4) rfl)
theorem dX10_by_21 : decode cX10_by 21 = .ok (.iload_n 1, 1) := do_27 (byt_at bX10_by_1 (j := 5) rfl)
theorem dX10_by_22 : decode cX10_by 22 = .ok (.putfield 190, 3) := do_181 0 190 (byt_at bX10_by_1 (j := 6) rfl) (byt_at bX10_by_1 (j := 7) rfl) (byt_at bX10_by_1 (j := 8) rfl)
theorem dX10_by_25 : decode cX10_by 25 = .ok (.iload_n 2, 1) := do_28 (byt_at bX10_by_1 (j := 9) rfl)
theorem dX10_by_26 : decode cX10_by 26 = .ok (.ireturn, 1) := do_172 (byt_at bX10_by_1 (j := 10) rfl)
theorem kk_X10_bar_0 : Cond.fieldLink RX10 17 "PaidBySignsModel" "num" "[I" ∈ wsX10_bar := pm_X10_bar_r1 _ (List.mem_of_getElem? (i := 0) rfl)
theorem kk_X10_bar_1 : Cond.fieldLink RX10 31 "PaidBySignsModel" "costs" "[I" ∈ wsX10_bar := pm_X10_bar_r1 _ (List.mem_of_getElem? (i := 1) rfl)
theorem kk_X10_bar_2 : Cond.fieldLink RX10 64 "PaidBySignsModel" "wageUp" "[J" ∈ wsX10_bar := pm_X10_bar_r1 _ (List.mem_of_getElem? (i := 2) rfl)
theorem kk_X10_bar_3 : Cond.fieldLink RX10 67 "PaidBySignsModel" "wageLow" "[J" ∈ wsX10_bar := pm_X10_bar_r1 _ (List.mem_of_getElem? (i := 3) rfl)
theorem kk_X10_crew_0 : Cond.fieldLink RX10 17 "PaidBySignsModel" "num" "[I" ∈ wsX10_crew := pm_X10_crew_r1 _ (List.mem_of_getElem? (i := 0) rfl)
theorem kk_X10_crew_1 : Cond.fieldLink RX10 31 "PaidBySignsModel" "costs" "[I" ∈ wsX10_crew := pm_X10_crew_r1 _ (List.mem_of_getElem? (i := 1) rfl)
theorem kk_X10_crew_2 : Cond.fieldLink RX10 64 "PaidBySignsModel" "wageUp" "[J" ∈ wsX10_crew := pm_X10_crew_r1 _ (List.mem_of_getElem? (i := 2) rfl)
theorem kk_X10_crew_3 : Cond.fieldLink RX10 67 "PaidBySignsModel" "wageLow" "[J" ∈ wsX10_crew := pm_X10_crew_r1 _ (List.mem_of_getElem? (i := 3) rfl)
theorem kk_X10_watch_0 : Cond.constantLong RX10 262 (9999) ∈ wsX10_watch := pm_X10_watch_r1 _ (List.mem_of_getElem? (i := 0) rfl)
theorem kk_X10_watch_1 : Cond.fieldLink RX10 17 "PaidBySignsModel" "num" "[I" ∈ wsX10_watch := pm_X10_watch_r1 _ (List.mem_of_getElem? (i := 1) rfl)
theorem kk_X10_watch_2 : Cond.fieldLink RX10 31 "PaidBySignsModel" "costs" "[I" ∈ wsX10_watch := pm_X10_watch_r1 _ (List.mem_of_getElem? (i := 2) rfl)
theorem kk_X10_watch_3 : Cond.fieldLink RX10 64 "PaidBySignsModel" "wageUp" "[J" ∈ wsX10_watch := pm_X10_watch_r1 _ (List.mem_of_getElem? (i := 3) rfl)
theorem kk_X10_watch_4 : Cond.fieldLink RX10 67 "PaidBySignsModel" "wageLow" "[J" ∈ wsX10_watch := pm_X10_watch_r1 _ (List.mem_of_getElem? (i := 4) rfl)
theorem kk_X10_press_0 : Cond.constantLong RX10 262 (9999) ∈ wsX10_press := List.mem_cons_of_mem _ (List.mem_append_left _ (List.mem_of_getElem? (i := 0) rfl))
theorem kk_X10_press_1 : Cond.fieldLink RX10 85 "PaidBySignsModel" "presses" "[I" ∈ wsX10_press := List.mem_cons_of_mem _ (List.mem_append_left _ (List.mem_of_getElem? (i := 1) rfl))
theorem kk_X10_by_0 : Cond.constantLong RX10 262 (9999) ∈ wsX10_by := List.mem_cons_of_mem _ (List.mem_append_left _ (List.mem_of_getElem? (i := 0) rfl))
theorem kk_X10_by_1 : Cond.fieldLink RX10 190 "PaidBySignsModel" "lowerPress" "I" ∈ wsX10_by := List.mem_cons_of_mem _ (List.mem_append_left _ (List.mem_of_getElem? (i := 1) rfl))
theorem iw_X10_bar_X10 : ∀ w ∈ wsX100, w ∈ wsX10_bar := pw_X10_bar_X10
theorem iw_X10_crew_X10 : ∀ w ∈ wsX100, w ∈ wsX10_crew := pw_X10_crew_X10
theorem iw_X10_watch_X10 : ∀ w ∈ wsX100, w ∈ wsX10_watch := pw_X10_watch_X10
theorem iw_X10_press_X10 : ∀ w ∈ wsX100, w ∈ wsX10_press := fun _ h => List.mem_cons_of_mem _ (List.mem_append_right _ h)
theorem iw_X10_by_X10 : ∀ w ∈ wsX100, w ∈ wsX10_by := fun _ h => List.mem_cons_of_mem _ (List.mem_append_right _ h)
