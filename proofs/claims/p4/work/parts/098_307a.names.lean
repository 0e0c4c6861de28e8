abbrev cX10_leaves : ByteArray := prog_12_method_36_code
def yX10_leaves : MethodName := ⟨RX10, "leaves", "(I)I"⟩
abbrev cX10_doneWork : ByteArray := prog_12_method_37_code
def yX10_doneWork : MethodName := ⟨RX10, "doneWork", "()I"⟩
abbrev cX10_does : ByteArray := prog_12_method_38_code
def yX10_does : MethodName := ⟨RX10, "does", "()I"⟩
abbrev cX10_comes : ByteArray := prog_12_method_39_code
def yX10_comes : MethodName := ⟨RX10, "comes", "()I"⟩
abbrev cX10_common : ByteArray := prog_12_method_40_code
def yX10_common : MethodName := ⟨RX10, "common", "(JJ)J"⟩
def wsX10_leaves : List Cond := .code yX10_leaves cX10_leaves 2 (some .int) :: ([.constant RX10 270 (-2000000000), .methodLink RX10 253 yX10_isWork, .instanceMethod yX10_isWork, .selects RX10 yX10_isWork yX10_isWork, .initialized RX10, .code yX10_isWork cX10_isWork 2 (some .boolean), .fieldLink RX10 17 "PaidBySignsModel" "num" "[I", .methodLink RX10 174 yX10_in, .static yX10_in, .code yX10_in cX10_in 6 (some .boolean), .methodLink RX10 271 yX10_leftBy, .instanceMethod yX10_leftBy, .selects RX10 yX10_leftBy yX10_leftBy, .code yX10_leftBy cX10_leftBy 4 (some .int), .fieldLink RX10 28 "PaidBySignsModel" "brings" "[I", .fieldLink RX10 43 "PaidBySignsModel" "hand" "[I", .methodLink RX10 259 yX10_chanceOf, .instanceMethod yX10_chanceOf, .selects RX10 yX10_chanceOf yX10_chanceOf, .code yX10_chanceOf cX10_chanceOf 3 (some .int), .fieldLink RX10 34 "PaidBySignsModel" "chances" "[I"] ++ wsX100)
def wsX10_doneWork : List Cond := .code yX10_doneWork cX10_doneWork 4 (some .int) :: ([.fieldLink RX10 17 "PaidBySignsModel" "num" "[I", .methodLink RX10 267 yX10_worthOf, .instanceMethod yX10_worthOf, .selects RX10 yX10_worthOf yX10_worthOf, .initialized RX10, .code yX10_worthOf cX10_worthOf 4 (some .int), .fieldLink RX10 31 "PaidBySignsModel" "costs" "[I", .fieldLink RX10 43 "PaidBySignsModel" "hand" "[I", .methodLink RX10 259 yX10_chanceOf, .instanceMethod yX10_chanceOf, .selects RX10 yX10_chanceOf yX10_chanceOf, .code yX10_chanceOf cX10_chanceOf 3 (some .int), .fieldLink RX10 34 "PaidBySignsModel" "chances" "[I", .methodLink RX10 264 yX10_feel, .instanceMethod yX10_feel, .selects RX10 yX10_feel yX10_feel, .code yX10_feel cX10_feel 6 (some .int), .fieldLink RX10 40 "PaidBySignsModel" "marks" "[I", .fieldLink RX10 37 "PaidBySignsModel" "rates" "[I", .methodLink RX10 271 yX10_leftBy, .instanceMethod yX10_leftBy, .selects RX10 yX10_leftBy yX10_leftBy, .code yX10_leftBy cX10_leftBy 4 (some .int), .fieldLink RX10 28 "PaidBySignsModel" "brings" "[I"] ++ wsX100)
def wsX10_does_r1 : List Cond := [Cond.fieldLink RX10 17 "PaidBySignsModel" "num" "[I", Cond.methodLink RX10 274 yX10_doneWork, Cond.instanceMethod yX10_doneWork, Cond.selects RX10 yX10_doneWork yX10_doneWork, Cond.initialized RX10, Cond.code yX10_doneWork cX10_doneWork 4 (some .int), Cond.methodLink RX10 267 yX10_worthOf, Cond.instanceMethod yX10_worthOf, Cond.selects RX10 yX10_worthOf yX10_worthOf, Cond.code yX10_worthOf cX10_worthOf 4 (some .int), Cond.fieldLink RX10 31 "PaidBySignsModel" "costs" "[I", Cond.fieldLink RX10 43 "PaidBySignsModel" "hand" "[I", Cond.methodLink RX10 259 yX10_chanceOf, Cond.instanceMethod yX10_chanceOf, Cond.selects RX10 yX10_chanceOf yX10_chanceOf, Cond.code yX10_chanceOf cX10_chanceOf 3 (some .int), Cond.fieldLink RX10 34 "PaidBySignsModel" "chances" "[I", Cond.methodLink RX10 264 yX10_feel, Cond.instanceMethod yX10_feel, Cond.selects RX10 yX10_feel yX10_feel, Cond.code yX10_feel cX10_feel 6 (some .int), Cond.fieldLink RX10 40 "PaidBySignsModel" "marks" "[I", Cond.fieldLink RX10 37 "PaidBySignsModel" "rates" "[I", Cond.methodLink RX10 271 yX10_leftBy]
def wsX10_does_r2 : List Cond := [Cond.instanceMethod yX10_leftBy, Cond.selects RX10 yX10_leftBy yX10_leftBy, Cond.code yX10_leftBy cX10_leftBy 4 (some .int), Cond.fieldLink RX10 28 "PaidBySignsModel" "brings" "[I"]
def wsX10_does : List Cond := .code yX10_does cX10_does 1 (some .int) :: ((wsX10_does_r1 ++ wsX10_does_r2) ++ wsX100)
def wsX10_comes_r1 : List Cond := [Cond.fieldLink RX10 17 "PaidBySignsModel" "num" "[I", Cond.methodLink RX10 274 yX10_doneWork, Cond.instanceMethod yX10_doneWork, Cond.selects RX10 yX10_doneWork yX10_doneWork, Cond.initialized RX10, Cond.code yX10_doneWork cX10_doneWork 4 (some .int), Cond.methodLink RX10 267 yX10_worthOf, Cond.instanceMethod yX10_worthOf, Cond.selects RX10 yX10_worthOf yX10_worthOf, Cond.code yX10_worthOf cX10_worthOf 4 (some .int), Cond.fieldLink RX10 31 "PaidBySignsModel" "costs" "[I", Cond.fieldLink RX10 43 "PaidBySignsModel" "hand" "[I", Cond.methodLink RX10 259 yX10_chanceOf, Cond.instanceMethod yX10_chanceOf, Cond.selects RX10 yX10_chanceOf yX10_chanceOf, Cond.code yX10_chanceOf cX10_chanceOf 3 (some .int), Cond.fieldLink RX10 34 "PaidBySignsModel" "chances" "[I", Cond.methodLink RX10 264 yX10_feel, Cond.instanceMethod yX10_feel, Cond.selects RX10 yX10_feel yX10_feel, Cond.code yX10_feel cX10_feel 6 (some .int), Cond.fieldLink RX10 40 "PaidBySignsModel" "marks" "[I", Cond.fieldLink RX10 37 "PaidBySignsModel" "rates" "[I", Cond.methodLink RX10 271 yX10_leftBy]
def wsX10_comes_r2 : List Cond := [Cond.instanceMethod yX10_leftBy, Cond.selects RX10 yX10_leftBy yX10_leftBy, Cond.code yX10_leftBy cX10_leftBy 4 (some .int), Cond.fieldLink RX10 28 "PaidBySignsModel" "brings" "[I"]
def wsX10_comes : List Cond := .code yX10_comes cX10_comes 1 (some .int) :: ((wsX10_comes_r1 ++ wsX10_comes_r2) ++ wsX100)
def wsX10_common : List Cond := .code yX10_common cX10_common 10 (some .long) :: ([])
set_option maxRecDepth 20000 in
theorem ggX10_leaves_X10_isWork : GoodIn wsX10_leaves wsX10_isWork := goodIn_r _ [6, 7, 8, 9, 5, 10, 22, 23, 24, 25, 26, 27, 28, 29, 30, 31, 32, 33, 34, 35, 36, 37, 38, 39, 40, 41, 42, 43, 44, 45, 46, 47, 48, 49, 50, 51, 52, 53, 54, 55, 56, 57, 58, 59, 60, 61, 62, 63, 64, 65, 66, 67, 68, 69, 70, 71, 72, 73, 74, 75, 76, 77, 78, 79, 80, 81, 82, 83, 84, 85, 86] (by decide +kernel) (by decide +kernel)
set_option maxRecDepth 20000 in
theorem gX10_leaves_X10_isWork : GoodIn wsX10_leaves (wsV RX10 253 RX10 yX10_isWork wsX10_isWork) := goodIn_app (goodIn_of _ (by decide +kernel)) ggX10_leaves_X10_isWork
set_option maxRecDepth 20000 in
theorem ggX10_leaves_X10_leftBy : GoodIn wsX10_leaves wsX10_leftBy := goodIn_r _ [14, 7, 15, 16, 17, 18, 19, 5, 20, 21, 22, 23, 24, 25, 26, 27, 28, 29, 30, 31, 32, 33, 34, 35, 36, 37, 38, 39, 40, 41, 42, 43, 44, 45, 46, 47, 48, 49, 50, 51, 52, 53, 54, 55, 56, 57, 58, 59, 60, 61, 62, 63, 64, 65, 66, 67, 68, 69, 70, 71, 72, 73, 74, 75, 76, 77, 78, 79, 80, 81, 82, 83, 84, 85, 86] (by decide +kernel) (by decide +kernel)
set_option maxRecDepth 20000 in
theorem gX10_leaves_X10_leftBy : GoodIn wsX10_leaves (wsV RX10 271 RX10 yX10_leftBy wsX10_leftBy) := goodIn_app (goodIn_of _ (by decide +kernel)) ggX10_leaves_X10_leftBy
theorem dX10_leaves_0 : decode cX10_leaves 0 = .ok (.aload_n 0, 1) := by decide +kernel
theorem dX10_leaves_1 : decode cX10_leaves 1 = .ok (.iload_n 1, 1) := by decide +kernel
theorem dX10_leaves_2 : decode cX10_leaves 2 = .ok (.invokevirtual 253, 3) := by decide +kernel
theorem dX10_leaves_5 : decode cX10_leaves 5 = .ok (.ifCond .eq 11, 3) := by decide +kernel
theorem dX10_leaves_8 : decode cX10_leaves 8 = .ok (.aload_n 0, 1) := by decide +kernel
theorem dX10_leaves_9 : decode cX10_leaves 9 = .ok (.iload_n 1, 1) := by decide +kernel
theorem dX10_leaves_10 : decode cX10_leaves 10 = .ok (.invokevirtual 271, 3) := by decide +kernel
theorem dX10_leaves_13 : decode cX10_leaves 13 = .ok (.goto 6, 3) := by decide +kernel
theorem dX10_leaves_16 : decode cX10_leaves 16 = .ok (.ldc_w 270, 3) := by decide +kernel
theorem dX10_leaves_19 : decode cX10_leaves 19 = .ok (.ireturn, 1) := by decide +kernel
set_option maxRecDepth 20000 in
theorem ggX10_doneWork_X10_worthOf : GoodIn wsX10_doneWork wsX10_worthOf := goodIn_r _ [6, 1, 7, 8, 9, 10, 11, 5, 12, 13, 14, 15, 16, 17, 18, 19, 25, 26, 27, 28, 29, 30, 31, 32, 33, 34, 35, 36, 37, 38, 39, 40, 41, 42, 43, 44, 45, 46, 47, 48, 49, 50, 51, 52, 53, 54, 55, 56, 57, 58, 59, 60, 61, 62, 63, 64, 65, 66, 67, 68, 69, 70, 71, 72, 73, 74, 75, 76, 77, 78, 79, 80, 81, 82, 83, 84, 85, 86, 87, 88, 89] (by decide +kernel) (by decide +kernel)
set_option maxRecDepth 20000 in
theorem gX10_doneWork_X10_worthOf : GoodIn wsX10_doneWork (wsV RX10 267 RX10 yX10_worthOf wsX10_worthOf) := goodIn_app (goodIn_of _ (by decide +kernel)) ggX10_doneWork_X10_worthOf
set_option maxRecDepth 20000 in
theorem ggX10_doneWork_X10_leftBy : GoodIn wsX10_doneWork wsX10_leftBy := goodIn_r _ [23, 1, 24, 8, 9, 10, 11, 5, 12, 13, 25, 26, 27, 28, 29, 30, 31, 32, 33, 34, 35, 36, 37, 38, 39, 40, 41, 42, 43, 44, 45, 46, 47, 48, 49, 50, 51, 52, 53, 54, 55, 56, 57, 58, 59, 60, 61, 62, 63, 64, 65, 66, 67, 68, 69, 70, 71, 72, 73, 74, 75, 76, 77, 78, 79, 80, 81, 82, 83, 84, 85, 86, 87, 88, 89] (by decide +kernel) (by decide +kernel)
set_option maxRecDepth 20000 in
theorem gX10_doneWork_X10_leftBy : GoodIn wsX10_doneWork (wsV RX10 271 RX10 yX10_leftBy wsX10_leftBy) := goodIn_app (goodIn_of _ (by decide +kernel)) ggX10_doneWork_X10_leftBy
theorem dX10_doneWork_0 : decode cX10_doneWork 0 = .ok (.iconst 0, 1) := by decide +kernel
theorem dX10_doneWork_1 : decode cX10_doneWork 1 = .ok (.istore_n 1, 1) := by decide +kernel
theorem dX10_doneWork_2 : decode cX10_doneWork 2 = .ok (.iconst 1, 1) := by decide +kernel
theorem dX10_doneWork_3 : decode cX10_doneWork 3 = .ok (.istore_n 2, 1) := by decide +kernel
theorem dX10_doneWork_4 : decode cX10_doneWork 4 = .ok (.iload_n 2, 1) := by decide +kernel
theorem dX10_doneWork_5 : decode cX10_doneWork 5 = .ok (.aload_n 0, 1) := by decide +kernel
theorem dX10_doneWork_6 : decode cX10_doneWork 6 = .ok (.getfield 17, 3) := by decide +kernel
theorem dX10_doneWork_9 : decode cX10_doneWork 9 = .ok (.iconst 4, 1) := by decide +kernel
theorem dX10_doneWork_10 : decode cX10_doneWork 10 = .ok (.iaload, 1) := by decide +kernel
theorem dX10_doneWork_11 : decode cX10_doneWork 11 = .ok (.if_icmp .ge 44, 3) := by decide +kernel
theorem dX10_doneWork_14 : decode cX10_doneWork 14 = .ok (.aload_n 0, 1) := by decide +kernel
theorem dX10_doneWork_15 : decode cX10_doneWork 15 = .ok (.iload_n 2, 1) := by decide +kernel
theorem dX10_doneWork_16 : decode cX10_doneWork 16 = .ok (.invokevirtual 267, 3) := by decide +kernel
theorem dX10_doneWork_19 : decode cX10_doneWork 19 = .ok (.aload_n 0, 1) := by decide +kernel
theorem dX10_doneWork_20 : decode cX10_doneWork 20 = .ok (.iload_n 1, 1) := by decide +kernel
theorem dX10_doneWork_21 : decode cX10_doneWork 21 = .ok (.invokevirtual 267, 3) := by decide +kernel
theorem dX10_doneWork_24 : decode cX10_doneWork 24 = .ok (.isub, 1) := by decide +kernel
theorem dX10_doneWork_25 : decode cX10_doneWork 25 = .ok (.istore_n 3, 1) := by decide +kernel
theorem dX10_doneWork_26 : decode cX10_doneWork 26 = .ok (.iload_n 3, 1) := by decide +kernel
theorem dX10_doneWork_27 : decode cX10_doneWork 27 = .ok (.ifCond .gt 20, 3) := by decide +kernel
theorem dX10_doneWork_30 : decode cX10_doneWork 30 = .ok (.iload_n 3, 1) := by decide +kernel
theorem dX10_doneWork_31 : decode cX10_doneWork 31 = .ok (.ifCond .ne 18, 3) := by decide +kernel
theorem dX10_doneWork_34 : decode cX10_doneWork 34 = .ok (.aload_n 0, 1) := by decide +kernel
theorem dX10_doneWork_35 : decode cX10_doneWork 35 = .ok (.iload_n 2, 1) := by decide +kernel
theorem dX10_doneWork_36 : decode cX10_doneWork 36 = .ok (.invokevirtual 271, 3) := by decide +kernel
theorem dX10_doneWork_39 : decode cX10_doneWork 39 = .ok (.aload_n 0, 1) := by decide +kernel
theorem dX10_doneWork_40 : decode cX10_doneWork 40 = .ok (.iload_n 1, 1) := by decide +kernel
theorem dX10_doneWork_41 : decode cX10_doneWork 41 = .ok (.invokevirtual 271, 3) := by decide +kernel
theorem dX10_doneWork_44 : decode cX10_doneWork 44 = .ok (.if_icmp .le 5, 3) := by decide +kernel
theorem dX10_doneWork_47 : decode cX10_doneWork 47 = .ok (.iload_n 2, 1) := by decide +kernel
theorem dX10_doneWork_48 : decode cX10_doneWork 48 = .ok (.istore_n 1, 1) := by decide +kernel
theorem dX10_doneWork_49 : decode cX10_doneWork 49 = .ok (.iinc 2 1, 3) := by decide +kernel
theorem dX10_doneWork_52 : decode cX10_doneWork 52 = .ok (.goto (-48), 3) := by decide +kernel
theorem dX10_doneWork_55 : decode cX10_doneWork 55 = .ok (.iload_n 1, 1) := by decide +kernel
theorem dX10_doneWork_56 : decode cX10_doneWork 56 = .ok (.ireturn, 1) := by decide +kernel
theorem pm_X10_does_r1 : ∀ w ∈ wsX10_does_r1, w ∈ wsX10_does := fun _ h => List.mem_cons_of_mem _ (List.mem_append_left _ (List.mem_append_left _ h))
theorem pm_X10_does_r2 : ∀ w ∈ wsX10_does_r2, w ∈ wsX10_does := fun _ h => List.mem_cons_of_mem _ (List.mem_append_left _ (List.mem_append_right _ (h)))
theorem pw_X10_does_X10 : ∀ w ∈ wsX100, w ∈ wsX10_does := fun _ h => List.mem_cons_of_mem _ (List.mem_append_right _ h)
set_option maxRecDepth 20000 in
theorem ggX10_does_X10_doneWork : GoodIn wsX10_does wsX10_doneWork := goodIn_sub (List.forall_mem_cons.mpr ⟨pm_X10_does_r1 _ (List.mem_of_getElem? (i := 5) rfl), List.forall_mem_append.mpr ⟨List.forall_mem_cons.mpr ⟨pm_X10_does_r1 _ (List.mem_of_getElem? (i := 0) rfl), List.forall_mem_cons.mpr ⟨pm_X10_does_r1 _ (List.mem_of_getElem? (i := 6) rfl), List.forall_mem_cons.mpr ⟨pm_X10_does_r1 _ (List.mem_of_getElem? (i := 7) rfl), List.forall_mem_cons.mpr ⟨pm_X10_does_r1 _ (List.mem_of_getElem? (i := 8) rfl), List.forall_mem_cons.mpr ⟨pm_X10_does_r1 _ (List.mem_of_getElem? (i := 4) rfl), List.forall_mem_cons.mpr ⟨pm_X10_does_r1 _ (List.mem_of_getElem? (i := 9) rfl), List.forall_mem_cons.mpr ⟨pm_X10_does_r1 _ (List.mem_of_getElem? (i := 10) rfl), List.forall_mem_cons.mpr ⟨pm_X10_does_r1 _ (List.mem_of_getElem? (i := 11) rfl), List.forall_mem_cons.mpr ⟨pm_X10_does_r1 _ (List.mem_of_getElem? (i := 12) rfl), List.forall_mem_cons.mpr ⟨pm_X10_does_r1 _ (List.mem_of_getElem? (i := 13) rfl), List.forall_mem_cons.mpr ⟨pm_X10_does_r1 _ (List.mem_of_getElem? (i := 14) rfl), List.forall_mem_cons.mpr ⟨pm_X10_does_r1 _ (List.mem_of_getElem? (i := 15) rfl), List.forall_mem_cons.mpr ⟨pm_X10_does_r1 _ (List.mem_of_getElem? (i := 16) rfl), List.forall_mem_cons.mpr ⟨pm_X10_does_r1 _ (List.mem_of_getElem? (i := 17) rfl), List.forall_mem_cons.mpr ⟨pm_X10_does_r1 _ (List.mem_of_getElem? (i := 18) rfl), List.forall_mem_cons.mpr ⟨pm_X10_does_r1 _ (List.mem_of_getElem? (i := 19) rfl), List.forall_mem_cons.mpr ⟨pm_X10_does_r1 _ (List.mem_of_getElem? (i := 20) rfl), List.forall_mem_cons.mpr ⟨pm_X10_does_r1 _ (List.mem_of_getElem? (i := 21) rfl), List.forall_mem_cons.mpr ⟨pm_X10_does_r1 _ (List.mem_of_getElem? (i := 22) rfl), List.forall_mem_cons.mpr ⟨pm_X10_does_r1 _ (List.mem_of_getElem? (i := 23) rfl), List.forall_mem_cons.mpr ⟨pm_X10_does_r2 _ (List.mem_of_getElem? (i := 0) rfl), List.forall_mem_cons.mpr ⟨pm_X10_does_r2 _ (List.mem_of_getElem? (i := 1) rfl), List.forall_mem_cons.mpr ⟨pm_X10_does_r2 _ (List.mem_of_getElem? (i := 2) rfl), List.forall_mem_cons.mpr ⟨pm_X10_does_r2 _ (List.mem_of_getElem? (i := 3) rfl), fun _ h => absurd h List.not_mem_nil⟩⟩⟩⟩⟩⟩⟩⟩⟩⟩⟩⟩⟩⟩⟩⟩⟩⟩⟩⟩⟩⟩⟩⟩, pw_X10_does_X10⟩⟩) (by decide +kernel)
set_option maxRecDepth 20000 in
theorem gX10_does_X10_doneWork : GoodIn wsX10_does (wsV RX10 274 RX10 yX10_doneWork wsX10_doneWork) := goodIn_app (goodIn_of _ (by decide +kernel)) ggX10_does_X10_doneWork
theorem dX10_does_0 : decode cX10_does 0 = .ok (.aload_n 0, 1) := by decide +kernel
theorem dX10_does_1 : decode cX10_does 1 = .ok (.getfield 17, 3) := by decide +kernel
theorem dX10_does_4 : decode cX10_does 4 = .ok (.iconst 4, 1) := by decide +kernel
theorem dX10_does_5 : decode cX10_does 5 = .ok (.iaload, 1) := by decide +kernel
theorem dX10_does_6 : decode cX10_does 6 = .ok (.ifCond .ne 8, 3) := by decide +kernel
theorem dX10_does_9 : decode cX10_does 9 = .ok (.bipush (-4), 2) := by decide +kernel
theorem dX10_does_11 : decode cX10_does 11 = .ok (.goto 7, 3) := by decide +kernel
theorem dX10_does_14 : decode cX10_does 14 = .ok (.aload_n 0, 1) := by decide +kernel
theorem dX10_does_15 : decode cX10_does 15 = .ok (.invokevirtual 274, 3) := by decide +kernel
theorem dX10_does_18 : decode cX10_does 18 = .ok (.ireturn, 1) := by decide +kernel
theorem pm_X10_comes_r1 : ∀ w ∈ wsX10_comes_r1, w ∈ wsX10_comes := fun _ h => List.mem_cons_of_mem _ (List.mem_append_left _ (List.mem_append_left _ h))
theorem pm_X10_comes_r2 : ∀ w ∈ wsX10_comes_r2, w ∈ wsX10_comes := fun _ h => List.mem_cons_of_mem _ (List.mem_append_left _ (List.mem_append_right _ (h)))
theorem pw_X10_comes_X10 : ∀ w ∈ wsX100, w ∈ wsX10_comes := fun _ h => List.mem_cons_of_mem _ (List.mem_append_right _ h)
set_option maxRecDepth 20000 in
theorem ggX10_comes_X10_doneWork : GoodIn wsX10_comes wsX10_doneWork := goodIn_sub (List.forall_mem_cons.mpr ⟨pm_X10_comes_r1 _ (List.mem_of_getElem? (i := 5) rfl), List.forall_mem_append.mpr ⟨List.forall_mem_cons.mpr ⟨pm_X10_comes_r1 _ (List.mem_of_getElem? (i := 0) rfl), List.forall_mem_cons.mpr ⟨pm_X10_comes_r1 _ (List.mem_of_getElem? (i := 6) rfl), List.forall_mem_cons.mpr ⟨pm_X10_comes_r1 _ (List.mem_of_getElem? (i := 7) rfl), List.forall_mem_cons.mpr ⟨pm_X10_comes_r1 _ (List.mem_of_getElem? (i := 8) rfl), List.forall_mem_cons.mpr ⟨pm_X10_comes_r1 _ (List.mem_of_getElem? (i := 4) rfl), List.forall_mem_cons.mpr ⟨pm_X10_comes_r1 _ (List.mem_of_getElem? (i := 9) rfl), List.forall_mem_cons.mpr ⟨pm_X10_comes_r1 _ (List.mem_of_getElem? (i := 10) rfl), List.forall_mem_cons.mpr ⟨pm_X10_comes_r1 _ (List.mem_of_getElem? (i := 11) rfl), List.forall_mem_cons.mpr ⟨pm_X10_comes_r1 _ (List.mem_of_getElem? (i := 12) rfl), List.forall_mem_cons.mpr ⟨pm_X10_comes_r1 _ (List.mem_of_getElem? (i := 13) rfl), List.forall_mem_cons.mpr ⟨pm_X10_comes_r1 _ (List.mem_of_getElem? (i := 14) rfl), List.forall_mem_cons.mpr ⟨pm_X10_comes_r1 _ (List.mem_of_getElem? (i := 15) rfl), List.forall_mem_cons.mpr ⟨pm_X10_comes_r1 _ (List.mem_of_getElem? (i := 16) rfl), List.forall_mem_cons.mpr ⟨pm_X10_comes_r1 _ (List.mem_of_getElem? (i := 17) rfl), List.forall_mem_cons.mpr ⟨pm_X10_comes_r1 _ (List.mem_of_getElem? (i := 18) rfl), List.forall_mem_cons.mpr ⟨pm_X10_comes_r1 _ (List.mem_of_getElem? (i := 19) rfl), List.forall_mem_cons.mpr ⟨pm_X10_comes_r1 _ (List.mem_of_getElem? (i := 20) rfl), List.forall_mem_cons.mpr ⟨pm_X10_comes_r1 _ (List.mem_of_getElem? (i := 21) rfl), List.forall_mem_cons.mpr ⟨pm_X10_comes_r1 _ (List.mem_of_getElem? (i := 22) rfl), List.forall_mem_cons.mpr ⟨pm_X10_comes_r1 _ (List.mem_of_getElem? (i := 23) rfl), List.forall_mem_cons.mpr ⟨pm_X10_comes_r2 _ (List.mem_of_getElem? (i := 0) rfl), List.forall_mem_cons.mpr ⟨pm_X10_comes_r2 _ (List.mem_of_getElem? (i := 1) rfl), List.forall_mem_cons.mpr ⟨pm_X10_comes_r2 _ (List.mem_of_getElem? (i := 2) rfl), List.forall_mem_cons.mpr ⟨pm_X10_comes_r2 _ (List.mem_of_getElem? (i := 3) rfl), fun _ h => absurd h List.not_mem_nil⟩⟩⟩⟩⟩⟩⟩⟩⟩⟩⟩⟩⟩⟩⟩⟩⟩⟩⟩⟩⟩⟩⟩⟩, pw_X10_comes_X10⟩⟩) (by decide +kernel)
set_option maxRecDepth 20000 in
theorem gX10_comes_X10_doneWork : GoodIn wsX10_comes (wsV RX10 274 RX10 yX10_doneWork wsX10_doneWork) := goodIn_app (goodIn_of _ (by decide +kernel)) ggX10_comes_X10_doneWork
set_option maxRecDepth 20000 in
theorem ggX10_comes_X10_worthOf : GoodIn wsX10_comes wsX10_worthOf := goodIn_sub (List.forall_mem_cons.mpr ⟨pm_X10_comes_r1 _ (List.mem_of_getElem? (i := 9) rfl), List.forall_mem_append.mpr ⟨List.forall_mem_cons.mpr ⟨pm_X10_comes_r1 _ (List.mem_of_getElem? (i := 0) rfl), List.forall_mem_cons.mpr ⟨pm_X10_comes_r1 _ (List.mem_of_getElem? (i := 10) rfl), List.forall_mem_cons.mpr ⟨pm_X10_comes_r1 _ (List.mem_of_getElem? (i := 11) rfl), List.forall_mem_cons.mpr ⟨pm_X10_comes_r1 _ (List.mem_of_getElem? (i := 12) rfl), List.forall_mem_cons.mpr ⟨pm_X10_comes_r1 _ (List.mem_of_getElem? (i := 13) rfl), List.forall_mem_cons.mpr ⟨pm_X10_comes_r1 _ (List.mem_of_getElem? (i := 14) rfl), List.forall_mem_cons.mpr ⟨pm_X10_comes_r1 _ (List.mem_of_getElem? (i := 4) rfl), List.forall_mem_cons.mpr ⟨pm_X10_comes_r1 _ (List.mem_of_getElem? (i := 15) rfl), List.forall_mem_cons.mpr ⟨pm_X10_comes_r1 _ (List.mem_of_getElem? (i := 16) rfl), List.forall_mem_cons.mpr ⟨pm_X10_comes_r1 _ (List.mem_of_getElem? (i := 17) rfl), List.forall_mem_cons.mpr ⟨pm_X10_comes_r1 _ (List.mem_of_getElem? (i := 18) rfl), List.forall_mem_cons.mpr ⟨pm_X10_comes_r1 _ (List.mem_of_getElem? (i := 19) rfl), List.forall_mem_cons.mpr ⟨pm_X10_comes_r1 _ (List.mem_of_getElem? (i := 20) rfl), List.forall_mem_cons.mpr ⟨pm_X10_comes_r1 _ (List.mem_of_getElem? (i := 21) rfl), List.forall_mem_cons.mpr ⟨pm_X10_comes_r1 _ (List.mem_of_getElem? (i := 22) rfl), fun _ h => absurd h List.not_mem_nil⟩⟩⟩⟩⟩⟩⟩⟩⟩⟩⟩⟩⟩⟩⟩, pw_X10_comes_X10⟩⟩) (by decide +kernel)
set_option maxRecDepth 20000 in
theorem gX10_comes_X10_worthOf : GoodIn wsX10_comes (wsV RX10 267 RX10 yX10_worthOf wsX10_worthOf) := goodIn_app (goodIn_of _ (by decide +kernel)) ggX10_comes_X10_worthOf
theorem dX10_comes_0 : decode cX10_comes 0 = .ok (.aload_n 0, 1) := by decide +kernel
theorem dX10_comes_1 : decode cX10_comes 1 = .ok (.getfield 17, 3) := by decide +kernel
theorem dX10_comes_4 : decode cX10_comes 4 = .ok (.iconst 4, 1) := by decide +kernel
theorem dX10_comes_5 : decode cX10_comes 5 = .ok (.iaload, 1) := by decide +kernel
theorem dX10_comes_6 : decode cX10_comes 6 = .ok (.ifCond .ne 8, 3) := by decide +kernel
theorem dX10_comes_9 : decode cX10_comes 9 = .ok (.bipush (-4), 2) := by decide +kernel
theorem dX10_comes_11 : decode cX10_comes 11 = .ok (.goto 32, 3) := by decide +kernel
theorem dX10_comes_14 : decode cX10_comes 14 = .ok (.aload_n 0, 1) := by decide +kernel
theorem dX10_comes_15 : decode cX10_comes 15 = .ok (.aload_n 0, 1) := by decide +kernel
theorem dX10_comes_16 : decode cX10_comes 16 = .ok (.invokevirtual 274, 3) := by decide +kernel
theorem dX10_comes_19 : decode cX10_comes 19 = .ok (.invokevirtual 267, 3) := by decide +kernel
theorem dX10_comes_22 : decode cX10_comes 22 = .ok (.aload_n 0, 1) := by decide +kernel
theorem dX10_comes_23 : decode cX10_comes 23 = .ok (.getfield 17, 3) := by decide +kernel
theorem dX10_comes_26 : decode cX10_comes 26 = .ok (.iconst 0, 1) := by decide +kernel
theorem dX10_comes_27 : decode cX10_comes 27 = .ok (.iaload, 1) := by decide +kernel
theorem dX10_comes_28 : decode cX10_comes 28 = .ok (.aload_n 0, 1) := by decide +kernel
theorem dX10_comes_29 : decode cX10_comes 29 = .ok (.getfield 17, 3) := by decide +kernel
theorem dX10_comes_32 : decode cX10_comes 32 = .ok (.iconst 1, 1) := by decide +kernel
theorem dX10_comes_33 : decode cX10_comes 33 = .ok (.iaload, 1) := by decide +kernel
theorem dX10_comes_34 : decode cX10_comes 34 = .ok (.imul, 1) := by decide +kernel
theorem dX10_comes_35 : decode cX10_comes 35 = .ok (.if_icmp .lt 7, 3) := by decide +kernel
theorem dX10_comes_38 : decode cX10_comes 38 = .ok (.iconst 1, 1) := by decide +kernel
theorem dX10_comes_39 : decode cX10_comes 39 = .ok (.goto 4, 3) := by decide +kernel
theorem dX10_comes_42 : decode cX10_comes 42 = .ok (.iconst 0, 1) := by decide +kernel
theorem dX10_comes_43 : decode cX10_comes 43 = .ok (.ireturn, 1) := by decide +kernel
theorem dX10_common_0 : decode cX10_common 0 = .ok (.lload_n 0, 1) := by decide +kernel
theorem dX10_common_1 : decode cX10_common 1 = .ok (.lconst 0, 1) := by decide +kernel
theorem dX10_common_2 : decode cX10_common 2 = .ok (.lcmp, 1) := by decide +kernel
theorem dX10_common_3 : decode cX10_common 3 = .ok (.ifCond .ge 8, 3) := by decide +kernel
theorem dX10_common_6 : decode cX10_common 6 = .ok (.lload_n 0, 1) := by decide +kernel
theorem dX10_common_7 : decode cX10_common 7 = .ok (.lneg, 1) := by decide +kernel
theorem dX10_common_8 : decode cX10_common 8 = .ok (.goto 4, 3) := by decide +kernel
theorem dX10_common_11 : decode cX10_common 11 = .ok (.lload_n 0, 1) := by decide +kernel
theorem dX10_common_12 : decode cX10_common 12 = .ok (.lstore 4, 2) := by decide +kernel
theorem dX10_common_14 : decode cX10_common 14 = .ok (.lload_n 2, 1) := by decide +kernel
theorem dX10_common_15 : decode cX10_common 15 = .ok (.lstore 6, 2) := by decide +kernel
theorem dX10_common_17 : decode cX10_common 17 = .ok (.lload 6, 2) := by decide +kernel
theorem dX10_common_19 : decode cX10_common 19 = .ok (.lconst 0, 1) := by decide +kernel
theorem dX10_common_20 : decode cX10_common 20 = .ok (.lcmp, 1) := by decide +kernel
theorem dX10_common_21 : decode cX10_common 21 = .ok (.ifCond .eq 21, 3) := by decide +kernel
theorem dX10_common_24 : decode cX10_common 24 = .ok (.lload 4, 2) := by decide +kernel
theorem dX10_common_26 : decode cX10_common 26 = .ok (.lload 6, 2) := by decide +kernel
theorem dX10_common_28 : decode cX10_common 28 = .ok (.lrem, 1) := by decide +kernel
theorem dX10_common_29 : decode cX10_common 29 = .ok (.lstore 8, 2) := by decide +kernel
theorem dX10_common_31 : decode cX10_common 31 = .ok (.lload 6, 2) := by decide +kernel
theorem dX10_common_33 : decode cX10_common 33 = .ok (.lstore 4, 2) := by decide +kernel
theorem dX10_common_35 : decode cX10_common 35 = .ok (.lload 8, 2) := by decide +kernel
theorem dX10_common_37 : decode cX10_common 37 = .ok (.lstore 6, 2) := by decide +kernel
theorem dX10_common_39 : decode cX10_common 39 = .ok (.goto (-22), 3) := by decide +kernel
theorem dX10_common_42 : decode cX10_common 42 = .ok (.lload 4, 2) := by decide +kernel
theorem dX10_common_44 : decode cX10_common 44 = .ok (.lreturn, 1) := by decide +kernel
theorem kk_X10_leaves_0 : Cond.constant RX10 270 (-2000000000) ∈ wsX10_leaves := by decide +kernel
theorem kk_X10_doneWork_0 : Cond.fieldLink RX10 17 "PaidBySignsModel" "num" "[I" ∈ wsX10_doneWork := by decide +kernel
theorem kk_X10_does_0 : Cond.fieldLink RX10 17 "PaidBySignsModel" "num" "[I" ∈ wsX10_does := pm_X10_does_r1 _ (List.mem_of_getElem? (i := 0) rfl)
theorem kk_X10_comes_0 : Cond.fieldLink RX10 17 "PaidBySignsModel" "num" "[I" ∈ wsX10_comes := pm_X10_comes_r1 _ (List.mem_of_getElem? (i := 0) rfl)
theorem iw_X10_doneWork_X10 : ∀ w ∈ wsX100, w ∈ wsX10_doneWork := by decide +kernel
theorem iw_X10_does_X10 : ∀ w ∈ wsX100, w ∈ wsX10_does := pw_X10_does_X10
theorem iw_X10_comes_X10 : ∀ w ∈ wsX100, w ∈ wsX10_comes := pw_X10_comes_X10
