abbrev cX10_coins : ByteArray := prog_12_method_63_code
def yX10_coins : MethodName := ⟨RX10, "coins", "(II)I"⟩
abbrev cX10_beginSum : ByteArray := prog_12_method_64_code
def yX10_beginSum : MethodName := ⟨RX10, "beginSum", "()V"⟩
abbrev cX10_must : ByteArray := prog_12_method_65_code
def yX10_must : MethodName := ⟨RX10, "must", "(JJ)V"⟩
abbrev cX10_isSum : ByteArray := prog_12_method_66_code
def yX10_isSum : MethodName := ⟨RX10, "isSum", "()Z"⟩
abbrev cX10_chanceFrom : ByteArray := prog_12_method_67_code
def yX10_chanceFrom : MethodName := ⟨RX10, "chanceFrom", "(II)I"⟩
def wsX10_coins_r1 : List Cond := [Cond.constantLong RX10 247 (20), Cond.fieldLink RX10 17 "PaidBySignsModel" "num" "[I", Cond.fieldLink RX10 82 "PaidBySignsModel" "coin" "[I", Cond.fieldLink RX10 206 "PaidBySignsModel" "hasWages" "Z", Cond.fieldLink RX10 346 "PaidBySignsModel" "wageMany" "I", Cond.fieldLink RX10 76 "PaidBySignsModel" "toldUp" "[J", Cond.fieldLink RX10 79 "PaidBySignsModel" "toldLow" "[J", Cond.methodLink RX10 253 yX10_isWork, Cond.instanceMethod yX10_isWork, Cond.selects RX10 yX10_isWork yX10_isWork, Cond.initialized RX10, Cond.code yX10_isWork cX10_isWork 2 (some .boolean), Cond.methodLink RX10 174 yX10_in, Cond.static yX10_in, Cond.code yX10_in cX10_in 6 (some .boolean), Cond.methodLink RX10 259 yX10_chanceOf, Cond.instanceMethod yX10_chanceOf, Cond.selects RX10 yX10_chanceOf yX10_chanceOf, Cond.code yX10_chanceOf cX10_chanceOf 3 (some .int), Cond.fieldLink RX10 34 "PaidBySignsModel" "chances" "[I", Cond.methodLink RX10 371 yX10_isDone, Cond.instanceMethod yX10_isDone, Cond.selects RX10 yX10_isDone yX10_isDone, Cond.code yX10_isDone cX10_isDone 8 (some .boolean)]
def wsX10_coins_r2 : List Cond := [Cond.fieldLink RX10 31 "PaidBySignsModel" "costs" "[I", Cond.methodLink RX10 264 yX10_feel, Cond.instanceMethod yX10_feel, Cond.selects RX10 yX10_feel yX10_feel, Cond.code yX10_feel cX10_feel 6 (some .int), Cond.fieldLink RX10 40 "PaidBySignsModel" "marks" "[I", Cond.fieldLink RX10 37 "PaidBySignsModel" "rates" "[I", Cond.methodLink RX10 355 yX10_tell, Cond.instanceMethod yX10_tell, Cond.selects RX10 yX10_tell yX10_tell, Cond.code yX10_tell cX10_tell 7 none, Cond.fieldLink RX10 281 "PaidBySignsModel" "upper" "J", Cond.fieldLink RX10 284 "PaidBySignsModel" "lower" "J", Cond.fieldLink RX10 202 "PaidBySignsModel" "hasFraction" "Z", Cond.methodLink RX10 277 yX10_common, Cond.static yX10_common, Cond.code yX10_common cX10_common 10 (some .long)]
def wsX10_coins : List Cond := .code yX10_coins cX10_coins 10 (some .int) :: ((wsX10_coins_r1 ++ wsX10_coins_r2) ++ wsX100)
def wsX10_beginSum : List Cond := .code yX10_beginSum cX10_beginSum 1 none :: ([.fieldLink RX10 17 "PaidBySignsModel" "num" "[I", .fieldLink RX10 374 "PaidBySignsModel" "fromUp" "J", .fieldLink RX10 377 "PaidBySignsModel" "fromLow" "J", .fieldLink RX10 380 "PaidBySignsModel" "toLow" "J", .fieldLink RX10 383 "PaidBySignsModel" "canBe" "Z", .methodLink RX10 264 yX10_feel, .instanceMethod yX10_feel, .selects RX10 yX10_feel yX10_feel, .initialized RX10, .code yX10_feel cX10_feel 6 (some .int), .fieldLink RX10 40 "PaidBySignsModel" "marks" "[I", .fieldLink RX10 37 "PaidBySignsModel" "rates" "[I"] ++ wsX100)
def wsX10_must : List Cond := .code yX10_must cX10_must 5 none :: ([.fieldLink RX10 383 "PaidBySignsModel" "canBe" "Z", .fieldLink RX10 374 "PaidBySignsModel" "fromUp" "J", .fieldLink RX10 377 "PaidBySignsModel" "fromLow" "J", .fieldLink RX10 380 "PaidBySignsModel" "toLow" "J", .fieldLink RX10 386 "PaidBySignsModel" "toUp" "J", .methodLink RX10 331 yX10_apart, .static yX10_apart, .initialized RX10, .code yX10_apart cX10_apart 8 (some .long)] ++ wsX100)
def wsX10_isSum_r1 : List Cond := [Cond.fieldLink RX10 383 "PaidBySignsModel" "canBe" "Z", Cond.fieldLink RX10 380 "PaidBySignsModel" "toLow" "J", Cond.fieldLink RX10 374 "PaidBySignsModel" "fromUp" "J", Cond.fieldLink RX10 377 "PaidBySignsModel" "fromLow" "J", Cond.fieldLink RX10 386 "PaidBySignsModel" "toUp" "J", Cond.methodLink RX10 331 yX10_apart, Cond.static yX10_apart, Cond.initialized RX10, Cond.code yX10_apart cX10_apart 8 (some .long), Cond.methodLink RX10 318 yX10_wageOf, Cond.instanceMethod yX10_wageOf, Cond.selects RX10 yX10_wageOf yX10_wageOf, Cond.code yX10_wageOf cX10_wageOf 13 none, Cond.fieldLink RX10 17 "PaidBySignsModel" "num" "[I", Cond.fieldLink RX10 40 "PaidBySignsModel" "marks" "[I", Cond.fieldLink RX10 64 "PaidBySignsModel" "wageUp" "[J", Cond.fieldLink RX10 37 "PaidBySignsModel" "rates" "[I", Cond.fieldLink RX10 67 "PaidBySignsModel" "wageLow" "[J", Cond.methodLink RX10 264 yX10_feel, Cond.instanceMethod yX10_feel, Cond.selects RX10 yX10_feel yX10_feel, Cond.code yX10_feel cX10_feel 6 (some .int), Cond.methodLink RX10 277 yX10_common, Cond.static yX10_common]
def wsX10_isSum_r2 : List Cond := [Cond.code yX10_common cX10_common 10 (some .long)]
def wsX10_isSum : List Cond := .code yX10_isSum cX10_isSum 1 (some .boolean) :: ((wsX10_isSum_r1 ++ wsX10_isSum_r2) ++ wsX100)
def wsX10_chanceFrom : List Cond := .code yX10_chanceFrom cX10_chanceFrom 5 (some .int) :: ([.fieldLink RX10 17 "PaidBySignsModel" "num" "[I", .fieldLink RX10 28 "PaidBySignsModel" "brings" "[I", .methodLink RX10 259 yX10_chanceOf, .instanceMethod yX10_chanceOf, .selects RX10 yX10_chanceOf yX10_chanceOf, .initialized RX10, .code yX10_chanceOf cX10_chanceOf 3 (some .int), .fieldLink RX10 34 "PaidBySignsModel" "chances" "[I"] ++ wsX100)
theorem pm_X10_coins_r1 : ∀ w ∈ wsX10_coins_r1, w ∈ wsX10_coins := fun _ h => List.mem_cons_of_mem _ (List.mem_append_left _ (List.mem_append_left _ h))
theorem pm_X10_coins_r2 : ∀ w ∈ wsX10_coins_r2, w ∈ wsX10_coins := fun _ h => List.mem_cons_of_mem _ (List.mem_append_left _ (List.mem_append_right _ (h)))
theorem pw_X10_coins_X10 : ∀ w ∈ wsX100, w ∈ wsX10_coins := fun _ h => List.mem_cons_of_mem _ (List.mem_append_right _ h)
set_option maxRecDepth 20000 in
theorem ggX10_coins_X10_isWork : GoodIn wsX10_coins wsX10_isWork := goodIn_sub (List.forall_mem_cons.mpr ⟨pm_X10_coins_r1 _ (List.mem_of_getElem? (i := 11) rfl), List.forall_mem_append.mpr ⟨List.forall_mem_cons.mpr ⟨pm_X10_coins_r1 _ (List.mem_of_getElem? (i := 1) rfl), List.forall_mem_cons.mpr ⟨pm_X10_coins_r1 _ (List.mem_of_getElem? (i := 12) rfl), List.forall_mem_cons.mpr ⟨pm_X10_coins_r1 _ (List.mem_of_getElem? (i := 13) rfl), List.forall_mem_cons.mpr ⟨pm_X10_coins_r1 _ (List.mem_of_getElem? (i := 10) rfl), List.forall_mem_cons.mpr ⟨pm_X10_coins_r1 _ (List.mem_of_getElem? (i := 14) rfl), fun _ h => absurd h List.not_mem_nil⟩⟩⟩⟩⟩, pw_X10_coins_X10⟩⟩) (by decide +kernel)
set_option maxRecDepth 20000 in
theorem gX10_coins_X10_isWork : GoodIn wsX10_coins (wsV RX10 253 RX10 yX10_isWork wsX10_isWork) := goodIn_app (goodIn_of _ (by decide +kernel)) ggX10_coins_X10_isWork
set_option maxRecDepth 20000 in
theorem ggX10_coins_X10_in : GoodIn wsX10_coins wsX10_in := goodIn_sub (List.forall_mem_cons.mpr ⟨pm_X10_coins_r1 _ (List.mem_of_getElem? (i := 14) rfl), fun _ h => absurd h List.not_mem_nil⟩) (by decide +kernel)
set_option maxRecDepth 20000 in
theorem gX10_coins_X10_in : GoodIn wsX10_coins (va_wsS RX10 174 yX10_in wsX10_in) := goodIn_app (goodIn_of _ (by decide +kernel)) ggX10_coins_X10_in
set_option maxRecDepth 20000 in
theorem ggX10_coins_X10_chanceOf : GoodIn wsX10_coins wsX10_chanceOf := goodIn_sub (List.forall_mem_cons.mpr ⟨pm_X10_coins_r1 _ (List.mem_of_getElem? (i := 18) rfl), List.forall_mem_append.mpr ⟨List.forall_mem_cons.mpr ⟨pm_X10_coins_r1 _ (List.mem_of_getElem? (i := 19) rfl), fun _ h => absurd h List.not_mem_nil⟩, pw_X10_coins_X10⟩⟩) (by decide +kernel)
set_option maxRecDepth 20000 in
theorem gX10_coins_X10_chanceOf : GoodIn wsX10_coins (wsV RX10 259 RX10 yX10_chanceOf wsX10_chanceOf) := goodIn_app (goodIn_of _ (by decide +kernel)) ggX10_coins_X10_chanceOf
set_option maxRecDepth 20000 in
theorem ggX10_coins_X10_isDone : GoodIn wsX10_coins wsX10_isDone := goodIn_sub (List.forall_mem_cons.mpr ⟨pm_X10_coins_r1 _ (List.mem_of_getElem? (i := 23) rfl), List.forall_mem_append.mpr ⟨List.forall_mem_cons.mpr ⟨pm_X10_coins_r1 _ (List.mem_of_getElem? (i := 1) rfl), List.forall_mem_cons.mpr ⟨pm_X10_coins_r1 _ (List.mem_of_getElem? (i := 2) rfl), List.forall_mem_cons.mpr ⟨pm_X10_coins_r2 _ (List.mem_of_getElem? (i := 0) rfl), List.forall_mem_cons.mpr ⟨pm_X10_coins_r1 _ (List.mem_of_getElem? (i := 15) rfl), List.forall_mem_cons.mpr ⟨pm_X10_coins_r1 _ (List.mem_of_getElem? (i := 16) rfl), List.forall_mem_cons.mpr ⟨pm_X10_coins_r1 _ (List.mem_of_getElem? (i := 17) rfl), List.forall_mem_cons.mpr ⟨pm_X10_coins_r1 _ (List.mem_of_getElem? (i := 10) rfl), List.forall_mem_cons.mpr ⟨pm_X10_coins_r1 _ (List.mem_of_getElem? (i := 18) rfl), List.forall_mem_cons.mpr ⟨pm_X10_coins_r1 _ (List.mem_of_getElem? (i := 19) rfl), List.forall_mem_cons.mpr ⟨pm_X10_coins_r2 _ (List.mem_of_getElem? (i := 1) rfl), List.forall_mem_cons.mpr ⟨pm_X10_coins_r2 _ (List.mem_of_getElem? (i := 2) rfl), List.forall_mem_cons.mpr ⟨pm_X10_coins_r2 _ (List.mem_of_getElem? (i := 3) rfl), List.forall_mem_cons.mpr ⟨pm_X10_coins_r2 _ (List.mem_of_getElem? (i := 4) rfl), List.forall_mem_cons.mpr ⟨pm_X10_coins_r2 _ (List.mem_of_getElem? (i := 5) rfl), List.forall_mem_cons.mpr ⟨pm_X10_coins_r2 _ (List.mem_of_getElem? (i := 6) rfl), fun _ h => absurd h List.not_mem_nil⟩⟩⟩⟩⟩⟩⟩⟩⟩⟩⟩⟩⟩⟩⟩, pw_X10_coins_X10⟩⟩) (by decide +kernel)
set_option maxRecDepth 20000 in
theorem gX10_coins_X10_isDone : GoodIn wsX10_coins (wsV RX10 371 RX10 yX10_isDone wsX10_isDone) := goodIn_app (goodIn_of _ (by decide +kernel)) ggX10_coins_X10_isDone
set_option maxRecDepth 20000 in
theorem ggX10_coins_X10_tell : GoodIn wsX10_coins wsX10_tell := goodIn_sub (List.forall_mem_cons.mpr ⟨pm_X10_coins_r2 _ (List.mem_of_getElem? (i := 10) rfl), List.forall_mem_append.mpr ⟨List.forall_mem_cons.mpr ⟨pm_X10_coins_r2 _ (List.mem_of_getElem? (i := 11) rfl), List.forall_mem_cons.mpr ⟨pm_X10_coins_r2 _ (List.mem_of_getElem? (i := 12) rfl), List.forall_mem_cons.mpr ⟨pm_X10_coins_r2 _ (List.mem_of_getElem? (i := 13) rfl), List.forall_mem_cons.mpr ⟨pm_X10_coins_r2 _ (List.mem_of_getElem? (i := 14) rfl), List.forall_mem_cons.mpr ⟨pm_X10_coins_r2 _ (List.mem_of_getElem? (i := 15) rfl), List.forall_mem_cons.mpr ⟨pm_X10_coins_r1 _ (List.mem_of_getElem? (i := 10) rfl), List.forall_mem_cons.mpr ⟨pm_X10_coins_r2 _ (List.mem_of_getElem? (i := 16) rfl), fun _ h => absurd h List.not_mem_nil⟩⟩⟩⟩⟩⟩⟩, pw_X10_coins_X10⟩⟩) (by decide +kernel)
set_option maxRecDepth 20000 in
theorem gX10_coins_X10_tell : GoodIn wsX10_coins (wsV RX10 355 RX10 yX10_tell wsX10_tell) := goodIn_app (goodIn_of _ (by decide +kernel)) ggX10_coins_X10_tell
theorem dX10_coins_0 : decode cX10_coins 0 = .ok (.aload_n 0, 1) := by decide +kernel
theorem dX10_coins_1 : decode cX10_coins 1 = .ok (.iload_n 1, 1) := by decide +kernel
theorem dX10_coins_2 : decode cX10_coins 2 = .ok (.invokevirtual 253, 3) := by decide +kernel
theorem dX10_coins_5 : decode cX10_coins 5 = .ok (.ifCond .eq 15, 3) := by decide +kernel
theorem dX10_coins_8 : decode cX10_coins 8 = .ok (.iload_n 2, 1) := by decide +kernel
theorem dX10_coins_9 : decode cX10_coins 9 = .ok (.i2l, 1) := by decide +kernel
theorem dX10_coins_10 : decode cX10_coins 10 = .ok (.lconst 0, 1) := by decide +kernel
theorem dX10_coins_11 : decode cX10_coins 11 = .ok (.ldc2_w 247, 3) := by decide +kernel
theorem dX10_coins_14 : decode cX10_coins 14 = .ok (.invokestatic 174, 3) := by decide +kernel
theorem dX10_coins_17 : decode cX10_coins 17 = .ok (.ifCond .ne 6, 3) := by decide +kernel
theorem dX10_coins_20 : decode cX10_coins 20 = .ok (.bipush (-2), 2) := by decide +kernel
theorem dX10_coins_22 : decode cX10_coins 22 = .ok (.ireturn, 1) := by decide +kernel
theorem dX10_coins_23 : decode cX10_coins 23 = .ok (.iconst 1, 1) := by decide +kernel
theorem dX10_coins_24 : decode cX10_coins 24 = .ok (.istore_n 3, 1) := by decide +kernel
theorem dX10_coins_25 : decode cX10_coins 25 = .ok (.iconst 0, 1) := by decide +kernel
theorem dX10_coins_26 : decode cX10_coins 26 = .ok (.istore 4, 2) := by decide +kernel
theorem dX10_coins_28 : decode cX10_coins 28 = .ok (.iload 4, 2) := by decide +kernel
theorem dX10_coins_30 : decode cX10_coins 30 = .ok (.aload_n 0, 1) := by decide +kernel
theorem dX10_coins_31 : decode cX10_coins 31 = .ok (.getfield 17, 3) := by decide +kernel
theorem dX10_coins_34 : decode cX10_coins 34 = .ok (.iconst 3, 1) := by decide +kernel
theorem dX10_coins_35 : decode cX10_coins 35 = .ok (.iaload, 1) := by decide +kernel
theorem dX10_coins_36 : decode cX10_coins 36 = .ok (.if_icmp .ge 15, 3) := by decide +kernel
theorem dX10_coins_39 : decode cX10_coins 39 = .ok (.iload_n 3, 1) := by decide +kernel
theorem dX10_coins_40 : decode cX10_coins 40 = .ok (.iload_n 2, 1) := by decide +kernel
theorem dX10_coins_41 : decode cX10_coins 41 = .ok (.iconst 1, 1) := by decide +kernel
theorem dX10_coins_42 : decode cX10_coins 42 = .ok (.iadd, 1) := by decide +kernel
theorem dX10_coins_43 : decode cX10_coins 43 = .ok (.imul, 1) := by decide +kernel
theorem dX10_coins_44 : decode cX10_coins 44 = .ok (.istore_n 3, 1) := by decide +kernel
theorem dX10_coins_45 : decode cX10_coins 45 = .ok (.iinc 4 1, 3) := by decide +kernel
theorem dX10_coins_48 : decode cX10_coins 48 = .ok (.goto (-20), 3) := by decide +kernel
theorem dX10_coins_51 : decode cX10_coins 51 = .ok (.iconst (-1), 1) := by decide +kernel
theorem dX10_coins_52 : decode cX10_coins 52 = .ok (.istore 4, 2) := by decide +kernel
theorem dX10_coins_54 : decode cX10_coins 54 = .ok (.iconst 0, 1) := by decide +kernel
theorem dX10_coins_55 : decode cX10_coins 55 = .ok (.istore 5, 2) := by decide +kernel
theorem dX10_coins_57 : decode cX10_coins 57 = .ok (.iconst 0, 1) := by decide +kernel
theorem dX10_coins_58 : decode cX10_coins 58 = .ok (.istore 6, 2) := by decide +kernel
theorem dX10_coins_60 : decode cX10_coins 60 = .ok (.iload 6, 2) := by decide +kernel
theorem dX10_coins_62 : decode cX10_coins 62 = .ok (.iload_n 3, 1) := by decide +kernel
theorem dX10_coins_63 : decode cX10_coins 63 = .ok (.if_icmp .ge 117, 3) := by decide +kernel
theorem dX10_coins_66 : decode cX10_coins 66 = .ok (.iload 6, 2) := by decide +kernel
theorem dX10_coins_68 : decode cX10_coins 68 = .ok (.istore 7, 2) := by decide +kernel
theorem dX10_coins_70 : decode cX10_coins 70 = .ok (.iconst 0, 1) := by decide +kernel
theorem dX10_coins_71 : decode cX10_coins 71 = .ok (.istore 8, 2) := by decide +kernel
theorem dX10_coins_73 : decode cX10_coins 73 = .ok (.aload_n 0, 1) := by decide +kernel
theorem dX10_coins_74 : decode cX10_coins 74 = .ok (.getfield 17, 3) := by decide +kernel
theorem dX10_coins_77 : decode cX10_coins 77 = .ok (.iconst 3, 1) := by decide +kernel
theorem dX10_coins_78 : decode cX10_coins 78 = .ok (.iaload, 1) := by decide +kernel
theorem dX10_coins_79 : decode cX10_coins 79 = .ok (.iconst 1, 1) := by decide +kernel
theorem dX10_coins_80 : decode cX10_coins 80 = .ok (.isub, 1) := by decide +kernel
theorem dX10_coins_81 : decode cX10_coins 81 = .ok (.istore 9, 2) := by decide +kernel
theorem dX10_coins_83 : decode cX10_coins 83 = .ok (.iload 9, 2) := by decide +kernel
theorem dX10_coins_85 : decode cX10_coins 85 = .ok (.ifCond .lt 57, 3) := by decide +kernel
theorem dX10_coins_88 : decode cX10_coins 88 = .ok (.aload_n 0, 1) := by decide +kernel
theorem dX10_coins_89 : decode cX10_coins 89 = .ok (.getfield 82, 3) := by decide +kernel
theorem dX10_coins_92 : decode cX10_coins 92 = .ok (.iload 9, 2) := by decide +kernel
theorem dX10_coins_94 : decode cX10_coins 94 = .ok (.aload_n 0, 1) := by decide +kernel
theorem dX10_coins_95 : decode cX10_coins 95 = .ok (.getfield 17, 3) := by decide +kernel
theorem dX10_coins_98 : decode cX10_coins 98 = .ok (.iconst 2, 1) := by decide +kernel
theorem dX10_coins_99 : decode cX10_coins 99 = .ok (.iaload, 1) := by decide +kernel
theorem dX10_coins_100 : decode cX10_coins 100 = .ok (.iload 7, 2) := by decide +kernel
theorem dX10_coins_102 : decode cX10_coins 102 = .ok (.iload_n 2, 1) := by decide +kernel
theorem dX10_coins_103 : decode cX10_coins 103 = .ok (.iconst 1, 1) := by decide +kernel
theorem dX10_coins_104 : decode cX10_coins 104 = .ok (.iadd, 1) := by decide +kernel
theorem dX10_coins_105 : decode cX10_coins 105 = .ok (.irem, 1) := by decide +kernel
theorem dX10_coins_106 : decode cX10_coins 106 = .ok (.iadd, 1) := by decide +kernel
theorem dX10_coins_107 : decode cX10_coins 107 = .ok (.iastore, 1) := by decide +kernel
theorem dX10_coins_108 : decode cX10_coins 108 = .ok (.iload 7, 2) := by decide +kernel
theorem dX10_coins_110 : decode cX10_coins 110 = .ok (.iload_n 2, 1) := by decide +kernel
theorem dX10_coins_111 : decode cX10_coins 111 = .ok (.iconst 1, 1) := by decide +kernel
theorem dX10_coins_112 : decode cX10_coins 112 = .ok (.iadd, 1) := by decide +kernel
theorem dX10_coins_113 : decode cX10_coins 113 = .ok (.idiv, 1) := by decide +kernel
theorem dX10_coins_114 : decode cX10_coins 114 = .ok (.istore 7, 2) := by decide +kernel
theorem dX10_coins_116 : decode cX10_coins 116 = .ok (.iload 8, 2) := by decide +kernel
theorem dX10_coins_118 : decode cX10_coins 118 = .ok (.aload_n 0, 1) := by decide +kernel
theorem dX10_coins_119 : decode cX10_coins 119 = .ok (.iload_n 1, 1) := by decide +kernel
theorem dX10_coins_120 : decode cX10_coins 120 = .ok (.iload 9, 2) := by decide +kernel
theorem dX10_coins_122 : decode cX10_coins 122 = .ok (.invokevirtual 259, 3) := by decide +kernel
theorem dX10_coins_125 : decode cX10_coins 125 = .ok (.aload_n 0, 1) := by decide +kernel
theorem dX10_coins_126 : decode cX10_coins 126 = .ok (.getfield 82, 3) := by decide +kernel
theorem dX10_coins_129 : decode cX10_coins 129 = .ok (.iload 9, 2) := by decide +kernel
theorem dX10_coins_131 : decode cX10_coins 131 = .ok (.iaload, 1) := by decide +kernel
theorem dX10_coins_132 : decode cX10_coins 132 = .ok (.imul, 1) := by decide +kernel
theorem dX10_coins_133 : decode cX10_coins 133 = .ok (.iadd, 1) := by decide +kernel
theorem dX10_coins_134 : decode cX10_coins 134 = .ok (.istore 8, 2) := by decide +kernel
theorem dX10_coins_136 : decode cX10_coins 136 = .ok (.iinc 9 (-1), 3) := by decide +kernel
theorem dX10_coins_139 : decode cX10_coins 139 = .ok (.goto (-56), 3) := by decide +kernel
theorem dX10_coins_142 : decode cX10_coins 142 = .ok (.iload 4, 2) := by decide +kernel
theorem dX10_coins_144 : decode cX10_coins 144 = .ok (.iconst (-1), 1) := by decide +kernel
theorem dX10_coins_145 : decode cX10_coins 145 = .ok (.if_icmp .eq 10, 3) := by decide +kernel
theorem dX10_coins_148 : decode cX10_coins 148 = .ok (.iload 8, 2) := by decide +kernel
theorem dX10_coins_150 : decode cX10_coins 150 = .ok (.iload 5, 2) := by decide +kernel
theorem dX10_coins_152 : decode cX10_coins 152 = .ok (.if_icmp .ge 22, 3) := by decide +kernel
theorem dX10_coins_155 : decode cX10_coins 155 = .ok (.aload_n 0, 1) := by decide +kernel
theorem dX10_coins_156 : decode cX10_coins 156 = .ok (.iload_n 1, 1) := by decide +kernel
theorem dX10_coins_157 : decode cX10_coins 157 = .ok (.invokevirtual 371, 3) := by decide +kernel
theorem dX10_coins_160 : decode cX10_coins 160 = .ok (.ifCond .ne 6, 3) := by decide +kernel
theorem dX10_coins_163 : decode cX10_coins 163 = .ok (.goto 11, 3) := by decide +kernel
theorem dX10_coins_166 : decode cX10_coins 166 = .ok (.iload 6, 2) := by decide +kernel
theorem dX10_coins_168 : decode cX10_coins 168 = .ok (.istore 4, 2) := by decide +kernel
theorem dX10_coins_170 : decode cX10_coins 170 = .ok (.iload 8, 2) := by decide +kernel
theorem dX10_coins_172 : decode cX10_coins 172 = .ok (.istore 5, 2) := by decide +kernel
theorem dX10_coins_174 : decode cX10_coins 174 = .ok (.iinc 6 1, 3) := by decide +kernel
theorem dX10_coins_177 : decode cX10_coins 177 = .ok (.goto (-117), 3) := by decide +kernel
theorem dX10_coins_180 : decode cX10_coins 180 = .ok (.iload 4, 2) := by decide +kernel
theorem dX10_coins_182 : decode cX10_coins 182 = .ok (.iconst (-1), 1) := by decide +kernel
theorem dX10_coins_183 : decode cX10_coins 183 = .ok (.if_icmp .ne 5, 3) := by decide +kernel
theorem dX10_coins_186 : decode cX10_coins 186 = .ok (.iconst (-1), 1) := by decide +kernel
theorem dX10_coins_187 : decode cX10_coins 187 = .ok (.ireturn, 1) := by decide +kernel
theorem dX10_coins_188 : decode cX10_coins 188 = .ok (.aload_n 0, 1) := by decide +kernel
theorem dX10_coins_189 : decode cX10_coins 189 = .ok (.iload 5, 2) := by decide +kernel
theorem dX10_coins_191 : decode cX10_coins 191 = .ok (.i2l, 1) := by decide +kernel
theorem dX10_coins_192 : decode cX10_coins 192 = .ok (.aload_n 0, 1) := by decide +kernel
theorem dX10_coins_193 : decode cX10_coins 193 = .ok (.getfield 17, 3) := by decide +kernel
theorem dX10_coins_196 : decode cX10_coins 196 = .ok (.iconst 0, 1) := by decide +kernel
theorem dX10_coins_197 : decode cX10_coins 197 = .ok (.iaload, 1) := by decide +kernel
theorem dX10_coins_198 : decode cX10_coins 198 = .ok (.i2l, 1) := by decide +kernel
theorem dX10_coins_199 : decode cX10_coins 199 = .ok (.invokevirtual 355, 3) := by decide +kernel
theorem dX10_coins_202 : decode cX10_coins 202 = .ok (.aload_n 0, 1) := by decide +kernel
theorem dX10_coins_203 : decode cX10_coins 203 = .ok (.iconst 1, 1) := by decide +kernel
theorem dX10_coins_204 : decode cX10_coins 204 = .ok (.putfield 206, 3) := by decide +kernel
theorem dX10_coins_207 : decode cX10_coins 207 = .ok (.aload_n 0, 1) := by decide +kernel
theorem dX10_coins_208 : decode cX10_coins 208 = .ok (.aload_n 0, 1) := by decide +kernel
theorem dX10_coins_209 : decode cX10_coins 209 = .ok (.getfield 17, 3) := by decide +kernel
theorem dX10_coins_212 : decode cX10_coins 212 = .ok (.iconst 3, 1) := by decide +kernel
theorem dX10_coins_213 : decode cX10_coins 213 = .ok (.iaload, 1) := by decide +kernel
theorem dX10_coins_214 : decode cX10_coins 214 = .ok (.putfield 346, 3) := by decide +kernel
theorem dX10_coins_217 : decode cX10_coins 217 = .ok (.aload_n 0, 1) := by decide +kernel
theorem dX10_coins_218 : decode cX10_coins 218 = .ok (.getfield 17, 3) := by decide +kernel
theorem dX10_coins_221 : decode cX10_coins 221 = .ok (.iconst 3, 1) := by decide +kernel
theorem dX10_coins_222 : decode cX10_coins 222 = .ok (.iaload, 1) := by decide +kernel
theorem dX10_coins_223 : decode cX10_coins 223 = .ok (.iconst 1, 1) := by decide +kernel
theorem dX10_coins_224 : decode cX10_coins 224 = .ok (.isub, 1) := by decide +kernel
theorem dX10_coins_225 : decode cX10_coins 225 = .ok (.istore 6, 2) := by decide +kernel
theorem dX10_coins_227 : decode cX10_coins 227 = .ok (.iload 6, 2) := by decide +kernel
theorem dX10_coins_229 : decode cX10_coins 229 = .ok (.ifCond .lt 46, 3) := by decide +kernel
theorem dX10_coins_232 : decode cX10_coins 232 = .ok (.aload_n 0, 1) := by decide +kernel
theorem dX10_coins_233 : decode cX10_coins 233 = .ok (.getfield 76, 3) := by decide +kernel
theorem dX10_coins_236 : decode cX10_coins 236 = .ok (.iload 6, 2) := by decide +kernel
theorem dX10_coins_238 : decode cX10_coins 238 = .ok (.aload_n 0, 1) := by decide +kernel
theorem dX10_coins_239 : decode cX10_coins 239 = .ok (.getfield 17, 3) := by decide +kernel
theorem dX10_coins_242 : decode cX10_coins 242 = .ok (.iconst 2, 1) := by decide +kernel
theorem dX10_coins_243 : decode cX10_coins 243 = .ok (.iaload, 1) := by decide +kernel
theorem dX10_coins_244 : decode cX10_coins 244 = .ok (.iload 4, 2) := by decide +kernel
theorem dX10_coins_246 : decode cX10_coins 246 = .ok (.iload_n 2, 1) := by decide +kernel
theorem dX10_coins_247 : decode cX10_coins 247 = .ok (.iconst 1, 1) := by decide +kernel
theorem dX10_coins_248 : decode cX10_coins 248 = .ok (.iadd, 1) := by decide +kernel
theorem dX10_coins_249 : decode cX10_coins 249 = .ok (.irem, 1) := by decide +kernel
theorem dX10_coins_250 : decode cX10_coins 250 = .ok (.iadd, 1) := by decide +kernel
theorem dX10_coins_251 : decode cX10_coins 251 = .ok (.i2l, 1) := by decide +kernel
theorem dX10_coins_252 : decode cX10_coins 252 = .ok (.lastore, 1) := by decide +kernel
theorem dX10_coins_253 : decode cX10_coins 253 = .ok (.aload_n 0, 1) := by decide +kernel
theorem dX10_coins_254 : decode cX10_coins 254 = .ok (.getfield 79, 3) := by decide +kernel
theorem dX10_coins_257 : decode cX10_coins 257 = .ok (.iload 6, 2) := by decide +kernel
theorem dX10_coins_259 : decode cX10_coins 259 = .ok (.lconst 1, 1) := by decide +kernel
theorem dX10_coins_260 : decode cX10_coins 260 = .ok (.lastore, 1) := by decide +kernel
theorem dX10_coins_261 : decode cX10_coins 261 = .ok (.iload 4, 2) := by decide +kernel
theorem dX10_coins_263 : decode cX10_coins 263 = .ok (.iload_n 2, 1) := by decide +kernel
theorem dX10_coins_264 : decode cX10_coins 264 = .ok (.iconst 1, 1) := by decide +kernel
theorem dX10_coins_265 : decode cX10_coins 265 = .ok (.iadd, 1) := by decide +kernel
theorem dX10_coins_266 : decode cX10_coins 266 = .ok (.idiv, 1) := by decide +kernel
theorem dX10_coins_267 : decode cX10_coins 267 = .ok (.istore 4, 2) := by decide +kernel
theorem dX10_coins_269 : decode cX10_coins 269 = .ok (.iinc 6 (-1), 3) := by decide +kernel
theorem dX10_coins_272 : decode cX10_coins 272 = .ok (.goto (-45), 3) := by decide +kernel
theorem dX10_coins_275 : decode cX10_coins 275 = .ok (.iconst 1, 1) := by decide +kernel
theorem dX10_coins_276 : decode cX10_coins 276 = .ok (.ireturn, 1) := by decide +kernel
set_option maxRecDepth 20000 in
theorem ggX10_beginSum_X10_feel : GoodIn wsX10_beginSum wsX10_feel := goodIn_r _ [10, 1, 11, 12, 13, 14, 15, 16, 17, 18, 19, 20, 21, 22, 23, 24, 25, 26, 27, 28, 29, 30, 31, 32, 33, 34, 35, 36, 37, 38, 39, 40, 41, 42, 43, 44, 45, 46, 47, 48, 49, 50, 51, 52, 53, 54, 55, 56, 57, 58, 59, 60, 61, 62, 63, 64, 65, 66, 67, 68, 69, 70, 71, 72, 73, 74, 75, 76, 77] (by decide +kernel) (by decide +kernel)
set_option maxRecDepth 20000 in
theorem gX10_beginSum_X10_feel : GoodIn wsX10_beginSum (wsV RX10 264 RX10 yX10_feel wsX10_feel) := goodIn_app (goodIn_of _ (by decide +kernel)) ggX10_beginSum_X10_feel
theorem dX10_beginSum_0 : decode cX10_beginSum 0 = .ok (.aload_n 0, 1) := by decide +kernel
theorem dX10_beginSum_1 : decode cX10_beginSum 1 = .ok (.aload_n 0, 1) := by decide +kernel
theorem dX10_beginSum_2 : decode cX10_beginSum 2 = .ok (.aload_n 0, 1) := by decide +kernel
theorem dX10_beginSum_3 : decode cX10_beginSum 3 = .ok (.getfield 17, 3) := by decide +kernel
theorem dX10_beginSum_6 : decode cX10_beginSum 6 = .ok (.iconst 2, 1) := by decide +kernel
theorem dX10_beginSum_7 : decode cX10_beginSum 7 = .ok (.iaload, 1) := by decide +kernel
theorem dX10_beginSum_8 : decode cX10_beginSum 8 = .ok (.invokevirtual 264, 3) := by decide +kernel
theorem dX10_beginSum_11 : decode cX10_beginSum 11 = .ok (.i2l, 1) := by decide +kernel
theorem dX10_beginSum_12 : decode cX10_beginSum 12 = .ok (.putfield 374, 3) := by decide +kernel
theorem dX10_beginSum_15 : decode cX10_beginSum 15 = .ok (.aload_n 0, 1) := by decide +kernel
theorem dX10_beginSum_16 : decode cX10_beginSum 16 = .ok (.lconst 1, 1) := by decide +kernel
theorem dX10_beginSum_17 : decode cX10_beginSum 17 = .ok (.putfield 377, 3) := by decide +kernel
theorem dX10_beginSum_20 : decode cX10_beginSum 20 = .ok (.aload_n 0, 1) := by decide +kernel
theorem dX10_beginSum_21 : decode cX10_beginSum 21 = .ok (.lconst 0, 1) := by decide +kernel
theorem dX10_beginSum_22 : decode cX10_beginSum 22 = .ok (.putfield 380, 3) := by decide +kernel
theorem dX10_beginSum_25 : decode cX10_beginSum 25 = .ok (.aload_n 0, 1) := by decide +kernel
theorem dX10_beginSum_26 : decode cX10_beginSum 26 = .ok (.iconst 1, 1) := by decide +kernel
theorem dX10_beginSum_27 : decode cX10_beginSum 27 = .ok (.putfield 383, 3) := by decide +kernel
theorem dX10_beginSum_30 : decode cX10_beginSum 30 = .ok (.return_, 1) := by decide +kernel
set_option maxRecDepth 20000 in
theorem ggX10_must_X10_apart : GoodIn wsX10_must wsX10_apart := goodIn_r _ [9] (by decide +kernel) (by decide +kernel)
set_option maxRecDepth 20000 in
theorem gX10_must_X10_apart : GoodIn wsX10_must (va_wsS RX10 331 yX10_apart wsX10_apart) := goodIn_app (goodIn_of _ (by decide +kernel)) ggX10_must_X10_apart
theorem dX10_must_0 : decode cX10_must 0 = .ok (.lload_n 1, 1) := by decide +kernel
theorem dX10_must_1 : decode cX10_must 1 = .ok (.lconst 0, 1) := by decide +kernel
theorem dX10_must_2 : decode cX10_must 2 = .ok (.lcmp, 1) := by decide +kernel
theorem dX10_must_3 : decode cX10_must 3 = .ok (.ifCond .ne 28, 3) := by decide +kernel
theorem dX10_must_6 : decode cX10_must 6 = .ok (.aload_n 0, 1) := by decide +kernel
theorem dX10_must_7 : decode cX10_must 7 = .ok (.aload_n 0, 1) := by decide +kernel
theorem dX10_must_8 : decode cX10_must 8 = .ok (.getfield 383, 3) := by decide +kernel
theorem dX10_must_11 : decode cX10_must 11 = .ok (.ifCond .eq 13, 3) := by decide +kernel
theorem dX10_must_14 : decode cX10_must 14 = .ok (.lload_n 3, 1) := by decide +kernel
theorem dX10_must_15 : decode cX10_must 15 = .ok (.lconst 0, 1) := by decide +kernel
theorem dX10_must_16 : decode cX10_must 16 = .ok (.lcmp, 1) := by decide +kernel
theorem dX10_must_17 : decode cX10_must 17 = .ok (.ifCond .gt 7, 3) := by decide +kernel
theorem dX10_must_20 : decode cX10_must 20 = .ok (.iconst 1, 1) := by decide +kernel
theorem dX10_must_21 : decode cX10_must 21 = .ok (.goto 4, 3) := by decide +kernel
theorem dX10_must_24 : decode cX10_must 24 = .ok (.iconst 0, 1) := by decide +kernel
theorem dX10_must_25 : decode cX10_must 25 = .ok (.putfield 383, 3) := by decide +kernel
theorem dX10_must_28 : decode cX10_must 28 = .ok (.goto 82, 3) := by decide +kernel
theorem dX10_must_31 : decode cX10_must 31 = .ok (.lload_n 1, 1) := by decide +kernel
theorem dX10_must_32 : decode cX10_must 32 = .ok (.lconst 0, 1) := by decide +kernel
theorem dX10_must_33 : decode cX10_must 33 = .ok (.lcmp, 1) := by decide +kernel
theorem dX10_must_34 : decode cX10_must 34 = .ok (.ifCond .le 35, 3) := by decide +kernel
theorem dX10_must_37 : decode cX10_must 37 = .ok (.lload_n 3, 1) := by decide +kernel
theorem dX10_must_38 : decode cX10_must 38 = .ok (.lload_n 1, 1) := by decide +kernel
theorem dX10_must_39 : decode cX10_must 39 = .ok (.aload_n 0, 1) := by decide +kernel
theorem dX10_must_40 : decode cX10_must 40 = .ok (.getfield 374, 3) := by decide +kernel
theorem dX10_must_43 : decode cX10_must 43 = .ok (.aload_n 0, 1) := by decide +kernel
theorem dX10_must_44 : decode cX10_must 44 = .ok (.getfield 377, 3) := by decide +kernel
theorem dX10_must_47 : decode cX10_must 47 = .ok (.invokestatic 331, 3) := by decide +kernel
theorem dX10_must_50 : decode cX10_must 50 = .ok (.lconst 0, 1) := by decide +kernel
theorem dX10_must_51 : decode cX10_must 51 = .ok (.lcmp, 1) := by decide +kernel
theorem dX10_must_52 : decode cX10_must 52 = .ok (.ifCond .gt 4, 3) := by decide +kernel
theorem dX10_must_55 : decode cX10_must 55 = .ok (.return_, 1) := by decide +kernel
theorem dX10_must_56 : decode cX10_must 56 = .ok (.aload_n 0, 1) := by decide +kernel
theorem dX10_must_57 : decode cX10_must 57 = .ok (.lload_n 3, 1) := by decide +kernel
theorem dX10_must_58 : decode cX10_must 58 = .ok (.putfield 374, 3) := by decide +kernel
theorem dX10_must_61 : decode cX10_must 61 = .ok (.aload_n 0, 1) := by decide +kernel
theorem dX10_must_62 : decode cX10_must 62 = .ok (.lload_n 1, 1) := by decide +kernel
theorem dX10_must_63 : decode cX10_must 63 = .ok (.putfield 377, 3) := by decide +kernel
theorem dX10_must_66 : decode cX10_must 66 = .ok (.goto 44, 3) := by decide +kernel
theorem dX10_must_69 : decode cX10_must 69 = .ok (.aload_n 0, 1) := by decide +kernel
theorem dX10_must_70 : decode cX10_must 70 = .ok (.getfield 380, 3) := by decide +kernel
theorem dX10_must_73 : decode cX10_must 73 = .ok (.lconst 0, 1) := by decide +kernel
theorem dX10_must_74 : decode cX10_must 74 = .ok (.lcmp, 1) := by decide +kernel
theorem dX10_must_75 : decode cX10_must 75 = .ok (.ifCond .eq 23, 3) := by decide +kernel
theorem dX10_must_78 : decode cX10_must 78 = .ok (.lload_n 3, 1) := by decide +kernel
theorem dX10_must_79 : decode cX10_must 79 = .ok (.lneg, 1) := by decide +kernel
theorem dX10_must_80 : decode cX10_must 80 = .ok (.lload_n 1, 1) := by decide +kernel
theorem dX10_must_81 : decode cX10_must 81 = .ok (.lneg, 1) := by decide +kernel
theorem dX10_must_82 : decode cX10_must 82 = .ok (.aload_n 0, 1) := by decide +kernel
theorem dX10_must_83 : decode cX10_must 83 = .ok (.getfield 386, 3) := by decide +kernel
theorem dX10_must_86 : decode cX10_must 86 = .ok (.aload_n 0, 1) := by decide +kernel
theorem dX10_must_87 : decode cX10_must 87 = .ok (.getfield 380, 3) := by decide +kernel
theorem dX10_must_90 : decode cX10_must 90 = .ok (.invokestatic 331, 3) := by decide +kernel
theorem dX10_must_93 : decode cX10_must 93 = .ok (.lconst 0, 1) := by decide +kernel
theorem dX10_must_94 : decode cX10_must 94 = .ok (.lcmp, 1) := by decide +kernel
theorem dX10_must_95 : decode cX10_must 95 = .ok (.ifCond .ge 15, 3) := by decide +kernel
theorem dX10_must_98 : decode cX10_must 98 = .ok (.aload_n 0, 1) := by decide +kernel
theorem dX10_must_99 : decode cX10_must 99 = .ok (.lload_n 3, 1) := by decide +kernel
theorem dX10_must_100 : decode cX10_must 100 = .ok (.lneg, 1) := by decide +kernel
theorem dX10_must_101 : decode cX10_must 101 = .ok (.putfield 386, 3) := by decide +kernel
theorem dX10_must_104 : decode cX10_must 104 = .ok (.aload_n 0, 1) := by decide +kernel
theorem dX10_must_105 : decode cX10_must 105 = .ok (.lload_n 1, 1) := by decide +kernel
theorem dX10_must_106 : decode cX10_must 106 = .ok (.lneg, 1) := by decide +kernel
theorem dX10_must_107 : decode cX10_must 107 = .ok (.putfield 380, 3) := by decide +kernel
theorem dX10_must_110 : decode cX10_must 110 = .ok (.return_, 1) := by decide +kernel
theorem pm_X10_isSum_r1 : ∀ w ∈ wsX10_isSum_r1, w ∈ wsX10_isSum := fun _ h => List.mem_cons_of_mem _ (List.mem_append_left _ (List.mem_append_left _ h))
theorem pm_X10_isSum_r2 : ∀ w ∈ wsX10_isSum_r2, w ∈ wsX10_isSum := fun _ h => List.mem_cons_of_mem _ (List.mem_append_left _ (List.mem_append_right _ (h)))
theorem pw_X10_isSum_X10 : ∀ w ∈ wsX100, w ∈ wsX10_isSum := fun _ h => List.mem_cons_of_mem _ (List.mem_append_right _ h)
set_option maxRecDepth 20000 in
theorem ggX10_isSum_X10_apart : GoodIn wsX10_isSum wsX10_apart := goodIn_sub (List.forall_mem_cons.mpr ⟨pm_X10_isSum_r1 _ (List.mem_of_getElem? (i := 8) rfl), fun _ h => absurd h List.not_mem_nil⟩) (by decide +kernel)
set_option maxRecDepth 20000 in
theorem gX10_isSum_X10_apart : GoodIn wsX10_isSum (va_wsS RX10 331 yX10_apart wsX10_apart) := goodIn_app (goodIn_of _ (by decide +kernel)) ggX10_isSum_X10_apart
set_option maxRecDepth 20000 in
theorem ggX10_isSum_X10_wageOf : GoodIn wsX10_isSum wsX10_wageOf := goodIn_sub (List.forall_mem_cons.mpr ⟨pm_X10_isSum_r1 _ (List.mem_of_getElem? (i := 12) rfl), List.forall_mem_append.mpr ⟨List.forall_mem_cons.mpr ⟨pm_X10_isSum_r1 _ (List.mem_of_getElem? (i := 13) rfl), List.forall_mem_cons.mpr ⟨pm_X10_isSum_r1 _ (List.mem_of_getElem? (i := 14) rfl), List.forall_mem_cons.mpr ⟨pm_X10_isSum_r1 _ (List.mem_of_getElem? (i := 15) rfl), List.forall_mem_cons.mpr ⟨pm_X10_isSum_r1 _ (List.mem_of_getElem? (i := 16) rfl), List.forall_mem_cons.mpr ⟨pm_X10_isSum_r1 _ (List.mem_of_getElem? (i := 17) rfl), List.forall_mem_cons.mpr ⟨pm_X10_isSum_r1 _ (List.mem_of_getElem? (i := 18) rfl), List.forall_mem_cons.mpr ⟨pm_X10_isSum_r1 _ (List.mem_of_getElem? (i := 19) rfl), List.forall_mem_cons.mpr ⟨pm_X10_isSum_r1 _ (List.mem_of_getElem? (i := 20) rfl), List.forall_mem_cons.mpr ⟨pm_X10_isSum_r1 _ (List.mem_of_getElem? (i := 7) rfl), List.forall_mem_cons.mpr ⟨pm_X10_isSum_r1 _ (List.mem_of_getElem? (i := 21) rfl), List.forall_mem_cons.mpr ⟨pm_X10_isSum_r1 _ (List.mem_of_getElem? (i := 22) rfl), List.forall_mem_cons.mpr ⟨pm_X10_isSum_r1 _ (List.mem_of_getElem? (i := 23) rfl), List.forall_mem_cons.mpr ⟨pm_X10_isSum_r2 _ (List.mem_of_getElem? (i := 0) rfl), fun _ h => absurd h List.not_mem_nil⟩⟩⟩⟩⟩⟩⟩⟩⟩⟩⟩⟩⟩, pw_X10_isSum_X10⟩⟩) (by decide +kernel)
set_option maxRecDepth 20000 in
theorem gX10_isSum_X10_wageOf : GoodIn wsX10_isSum (wsV RX10 318 RX10 yX10_wageOf wsX10_wageOf) := goodIn_app (goodIn_of _ (by decide +kernel)) ggX10_isSum_X10_wageOf
theorem dX10_isSum_0 : decode cX10_isSum 0 = .ok (.aload_n 0, 1) := by decide +kernel
theorem dX10_isSum_1 : decode cX10_isSum 1 = .ok (.getfield 383, 3) := by decide +kernel
theorem dX10_isSum_4 : decode cX10_isSum 4 = .ok (.ifCond .eq 36, 3) := by decide +kernel
theorem dX10_isSum_7 : decode cX10_isSum 7 = .ok (.aload_n 0, 1) := by decide +kernel
theorem dX10_isSum_8 : decode cX10_isSum 8 = .ok (.getfield 380, 3) := by decide +kernel
theorem dX10_isSum_11 : decode cX10_isSum 11 = .ok (.lconst 0, 1) := by decide +kernel
theorem dX10_isSum_12 : decode cX10_isSum 12 = .ok (.lcmp, 1) := by decide +kernel
theorem dX10_isSum_13 : decode cX10_isSum 13 = .ok (.ifCond .eq 29, 3) := by decide +kernel
theorem dX10_isSum_16 : decode cX10_isSum 16 = .ok (.aload_n 0, 1) := by decide +kernel
theorem dX10_isSum_17 : decode cX10_isSum 17 = .ok (.getfield 374, 3) := by decide +kernel
theorem dX10_isSum_20 : decode cX10_isSum 20 = .ok (.aload_n 0, 1) := by decide +kernel
theorem dX10_isSum_21 : decode cX10_isSum 21 = .ok (.getfield 377, 3) := by decide +kernel
theorem dX10_isSum_24 : decode cX10_isSum 24 = .ok (.aload_n 0, 1) := by decide +kernel
theorem dX10_isSum_25 : decode cX10_isSum 25 = .ok (.getfield 386, 3) := by decide +kernel
theorem dX10_isSum_28 : decode cX10_isSum 28 = .ok (.aload_n 0, 1) := by decide +kernel
theorem dX10_isSum_29 : decode cX10_isSum 29 = .ok (.getfield 380, 3) := by decide +kernel
theorem dX10_isSum_32 : decode cX10_isSum 32 = .ok (.invokestatic 331, 3) := by decide +kernel
theorem dX10_isSum_35 : decode cX10_isSum 35 = .ok (.lconst 0, 1) := by decide +kernel
theorem dX10_isSum_36 : decode cX10_isSum 36 = .ok (.lcmp, 1) := by decide +kernel
theorem dX10_isSum_37 : decode cX10_isSum 37 = .ok (.ifCond .le 5, 3) := by decide +kernel
theorem dX10_isSum_40 : decode cX10_isSum 40 = .ok (.iconst 0, 1) := by decide +kernel
theorem dX10_isSum_41 : decode cX10_isSum 41 = .ok (.ireturn, 1) := by decide +kernel
theorem dX10_isSum_42 : decode cX10_isSum 42 = .ok (.aload_n 0, 1) := by decide +kernel
theorem dX10_isSum_43 : decode cX10_isSum 43 = .ok (.aload_n 0, 1) := by decide +kernel
theorem dX10_isSum_44 : decode cX10_isSum 44 = .ok (.getfield 374, 3) := by decide +kernel
theorem dX10_isSum_47 : decode cX10_isSum 47 = .ok (.aload_n 0, 1) := by decide +kernel
theorem dX10_isSum_48 : decode cX10_isSum 48 = .ok (.getfield 377, 3) := by decide +kernel
theorem dX10_isSum_51 : decode cX10_isSum 51 = .ok (.iconst 0, 1) := by decide +kernel
theorem dX10_isSum_52 : decode cX10_isSum 52 = .ok (.invokevirtual 318, 3) := by decide +kernel
theorem dX10_isSum_55 : decode cX10_isSum 55 = .ok (.iconst 1, 1) := by decide +kernel
theorem dX10_isSum_56 : decode cX10_isSum 56 = .ok (.ireturn, 1) := by decide +kernel
set_option maxRecDepth 20000 in
theorem ggX10_chanceFrom_X10_chanceOf : GoodIn wsX10_chanceFrom wsX10_chanceOf := goodIn_r _ [7, 8, 9, 10, 11, 12, 13, 14, 15, 16, 17, 18, 19, 20, 21, 22, 23, 24, 25, 26, 27, 28, 29, 30, 31, 32, 33, 34, 35, 36, 37, 38, 39, 40, 41, 42, 43, 44, 45, 46, 47, 48, 49, 50, 51, 52, 53, 54, 55, 56, 57, 58, 59, 60, 61, 62, 63, 64, 65, 66, 67, 68, 69, 70, 71, 72, 73] (by decide +kernel) (by decide +kernel)
set_option maxRecDepth 20000 in
theorem gX10_chanceFrom_X10_chanceOf : GoodIn wsX10_chanceFrom (wsV RX10 259 RX10 yX10_chanceOf wsX10_chanceOf) := goodIn_app (goodIn_of _ (by decide +kernel)) ggX10_chanceFrom_X10_chanceOf
theorem dX10_chanceFrom_0 : decode cX10_chanceFrom 0 = .ok (.iconst 0, 1) := by decide +kernel
theorem dX10_chanceFrom_1 : decode cX10_chanceFrom 1 = .ok (.istore_n 3, 1) := by decide +kernel
theorem dX10_chanceFrom_2 : decode cX10_chanceFrom 2 = .ok (.iconst 0, 1) := by decide +kernel
theorem dX10_chanceFrom_3 : decode cX10_chanceFrom 3 = .ok (.istore 4, 2) := by decide +kernel
theorem dX10_chanceFrom_5 : decode cX10_chanceFrom 5 = .ok (.iload 4, 2) := by decide +kernel
theorem dX10_chanceFrom_7 : decode cX10_chanceFrom 7 = .ok (.aload_n 0, 1) := by decide +kernel
theorem dX10_chanceFrom_8 : decode cX10_chanceFrom 8 = .ok (.getfield 17, 3) := by decide +kernel
theorem dX10_chanceFrom_11 : decode cX10_chanceFrom 11 = .ok (.iconst 3, 1) := by decide +kernel
theorem dX10_chanceFrom_12 : decode cX10_chanceFrom 12 = .ok (.iaload, 1) := by decide +kernel
theorem dX10_chanceFrom_13 : decode cX10_chanceFrom 13 = .ok (.if_icmp .ge 39, 3) := by decide +kernel
theorem dX10_chanceFrom_16 : decode cX10_chanceFrom 16 = .ok (.iload_n 3, 1) := by decide +kernel
theorem dX10_chanceFrom_17 : decode cX10_chanceFrom 17 = .ok (.aload_n 0, 1) := by decide +kernel
theorem dX10_chanceFrom_18 : decode cX10_chanceFrom 18 = .ok (.getfield 28, 3) := by decide +kernel
theorem dX10_chanceFrom_21 : decode cX10_chanceFrom 21 = .ok (.iload 4, 2) := by decide +kernel
theorem dX10_chanceFrom_23 : decode cX10_chanceFrom 23 = .ok (.iaload, 1) := by decide +kernel
theorem dX10_chanceFrom_24 : decode cX10_chanceFrom 24 = .ok (.aload_n 0, 1) := by decide +kernel
theorem dX10_chanceFrom_25 : decode cX10_chanceFrom 25 = .ok (.getfield 28, 3) := by decide +kernel
theorem dX10_chanceFrom_28 : decode cX10_chanceFrom 28 = .ok (.iload_n 2, 1) := by decide +kernel
theorem dX10_chanceFrom_29 : decode cX10_chanceFrom 29 = .ok (.iaload, 1) := by decide +kernel
theorem dX10_chanceFrom_30 : decode cX10_chanceFrom 30 = .ok (.if_icmp .lt 13, 3) := by decide +kernel
theorem dX10_chanceFrom_33 : decode cX10_chanceFrom 33 = .ok (.aload_n 0, 1) := by decide +kernel
theorem dX10_chanceFrom_34 : decode cX10_chanceFrom 34 = .ok (.iload_n 1, 1) := by decide +kernel
theorem dX10_chanceFrom_35 : decode cX10_chanceFrom 35 = .ok (.iload 4, 2) := by decide +kernel
theorem dX10_chanceFrom_37 : decode cX10_chanceFrom 37 = .ok (.invokevirtual 259, 3) := by decide +kernel
theorem dX10_chanceFrom_40 : decode cX10_chanceFrom 40 = .ok (.goto 4, 3) := by decide +kernel
theorem dX10_chanceFrom_43 : decode cX10_chanceFrom 43 = .ok (.iconst 0, 1) := by decide +kernel
theorem dX10_chanceFrom_44 : decode cX10_chanceFrom 44 = .ok (.iadd, 1) := by decide +kernel
theorem dX10_chanceFrom_45 : decode cX10_chanceFrom 45 = .ok (.istore_n 3, 1) := by decide +kernel
theorem dX10_chanceFrom_46 : decode cX10_chanceFrom 46 = .ok (.iinc 4 1, 3) := by decide +kernel
theorem dX10_chanceFrom_49 : decode cX10_chanceFrom 49 = .ok (.goto (-44), 3) := by decide +kernel
theorem dX10_chanceFrom_52 : decode cX10_chanceFrom 52 = .ok (.iload_n 3, 1) := by decide +kernel
theorem dX10_chanceFrom_53 : decode cX10_chanceFrom 53 = .ok (.ireturn, 1) := by decide +kernel
theorem kk_X10_coins_0 : Cond.constantLong RX10 247 (20) ∈ wsX10_coins := pm_X10_coins_r1 _ (List.mem_of_getElem? (i := 0) rfl)
theorem kk_X10_coins_1 : Cond.fieldLink RX10 17 "PaidBySignsModel" "num" "[I" ∈ wsX10_coins := pm_X10_coins_r1 _ (List.mem_of_getElem? (i := 1) rfl)
theorem kk_X10_coins_2 : Cond.fieldLink RX10 206 "PaidBySignsModel" "hasWages" "Z" ∈ wsX10_coins := pm_X10_coins_r1 _ (List.mem_of_getElem? (i := 3) rfl)
theorem kk_X10_coins_3 : Cond.fieldLink RX10 346 "PaidBySignsModel" "wageMany" "I" ∈ wsX10_coins := pm_X10_coins_r1 _ (List.mem_of_getElem? (i := 4) rfl)
theorem kk_X10_coins_4 : Cond.fieldLink RX10 82 "PaidBySignsModel" "coin" "[I" ∈ wsX10_coins := pm_X10_coins_r1 _ (List.mem_of_getElem? (i := 2) rfl)
theorem kk_X10_coins_5 : Cond.fieldLink RX10 76 "PaidBySignsModel" "toldUp" "[J" ∈ wsX10_coins := pm_X10_coins_r1 _ (List.mem_of_getElem? (i := 5) rfl)
theorem kk_X10_coins_6 : Cond.fieldLink RX10 79 "PaidBySignsModel" "toldLow" "[J" ∈ wsX10_coins := pm_X10_coins_r1 _ (List.mem_of_getElem? (i := 6) rfl)
theorem kk_X10_beginSum_0 : Cond.fieldLink RX10 17 "PaidBySignsModel" "num" "[I" ∈ wsX10_beginSum := by decide +kernel
theorem kk_X10_beginSum_1 : Cond.fieldLink RX10 374 "PaidBySignsModel" "fromUp" "J" ∈ wsX10_beginSum := by decide +kernel
theorem kk_X10_beginSum_2 : Cond.fieldLink RX10 377 "PaidBySignsModel" "fromLow" "J" ∈ wsX10_beginSum := by decide +kernel
theorem kk_X10_beginSum_3 : Cond.fieldLink RX10 380 "PaidBySignsModel" "toLow" "J" ∈ wsX10_beginSum := by decide +kernel
theorem kk_X10_beginSum_4 : Cond.fieldLink RX10 383 "PaidBySignsModel" "canBe" "Z" ∈ wsX10_beginSum := by decide +kernel
theorem kk_X10_must_0 : Cond.fieldLink RX10 380 "PaidBySignsModel" "toLow" "J" ∈ wsX10_must := by decide +kernel
theorem kk_X10_must_1 : Cond.fieldLink RX10 386 "PaidBySignsModel" "toUp" "J" ∈ wsX10_must := by decide +kernel
theorem kk_X10_must_2 : Cond.fieldLink RX10 374 "PaidBySignsModel" "fromUp" "J" ∈ wsX10_must := by decide +kernel
theorem kk_X10_must_3 : Cond.fieldLink RX10 377 "PaidBySignsModel" "fromLow" "J" ∈ wsX10_must := by decide +kernel
theorem kk_X10_must_4 : Cond.fieldLink RX10 383 "PaidBySignsModel" "canBe" "Z" ∈ wsX10_must := by decide +kernel
theorem kk_X10_isSum_0 : Cond.fieldLink RX10 383 "PaidBySignsModel" "canBe" "Z" ∈ wsX10_isSum := pm_X10_isSum_r1 _ (List.mem_of_getElem? (i := 0) rfl)
theorem kk_X10_isSum_1 : Cond.fieldLink RX10 380 "PaidBySignsModel" "toLow" "J" ∈ wsX10_isSum := pm_X10_isSum_r1 _ (List.mem_of_getElem? (i := 1) rfl)
theorem kk_X10_isSum_2 : Cond.fieldLink RX10 374 "PaidBySignsModel" "fromUp" "J" ∈ wsX10_isSum := pm_X10_isSum_r1 _ (List.mem_of_getElem? (i := 2) rfl)
theorem kk_X10_isSum_3 : Cond.fieldLink RX10 377 "PaidBySignsModel" "fromLow" "J" ∈ wsX10_isSum := pm_X10_isSum_r1 _ (List.mem_of_getElem? (i := 3) rfl)
theorem kk_X10_isSum_4 : Cond.fieldLink RX10 386 "PaidBySignsModel" "toUp" "J" ∈ wsX10_isSum := pm_X10_isSum_r1 _ (List.mem_of_getElem? (i := 4) rfl)
theorem kk_X10_chanceFrom_0 : Cond.fieldLink RX10 17 "PaidBySignsModel" "num" "[I" ∈ wsX10_chanceFrom := by decide +kernel
theorem kk_X10_chanceFrom_1 : Cond.fieldLink RX10 28 "PaidBySignsModel" "brings" "[I" ∈ wsX10_chanceFrom := by decide +kernel
theorem iw_X10_coins_X10 : ∀ w ∈ wsX100, w ∈ wsX10_coins := pw_X10_coins_X10
theorem iw_X10_beginSum_X10 : ∀ w ∈ wsX100, w ∈ wsX10_beginSum := by decide +kernel
theorem iw_X10_must_X10 : ∀ w ∈ wsX100, w ∈ wsX10_must := by decide +kernel
theorem iw_X10_isSum_X10 : ∀ w ∈ wsX100, w ∈ wsX10_isSum := pw_X10_isSum_X10
theorem iw_X10_chanceFrom_X10 : ∀ w ∈ wsX100, w ∈ wsX10_chanceFrom := by decide +kernel
