abbrev cX10_ratio : ByteArray := prog_12_method_78_code
def yX10_ratio : MethodName := ⟨RX10, "ratio", "(II)I"⟩
abbrev cX10_rises : ByteArray := prog_12_method_79_code
def yX10_rises : MethodName := ⟨RX10, "rises", "(I)I"⟩
abbrev cX10_see : ByteArray := prog_12_method_80_code
def yX10_see : MethodName := ⟨RX10, "see", "(II)I"⟩
abbrev cX10_right : ByteArray := prog_12_method_81_code
def yX10_right : MethodName := ⟨RX10, "right", "(III)I"⟩
abbrev cX10_product : ByteArray := prog_12_method_82_code
def yX10_product : MethodName := ⟨RX10, "product", "(II)J"⟩
def wsX10_ratio : List Cond := .code yX10_ratio cX10_ratio 5 (some .int) :: ([.fieldLink RX10 17 "PaidBySignsModel" "num" "[I", .fieldLink RX10 28 "PaidBySignsModel" "brings" "[I", .methodLink RX10 253 yX10_isWork, .instanceMethod yX10_isWork, .selects RX10 yX10_isWork yX10_isWork, .initialized RX10, .code yX10_isWork cX10_isWork 2 (some .boolean), .methodLink RX10 174 yX10_in, .static yX10_in, .code yX10_in cX10_in 6 (some .boolean), .methodLink RX10 259 yX10_chanceOf, .instanceMethod yX10_chanceOf, .selects RX10 yX10_chanceOf yX10_chanceOf, .code yX10_chanceOf cX10_chanceOf 3 (some .int), .fieldLink RX10 34 "PaidBySignsModel" "chances" "[I"] ++ wsX100)
def wsX10_rises_r1 : List Cond := [Cond.fieldLink RX10 17 "PaidBySignsModel" "num" "[I", Cond.fieldLink RX10 28 "PaidBySignsModel" "brings" "[I", Cond.fieldLink RX10 70 "PaidBySignsModel" "bestUp" "[J", Cond.fieldLink RX10 73 "PaidBySignsModel" "bestLow" "[J", Cond.methodLink RX10 253 yX10_isWork, Cond.instanceMethod yX10_isWork, Cond.selects RX10 yX10_isWork yX10_isWork, Cond.initialized RX10, Cond.code yX10_isWork cX10_isWork 2 (some .boolean), Cond.methodLink RX10 174 yX10_in, Cond.static yX10_in, Cond.code yX10_in cX10_in 6 (some .boolean), Cond.methodLink RX10 349 yX10_eachAlone, Cond.instanceMethod yX10_eachAlone, Cond.selects RX10 yX10_eachAlone yX10_eachAlone, Cond.code yX10_eachAlone cX10_eachAlone 2 none, Cond.fieldLink RX10 289 "PaidBySignsModel" "groups" "I", Cond.fieldLink RX10 46 "PaidBySignsModel" "groupOf" "[I", Cond.methodLink RX10 352 yX10_isHad, Cond.instanceMethod yX10_isHad, Cond.selects RX10 yX10_isHad yX10_isHad, Cond.code yX10_isHad cX10_isHad 2 (some .boolean), Cond.fieldLink RX10 322 "PaidBySignsModel" "isFound" "Z", Cond.methodLink RX10 343 yX10_makeBounds]
def wsX10_rises_r2 : List Cond := [Cond.instanceMethod yX10_makeBounds, Cond.selects RX10 yX10_makeBounds yX10_makeBounds, Cond.code yX10_makeBounds cX10_makeBounds 5 none, Cond.fieldLink RX10 292 "PaidBySignsModel" "bounds" "I", Cond.fieldLink RX10 31 "PaidBySignsModel" "costs" "[I", Cond.fieldLink RX10 49 "PaidBySignsModel" "row" "[J", Cond.fieldLink RX10 299 "PaidBySignsModel" "asked" "I", Cond.fieldLink RX10 40 "PaidBySignsModel" "marks" "[I", Cond.methodLink RX10 295 yX10_addBound, Cond.instanceMethod yX10_addBound, Cond.selects RX10 yX10_addBound yX10_addBound, Cond.code yX10_addBound cX10_addBound 4 (some .int), Cond.fieldLink RX10 52 "PaidBySignsModel" "least" "[J", Cond.methodLink RX10 259 yX10_chanceOf, Cond.instanceMethod yX10_chanceOf, Cond.selects RX10 yX10_chanceOf yX10_chanceOf, Cond.code yX10_chanceOf cX10_chanceOf 3 (some .int), Cond.fieldLink RX10 34 "PaidBySignsModel" "chances" "[I", Cond.methodLink RX10 264 yX10_feel, Cond.instanceMethod yX10_feel, Cond.selects RX10 yX10_feel yX10_feel, Cond.code yX10_feel cX10_feel 6 (some .int), Cond.fieldLink RX10 37 "PaidBySignsModel" "rates" "[I", Cond.methodLink RX10 339 yX10_choose]
def wsX10_rises_r3 : List Cond := [Cond.instanceMethod yX10_choose, Cond.selects RX10 yX10_choose yX10_choose, Cond.code yX10_choose cX10_choose 5 none, Cond.fieldLink RX10 55 "PaidBySignsModel" "chosen" "[I", Cond.methodLink RX10 335 yX10_look, Cond.instanceMethod yX10_look, Cond.selects RX10 yX10_look yX10_look, Cond.code yX10_look cX10_look 10 none, Cond.fieldLink RX10 61 "PaidBySignsModel" "x" "[J", Cond.fieldLink RX10 310 "PaidBySignsModel" "det" "J", Cond.fieldLink RX10 67 "PaidBySignsModel" "wageLow" "[J", Cond.fieldLink RX10 64 "PaidBySignsModel" "wageUp" "[J", Cond.fieldLink RX10 325 "PaidBySignsModel" "costUp" "J", Cond.fieldLink RX10 328 "PaidBySignsModel" "costLow" "J", Cond.constantLong RX10 313 (-1), Cond.methodLink RX10 315 yX10_isCorner, Cond.instanceMethod yX10_isCorner, Cond.selects RX10 yX10_isCorner yX10_isCorner, Cond.code yX10_isCorner cX10_isCorner 7 (some .boolean), Cond.methodLink RX10 306 yX10_determinant, Cond.instanceMethod yX10_determinant, Cond.selects RX10 yX10_determinant yX10_determinant, Cond.code yX10_determinant cX10_determinant 4 (some .long), Cond.fieldLink RX10 58 "PaidBySignsModel" "matrix" "[J"]
def wsX10_rises_r4 : List Cond := [Cond.methodLink RX10 302 yX10_minor, Cond.instanceMethod yX10_minor, Cond.selects RX10 yX10_minor yX10_minor, Cond.code yX10_minor cX10_minor 7 (some .long), Cond.methodLink RX10 318 yX10_wageOf, Cond.instanceMethod yX10_wageOf, Cond.selects RX10 yX10_wageOf yX10_wageOf, Cond.code yX10_wageOf cX10_wageOf 13 none, Cond.methodLink RX10 277 yX10_common, Cond.static yX10_common, Cond.code yX10_common cX10_common 10 (some .long), Cond.methodLink RX10 331 yX10_apart, Cond.static yX10_apart, Cond.code yX10_apart cX10_apart 8 (some .long)]
def wsX10_rises : List Cond := .code yX10_rises cX10_rises 4 (some .int) :: ((wsX10_rises_r1 ++ (wsX10_rises_r2 ++ (wsX10_rises_r3 ++ wsX10_rises_r4))) ++ wsX100)
def wsX10_see : List Cond := .code yX10_see cX10_see 3 (some .int) :: ([.fieldLink RX10 199 "PaidBySignsModel" "lastTold" "I", .constantLong RX10 407 (999), .fieldLink RX10 193 "PaidBySignsModel" "seenMany" "I", .fieldLink RX10 91 "PaidBySignsModel" "sTold" "[I", .fieldLink RX10 94 "PaidBySignsModel" "sSign" "[I", .methodLink RX10 174 yX10_in, .static yX10_in, .initialized RX10, .code yX10_in cX10_in 6 (some .boolean), .methodLink RX10 256 yX10_isSign, .instanceMethod yX10_isSign, .selects RX10 yX10_isSign yX10_isSign, .code yX10_isSign cX10_isSign 2 (some .boolean), .fieldLink RX10 17 "PaidBySignsModel" "num" "[I"] ++ wsX100)
def wsX10_right : List Cond := .code yX10_right cX10_right 6 (some .int) :: ([.fieldLink RX10 199 "PaidBySignsModel" "lastTold" "I", .constantLong RX10 407 (999), .fieldLink RX10 193 "PaidBySignsModel" "seenMany" "I", .fieldLink RX10 196 "PaidBySignsModel" "rightMany" "I", .fieldLink RX10 97 "PaidBySignsModel" "rOf" "[I", .fieldLink RX10 100 "PaidBySignsModel" "rTold" "[I", .fieldLink RX10 103 "PaidBySignsModel" "rSign" "[I", .methodLink RX10 174 yX10_in, .static yX10_in, .initialized RX10, .code yX10_in cX10_in 6 (some .boolean), .methodLink RX10 256 yX10_isSign, .instanceMethod yX10_isSign, .selects RX10 yX10_isSign yX10_isSign, .code yX10_isSign cX10_isSign 2 (some .boolean), .fieldLink RX10 17 "PaidBySignsModel" "num" "[I"] ++ wsX100)
def wsX10_product : List Cond := .code yX10_product cX10_product 8 (some .long) :: ([.fieldLink RX10 193 "PaidBySignsModel" "seenMany" "I", .fieldLink RX10 91 "PaidBySignsModel" "sTold" "[I", .fieldLink RX10 94 "PaidBySignsModel" "sSign" "[I", .fieldLink RX10 196 "PaidBySignsModel" "rightMany" "I", .fieldLink RX10 97 "PaidBySignsModel" "rOf" "[I", .fieldLink RX10 100 "PaidBySignsModel" "rTold" "[I", .fieldLink RX10 103 "PaidBySignsModel" "rSign" "[I", .methodLink RX10 259 yX10_chanceOf, .instanceMethod yX10_chanceOf, .selects RX10 yX10_chanceOf yX10_chanceOf, .initialized RX10, .code yX10_chanceOf cX10_chanceOf 3 (some .int), .fieldLink RX10 34 "PaidBySignsModel" "chances" "[I"] ++ wsX100)
set_option maxRecDepth 20000 in
theorem ggX10_ratio_X10_isWork : GoodIn wsX10_ratio wsX10_isWork := goodIn_sub (List.forall_mem_cons.mpr ⟨List.mem_cons_of_mem _ (List.mem_append_left _ (List.mem_of_getElem? (i := 6) rfl)), List.forall_mem_append.mpr ⟨List.forall_mem_cons.mpr ⟨List.mem_cons_of_mem _ (List.mem_append_left _ (List.mem_of_getElem? (i := 0) rfl)), List.forall_mem_cons.mpr ⟨List.mem_cons_of_mem _ (List.mem_append_left _ (List.mem_of_getElem? (i := 7) rfl)), List.forall_mem_cons.mpr ⟨List.mem_cons_of_mem _ (List.mem_append_left _ (List.mem_of_getElem? (i := 8) rfl)), List.forall_mem_cons.mpr ⟨List.mem_cons_of_mem _ (List.mem_append_left _ (List.mem_of_getElem? (i := 5) rfl)), List.forall_mem_cons.mpr ⟨List.mem_cons_of_mem _ (List.mem_append_left _ (List.mem_of_getElem? (i := 9) rfl)), fun _ h => absurd h List.not_mem_nil⟩⟩⟩⟩⟩, fun _ h => List.mem_cons_of_mem _ (List.mem_append_right _ h)⟩⟩) (by decide +kernel)
set_option maxRecDepth 20000 in
theorem gX10_ratio_X10_isWork : GoodIn wsX10_ratio (wsV RX10 253 RX10 yX10_isWork wsX10_isWork) := goodIn_app (goodIn_sub (List.forall_mem_cons.mpr ⟨List.mem_cons_of_mem _ (List.mem_append_left _ (List.mem_of_getElem? (i := 2) rfl)), List.forall_mem_cons.mpr ⟨List.mem_cons_of_mem _ (List.mem_append_left _ (List.mem_of_getElem? (i := 3) rfl)), List.forall_mem_cons.mpr ⟨List.mem_cons_of_mem _ (List.mem_append_left _ (List.mem_of_getElem? (i := 4) rfl)), List.forall_mem_cons.mpr ⟨List.mem_cons_of_mem _ (List.mem_append_left _ (List.mem_of_getElem? (i := 5) rfl)), fun _ h => absurd h List.not_mem_nil⟩⟩⟩⟩) (by decide +kernel)) ggX10_ratio_X10_isWork
set_option maxRecDepth 20000 in
theorem ggX10_ratio_X10_chanceOf : GoodIn wsX10_ratio wsX10_chanceOf := goodIn_sub (List.forall_mem_cons.mpr ⟨List.mem_cons_of_mem _ (List.mem_append_left _ (List.mem_of_getElem? (i := 13) rfl)), List.forall_mem_append.mpr ⟨List.forall_mem_cons.mpr ⟨List.mem_cons_of_mem _ (List.mem_append_left _ (List.mem_of_getElem? (i := 14) rfl)), fun _ h => absurd h List.not_mem_nil⟩, fun _ h => List.mem_cons_of_mem _ (List.mem_append_right _ h)⟩⟩) (by decide +kernel)
set_option maxRecDepth 20000 in
theorem gX10_ratio_X10_chanceOf : GoodIn wsX10_ratio (wsV RX10 259 RX10 yX10_chanceOf wsX10_chanceOf) := goodIn_app (goodIn_sub (List.forall_mem_cons.mpr ⟨List.mem_cons_of_mem _ (List.mem_append_left _ (List.mem_of_getElem? (i := 10) rfl)), List.forall_mem_cons.mpr ⟨List.mem_cons_of_mem _ (List.mem_append_left _ (List.mem_of_getElem? (i := 11) rfl)), List.forall_mem_cons.mpr ⟨List.mem_cons_of_mem _ (List.mem_append_left _ (List.mem_of_getElem? (i := 12) rfl)), List.forall_mem_cons.mpr ⟨List.mem_cons_of_mem _ (List.mem_append_left _ (List.mem_of_getElem? (i := 5) rfl)), fun _ h => absurd h List.not_mem_nil⟩⟩⟩⟩) (by decide +kernel)) ggX10_ratio_X10_chanceOf
theorem bX10_ratio_0 : ((bys cX10_ratio).drop 0).take 16 = [42, 27, 182, 0, 253, 153, 0, 11, 42, 28, 182, 0, 253, 154, 0, 6] := by decide +kernel
theorem dX10_ratio_0 : decode cX10_ratio 0 = .ok (.aload_n 0, 1) := do_42 (byt_at bX10_ratio_0 (j := 0) rfl)
theorem dX10_ratio_1 : decode cX10_ratio 1 = .ok (.iload_n 1, 1) := do_27 (byt_at bX10_ratio_0 (j := 1) rfl)
theorem dX10_ratio_2 : decode cX10_ratio 2 = .ok (.invokevirtual 253, 3) := do_182 0 253 (byt_at bX10_ratio_0 (j := 2) rfl) (byt_at bX10_ratio_0 (j := 3) rfl) (byt_at bX10_ratio_0 (j := 4) rfl)
theorem dX10_ratio_5 : decode cX10_ratio 5 = .ok (.ifCond .eq 11, 3) := do_153 0 11 (byt_at bX10_ratio_0 (j := 5) rfl) (byt_at bX10_ratio_0 (j := 6) rfl) (byt_at bX10_ratio_0 (j := 7) rfl) (by decide)
theorem dX10_ratio_8 : decode cX10_ratio 8 = .ok (.aload_n 0, 1) := do_42 (byt_at bX10_ratio_0 (j := 8) rfl)
theorem dX10_ratio_9 : decode cX10_ratio 9 = .ok (.iload_n 2, 1) := do_28 (byt_at bX10_ratio_0 (j := 9) rfl)
theorem dX10_ratio_10 : decode cX10_ratio 10 = .ok (.invokevirtual 253, 3) := do_182 0 253 (byt_at bX10_ratio_0 (j := 10) rfl) (byt_at bX10_ratio_0 (j := 11) rfl) (byt_at bX10_ratio_0 (j := 12) rfl)
theorem dX10_ratio_13 : decode cX10_ratio 13 = .ok (.ifCond .ne 6, 3) := do_154 0 6 (byt_at bX10_ratio_0 (j := 13) rfl) (byt_at bX10_ratio_0 (j := 14) rfl) (byt_at bX10_ratio_0 (j := 15) rfl) (by decide)
theorem bX10_ratio_1 : ((bys cX10_ratio).drop 16).take 16 = [16, 254, 172, 3, 62, 29, 42, 180, 0, 17, 6, 46, 162, 0, 78, 3] := by decide +kernel
theorem dX10_ratio_16 : decode cX10_ratio 16 = .ok (.bipush (-2), 2) := do_16 254 (byt_at bX10_ratio_1 (j := 0) rfl) (byt_at bX10_ratio_1 (j := 1) rfl) (by decide)
theorem dX10_ratio_18 : decode cX10_ratio 18 = .ok (.ireturn, 1) := do_172 (byt_at bX10_ratio_1 (j := 2) rfl)
theorem dX10_ratio_19 : decode cX10_ratio 19 = .ok (.iconst 0, 1) := do_3 (byt_at bX10_ratio_1 (j := 3) rfl)
theorem dX10_ratio_20 : decode cX10_ratio 20 = .ok (.istore_n 3, 1) := do_62 (byt_at bX10_ratio_1 (j := 4) rfl)
theorem dX10_ratio_21 : decode cX10_ratio 21 = .ok (.iload_n 3, 1) := do_29 (byt_at bX10_ratio_1 (j := 5) rfl)
theorem dX10_ratio_22 : decode cX10_ratio 22 = .ok (.aload_n 0, 1) := do_42 (byt_at bX10_ratio_1 (j := 6) rfl)
theorem dX10_ratio_23 : decode cX10_ratio 23 = .ok (.getfield 17, 3) := do_180 0 17 (byt_at bX10_ratio_1 (j := 7) rfl) (byt_at bX10_ratio_1 (j := 8) rfl) (byt_at bX10_ratio_1 (j := 9) rfl)
theorem dX10_ratio_26 : decode cX10_ratio 26 = .ok (.iconst 3, 1) := do_6 (byt_at bX10_ratio_1 (j := 10) rfl)
theorem dX10_ratio_27 : decode cX10_ratio 27 = .ok (.iaload, 1) := do_46 (byt_at bX10_ratio_1 (j := 11) rfl)
theorem dX10_ratio_28 : decode cX10_ratio 28 = .ok (.if_icmp .ge 78, 3) := do_162 0 78 (byt_at bX10_ratio_1 (j := 12) rfl) (byt_at bX10_ratio_1 (j := 13) rfl) (byt_at bX10_ratio_1 (j := 14) rfl) (by decide)
theorem dX10_ratio_31 : decode cX10_ratio 31 = .ok (.iconst 0, 1) := do_3 (byt_at bX10_ratio_1 (j := 15) rfl)
theorem bX10_ratio_2 : ((bys cX10_ratio).drop 32).take 16 = [54, 4, 21, 4, 42, 180, 0, 17, 6, 46, 162, 0, 58, 42, 180, 0] := by decide +kernel
theorem dX10_ratio_32 : decode cX10_ratio 32 = .ok (.istore 4, 2) := do_54 4 (byt_at bX10_ratio_2 (j := 0) rfl) (byt_at bX10_ratio_2 (j := 1) rfl)
theorem dX10_ratio_34 : decode cX10_ratio 34 = .ok (.iload 4, 2) := do_21 4 (byt_at bX10_ratio_2 (j := 2) rfl) (byt_at bX10_ratio_2 (j := 3) rfl)
theorem dX10_ratio_36 : decode cX10_ratio 36 = .ok (.aload_n 0, 1) := do_42 (byt_at bX10_ratio_2 (j := 4) rfl)
theorem dX10_ratio_37 : decode cX10_ratio 37 = .ok (.getfield 17, 3) := do_180 0 17 (byt_at bX10_ratio_2 (j := 5) rfl) (byt_at bX10_ratio_2 (j := 6) rfl) (byt_at bX10_ratio_2 (j := 7) rfl)
theorem dX10_ratio_40 : decode cX10_ratio 40 = .ok (.iconst 3, 1) := do_6 (byt_at bX10_ratio_2 (j := 8) rfl)
theorem dX10_ratio_41 : decode cX10_ratio 41 = .ok (.iaload, 1) := do_46 (byt_at bX10_ratio_2 (j := 9) rfl)
theorem dX10_ratio_42 : decode cX10_ratio 42 = .ok (.if_icmp .ge 58, 3) := do_162 0 58 (byt_at bX10_ratio_2 (j := 10) rfl) (byt_at bX10_ratio_2 (j := 11) rfl) (byt_at bX10_ratio_2 (j := 12) rfl) (by decide)
theorem dX10_ratio_45 : decode cX10_ratio 45 = .ok (.aload_n 0, 1) := do_42 (byt_at bX10_ratio_2 (j := 13) rfl)
theorem bX10_ratio_3 : ((bys cX10_ratio).drop 48).take 16 = [28, 21, 4, 46, 42, 180, 0, 28, 29, 46, 164, 0, 36, 42, 27, 21] := by decide +kernel
theorem dX10_ratio_46 : decode cX10_ratio 46 = .ok (.getfield 28, 3) := do_180 0 28 (byt_at bX10_ratio_2 (j := 14) rfl) (byt_at bX10_ratio_2 (j := 15) rfl) (byt_at bX10_ratio_3 (j := 0) rfl)
theorem dX10_ratio_49 : decode cX10_ratio 49 = .ok (.iload 4, 2) := do_21 4 (byt_at bX10_ratio_3 (j := 1) rfl) (byt_at bX10_ratio_3 (j := 2) rfl)
theorem dX10_ratio_51 : decode cX10_ratio 51 = .ok (.iaload, 1) := do_46 (byt_at bX10_ratio_3 (j := 3) rfl)
theorem dX10_ratio_52 : decode cX10_ratio 52 = .ok (.aload_n 0, 1) := do_42 (byt_at bX10_ratio_3 (j := 4) rfl)
theorem dX10_ratio_53 : decode cX10_ratio 53 = .ok (.getfield 28, 3) := do_180 0 28 (byt_at bX10_ratio_3 (j := 5) rfl) (byt_at bX10_ratio_3 (j := 6) rfl) (byt_at bX10_ratio_3 (j := 7) rfl)
theorem dX10_ratio_56 : decode cX10_ratio 56 = .ok (.iload_n 3, 1) := do_29 (byt_at bX10_ratio_3 (j := 8) rfl)
theorem dX10_ratio_57 : decode cX10_ratio 57 = .ok (.iaload, 1) := do_46 (byt_at bX10_ratio_3 (j := 9) rfl)
theorem dX10_ratio_58 : decode cX10_ratio 58 = .ok (.if_icmp .le 36, 3) := do_164 0 36 (byt_at bX10_ratio_3 (j := 10) rfl) (byt_at bX10_ratio_3 (j := 11) rfl) (byt_at bX10_ratio_3 (j := 12) rfl) (by decide)
theorem dX10_ratio_61 : decode cX10_ratio 61 = .ok (.aload_n 0, 1) := do_42 (byt_at bX10_ratio_3 (j := 13) rfl)
theorem dX10_ratio_62 : decode cX10_ratio 62 = .ok (.iload_n 1, 1) := do_27 (byt_at bX10_ratio_3 (j := 14) rfl)
theorem bX10_ratio_4 : ((bys cX10_ratio).drop 64).take 16 = [4, 182, 1, 3, 42, 28, 29, 182, 1, 3, 104, 42, 27, 29, 182, 1] := by decide +kernel
theorem dX10_ratio_63 : decode cX10_ratio 63 = .ok (.iload 4, 2) := do_21 4 (byt_at bX10_ratio_3 (j := 15) rfl) (byt_at bX10_ratio_4 (j := 0) rfl)
theorem dX10_ratio_65 : decode cX10_ratio 65 = .ok (.invokevirtual 259, 3) := do_182 1 3 (byt_at bX10_ratio_4 (j := 1) rfl) (byt_at bX10_ratio_4 (j := 2) rfl) (byt_at bX10_ratio_4 (j := 3) rfl)
theorem dX10_ratio_68 : decode cX10_ratio 68 = .ok (.aload_n 0, 1) := do_42 (byt_at bX10_ratio_4 (j := 4) rfl)
theorem dX10_ratio_69 : decode cX10_ratio 69 = .ok (.iload_n 2, 1) := do_28 (byt_at bX10_ratio_4 (j := 5) rfl)
theorem dX10_ratio_70 : decode cX10_ratio 70 = .ok (.iload_n 3, 1) := do_29 (byt_at bX10_ratio_4 (j := 6) rfl)
theorem dX10_ratio_71 : decode cX10_ratio 71 = .ok (.invokevirtual 259, 3) := do_182 1 3 (byt_at bX10_ratio_4 (j := 7) rfl) (byt_at bX10_ratio_4 (j := 8) rfl) (byt_at bX10_ratio_4 (j := 9) rfl)
theorem dX10_ratio_74 : decode cX10_ratio 74 = .ok (.imul, 1) := do_104 (byt_at bX10_ratio_4 (j := 10) rfl)
theorem dX10_ratio_75 : decode cX10_ratio 75 = .ok (.aload_n 0, 1) := do_42 (byt_at bX10_ratio_4 (j := 11) rfl)
theorem dX10_ratio_76 : decode cX10_ratio 76 = .ok (.iload_n 1, 1) := do_27 (byt_at bX10_ratio_4 (j := 12) rfl)
theorem dX10_ratio_77 : decode cX10_ratio 77 = .ok (.iload_n 3, 1) := do_29 (byt_at bX10_ratio_4 (j := 13) rfl)
theorem bX10_ratio_5 : ((bys cX10_ratio).drop 80).take 16 = [3, 42, 28, 21, 4, 182, 1, 3, 104, 162, 0, 5, 3, 172, 132, 4] := by decide +kernel
theorem dX10_ratio_78 : decode cX10_ratio 78 = .ok (.invokevirtual 259, 3) := do_182 1 3 (byt_at bX10_ratio_4 (j := 14) rfl) (byt_at bX10_ratio_4 (j := 15) rfl) (byt_at bX10_ratio_5 (j := 0) rfl)
theorem dX10_ratio_81 : decode cX10_ratio 81 = .ok (.aload_n 0, 1) := do_42 (byt_at bX10_ratio_5 (j := 1) rfl)
theorem dX10_ratio_82 : decode cX10_ratio 82 = .ok (.iload_n 2, 1) := do_28 (byt_at bX10_ratio_5 (j := 2) rfl)
theorem dX10_ratio_83 : decode cX10_ratio 83 = .ok (.iload 4, 2) := do_21 4 (byt_at bX10_ratio_5 (j := 3) rfl) (byt_at bX10_ratio_5 (j := 4) rfl)
theorem dX10_ratio_85 : decode cX10_ratio 85 = .ok (.invokevirtual 259, 3) := do_182 1 3 (byt_at bX10_ratio_5 (j := 5) rfl) (byt_at bX10_ratio_5 (j := 6) rfl) (byt_at bX10_ratio_5 (j := 7) rfl)
theorem dX10_ratio_88 : decode cX10_ratio 88 = .ok (.imul, 1) := do_104 (byt_at bX10_ratio_5 (j := 8) rfl)
theorem dX10_ratio_89 : decode cX10_ratio 89 = .ok (.if_icmp .ge 5, 3) := do_162 0 5 (byt_at bX10_ratio_5 (j := 9) rfl) (byt_at bX10_ratio_5 (j := 10) rfl) (byt_at bX10_ratio_5 (j := 11) rfl) (by decide)
theorem dX10_ratio_92 : decode cX10_ratio 92 = .ok (.iconst 0, 1) := do_3 (byt_at bX10_ratio_5 (j := 12) rfl)
theorem dX10_ratio_93 : decode cX10_ratio 93 = .ok (.ireturn, 1) := do_172 (byt_at bX10_ratio_5 (j := 13) rfl)
theorem bX10_ratio_6 : ((bys cX10_ratio).drop 96).take 16 = [1, 167, 255, 193, 132, 3, 1, 167, 255, 174, 4, 172] := by decide +kernel
theorem dX10_ratio_94 : decode cX10_ratio 94 = .ok (.iinc 4 1, 3) := do_132 4 1 (byt_at bX10_ratio_5 (j := 14) rfl) (byt_at bX10_ratio_5 (j := 15) rfl) (byt_at bX10_ratio_6 (j := 0) rfl) (by decide)
theorem dX10_ratio_97 : decode cX10_ratio 97 = .ok (.goto (-63), 3) := do_167 255 193 (byt_at bX10_ratio_6 (j := 1) rfl) (byt_at bX10_ratio_6 (j := 2) rfl) (byt_at bX10_ratio_6 (j := 3) rfl) (by decide)
theorem dX10_ratio_100 : decode cX10_ratio 100 = .ok (.iinc 3 1, 3) := do_132 3 1 (byt_at bX10_ratio_6 (j := 4) rfl) (byt_at bX10_ratio_6 (j := 5) rfl) (byt_at bX10_ratio_6 (j := 6) rfl) (by decide)
theorem dX10_ratio_103 : decode cX10_ratio 103 = .ok (.goto (-82), 3) := do_167 255 174 (byt_at bX10_ratio_6 (j := 7) rfl) (byt_at bX10_ratio_6 (j := 8) rfl) (byt_at bX10_ratio_6 (j := 9) rfl) (by decide)
theorem dX10_ratio_106 : decode cX10_ratio 106 = .ok (.iconst 1, 1) := do_4 (byt_at bX10_ratio_6 (j := 10) rfl)
theorem dX10_ratio_107 : decode cX10_ratio 107 = .ok (.ireturn, 1) := do_172 (byt_at bX10_ratio_6 (j := 11) rfl)
theorem pm_X10_rises_r1 : ∀ w ∈ wsX10_rises_r1, w ∈ wsX10_rises := fun _ h => List.mem_cons_of_mem _ (List.mem_append_left _ (List.mem_append_left _ h))
theorem pm_X10_rises_r2 : ∀ w ∈ wsX10_rises_r2, w ∈ wsX10_rises := fun _ h => List.mem_cons_of_mem _ (List.mem_append_left _ (List.mem_append_right _ (List.mem_append_left _ h)))
theorem pm_X10_rises_r3 : ∀ w ∈ wsX10_rises_r3, w ∈ wsX10_rises := fun _ h => List.mem_cons_of_mem _ (List.mem_append_left _ (List.mem_append_right _ (List.mem_append_right _ (List.mem_append_left _ h))))
theorem pm_X10_rises_r4 : ∀ w ∈ wsX10_rises_r4, w ∈ wsX10_rises := fun _ h => List.mem_cons_of_mem _ (List.mem_append_left _ (List.mem_append_right _ (List.mem_append_right _ (List.mem_append_right _ (h)))))
theorem pw_X10_rises_X10 : ∀ w ∈ wsX100, w ∈ wsX10_rises := fun _ h => List.mem_cons_of_mem _ (List.mem_append_right _ h)
set_option maxRecDepth 20000 in
theorem ggX10_rises_X10_isWork : GoodIn wsX10_rises wsX10_isWork := goodIn_sub (List.forall_mem_cons.mpr ⟨pm_X10_rises_r1 _ (List.mem_of_getElem? (i := 8) rfl), List.forall_mem_append.mpr ⟨List.forall_mem_cons.mpr ⟨pm_X10_rises_r1 _ (List.mem_of_getElem? (i := 0) rfl), List.forall_mem_cons.mpr ⟨pm_X10_rises_r1 _ (List.mem_of_getElem? (i := 9) rfl), List.forall_mem_cons.mpr ⟨pm_X10_rises_r1 _ (List.mem_of_getElem? (i := 10) rfl), List.forall_mem_cons.mpr ⟨pm_X10_rises_r1 _ (List.mem_of_getElem? (i := 7) rfl), List.forall_mem_cons.mpr ⟨pm_X10_rises_r1 _ (List.mem_of_getElem? (i := 11) rfl), fun _ h => absurd h List.not_mem_nil⟩⟩⟩⟩⟩, pw_X10_rises_X10⟩⟩) (by decide +kernel)
set_option maxRecDepth 20000 in
theorem gX10_rises_X10_isWork : GoodIn wsX10_rises (wsV RX10 253 RX10 yX10_isWork wsX10_isWork) := goodIn_app (goodIn_sub (List.forall_mem_cons.mpr ⟨pm_X10_rises_r1 _ (List.mem_of_getElem? (i := 4) rfl), List.forall_mem_cons.mpr ⟨pm_X10_rises_r1 _ (List.mem_of_getElem? (i := 5) rfl), List.forall_mem_cons.mpr ⟨pm_X10_rises_r1 _ (List.mem_of_getElem? (i := 6) rfl), List.forall_mem_cons.mpr ⟨pm_X10_rises_r1 _ (List.mem_of_getElem? (i := 7) rfl), fun _ h => absurd h List.not_mem_nil⟩⟩⟩⟩) (by decide +kernel)) ggX10_rises_X10_isWork
set_option maxRecDepth 20000 in
theorem ggX10_rises_X10_eachAlone : GoodIn wsX10_rises wsX10_eachAlone := goodIn_sub (List.forall_mem_cons.mpr ⟨pm_X10_rises_r1 _ (List.mem_of_getElem? (i := 15) rfl), List.forall_mem_append.mpr ⟨List.forall_mem_cons.mpr ⟨pm_X10_rises_r1 _ (List.mem_of_getElem? (i := 0) rfl), List.forall_mem_cons.mpr ⟨pm_X10_rises_r1 _ (List.mem_of_getElem? (i := 16) rfl), List.forall_mem_cons.mpr ⟨pm_X10_rises_r1 _ (List.mem_of_getElem? (i := 17) rfl), fun _ h => absurd h List.not_mem_nil⟩⟩⟩, pw_X10_rises_X10⟩⟩) (by decide +kernel)
set_option maxRecDepth 20000 in
theorem gX10_rises_X10_eachAlone : GoodIn wsX10_rises (wsV RX10 349 RX10 yX10_eachAlone wsX10_eachAlone) := goodIn_app (goodIn_sub (List.forall_mem_cons.mpr ⟨pm_X10_rises_r1 _ (List.mem_of_getElem? (i := 12) rfl), List.forall_mem_cons.mpr ⟨pm_X10_rises_r1 _ (List.mem_of_getElem? (i := 13) rfl), List.forall_mem_cons.mpr ⟨pm_X10_rises_r1 _ (List.mem_of_getElem? (i := 14) rfl), List.forall_mem_cons.mpr ⟨pm_X10_rises_r1 _ (List.mem_of_getElem? (i := 7) rfl), fun _ h => absurd h List.not_mem_nil⟩⟩⟩⟩) (by decide +kernel)) ggX10_rises_X10_eachAlone
set_option maxRecDepth 20000 in
theorem pq_X10_rises_X10_isHad_r1 : ∀ w ∈ wsX10_isHad_r1, w ∈ wsX10_rises := List.forall_mem_cons.mpr ⟨pm_X10_rises_r1 _ (List.mem_of_getElem? (i := 22) rfl), List.forall_mem_cons.mpr ⟨pm_X10_rises_r1 _ (List.mem_of_getElem? (i := 23) rfl), List.forall_mem_cons.mpr ⟨pm_X10_rises_r2 _ (List.mem_of_getElem? (i := 0) rfl), List.forall_mem_cons.mpr ⟨pm_X10_rises_r2 _ (List.mem_of_getElem? (i := 1) rfl), List.forall_mem_cons.mpr ⟨pm_X10_rises_r1 _ (List.mem_of_getElem? (i := 7) rfl), List.forall_mem_cons.mpr ⟨pm_X10_rises_r2 _ (List.mem_of_getElem? (i := 2) rfl), List.forall_mem_cons.mpr ⟨pm_X10_rises_r2 _ (List.mem_of_getElem? (i := 3) rfl), List.forall_mem_cons.mpr ⟨pm_X10_rises_r1 _ (List.mem_of_getElem? (i := 0) rfl), List.forall_mem_cons.mpr ⟨pm_X10_rises_r2 _ (List.mem_of_getElem? (i := 4) rfl), List.forall_mem_cons.mpr ⟨pm_X10_rises_r2 _ (List.mem_of_getElem? (i := 5) rfl), List.forall_mem_cons.mpr ⟨pm_X10_rises_r1 _ (List.mem_of_getElem? (i := 17) rfl), List.forall_mem_cons.mpr ⟨pm_X10_rises_r1 _ (List.mem_of_getElem? (i := 16) rfl), List.forall_mem_cons.mpr ⟨pm_X10_rises_r2 _ (List.mem_of_getElem? (i := 6) rfl), List.forall_mem_cons.mpr ⟨pm_X10_rises_r2 _ (List.mem_of_getElem? (i := 7) rfl), List.forall_mem_cons.mpr ⟨pm_X10_rises_r2 _ (List.mem_of_getElem? (i := 8) rfl), List.forall_mem_cons.mpr ⟨pm_X10_rises_r2 _ (List.mem_of_getElem? (i := 9) rfl), List.forall_mem_cons.mpr ⟨pm_X10_rises_r2 _ (List.mem_of_getElem? (i := 10) rfl), List.forall_mem_cons.mpr ⟨pm_X10_rises_r2 _ (List.mem_of_getElem? (i := 11) rfl), List.forall_mem_cons.mpr ⟨pm_X10_rises_r2 _ (List.mem_of_getElem? (i := 12) rfl), List.forall_mem_cons.mpr ⟨pm_X10_rises_r2 _ (List.mem_of_getElem? (i := 13) rfl), List.forall_mem_cons.mpr ⟨pm_X10_rises_r2 _ (List.mem_of_getElem? (i := 14) rfl), List.forall_mem_cons.mpr ⟨pm_X10_rises_r2 _ (List.mem_of_getElem? (i := 15) rfl), List.forall_mem_cons.mpr ⟨pm_X10_rises_r2 _ (List.mem_of_getElem? (i := 16) rfl), List.forall_mem_cons.mpr ⟨pm_X10_rises_r2 _ (List.mem_of_getElem? (i := 17) rfl), fun _ h => absurd h List.not_mem_nil⟩⟩⟩⟩⟩⟩⟩⟩⟩⟩⟩⟩⟩⟩⟩⟩⟩⟩⟩⟩⟩⟩⟩⟩
set_option maxRecDepth 20000 in
theorem pq_X10_rises_X10_isHad_r2 : ∀ w ∈ wsX10_isHad_r2, w ∈ wsX10_rises := List.forall_mem_cons.mpr ⟨pm_X10_rises_r2 _ (List.mem_of_getElem? (i := 18) rfl), List.forall_mem_cons.mpr ⟨pm_X10_rises_r2 _ (List.mem_of_getElem? (i := 19) rfl), List.forall_mem_cons.mpr ⟨pm_X10_rises_r2 _ (List.mem_of_getElem? (i := 20) rfl), List.forall_mem_cons.mpr ⟨pm_X10_rises_r2 _ (List.mem_of_getElem? (i := 21) rfl), List.forall_mem_cons.mpr ⟨pm_X10_rises_r2 _ (List.mem_of_getElem? (i := 22) rfl), List.forall_mem_cons.mpr ⟨pm_X10_rises_r2 _ (List.mem_of_getElem? (i := 23) rfl), List.forall_mem_cons.mpr ⟨pm_X10_rises_r3 _ (List.mem_of_getElem? (i := 0) rfl), List.forall_mem_cons.mpr ⟨pm_X10_rises_r3 _ (List.mem_of_getElem? (i := 1) rfl), List.forall_mem_cons.mpr ⟨pm_X10_rises_r3 _ (List.mem_of_getElem? (i := 2) rfl), List.forall_mem_cons.mpr ⟨pm_X10_rises_r3 _ (List.mem_of_getElem? (i := 3) rfl), List.forall_mem_cons.mpr ⟨pm_X10_rises_r3 _ (List.mem_of_getElem? (i := 4) rfl), List.forall_mem_cons.mpr ⟨pm_X10_rises_r3 _ (List.mem_of_getElem? (i := 5) rfl), List.forall_mem_cons.mpr ⟨pm_X10_rises_r3 _ (List.mem_of_getElem? (i := 6) rfl), List.forall_mem_cons.mpr ⟨pm_X10_rises_r3 _ (List.mem_of_getElem? (i := 7) rfl), List.forall_mem_cons.mpr ⟨pm_X10_rises_r3 _ (List.mem_of_getElem? (i := 8) rfl), List.forall_mem_cons.mpr ⟨pm_X10_rises_r3 _ (List.mem_of_getElem? (i := 9) rfl), List.forall_mem_cons.mpr ⟨pm_X10_rises_r3 _ (List.mem_of_getElem? (i := 10) rfl), List.forall_mem_cons.mpr ⟨pm_X10_rises_r3 _ (List.mem_of_getElem? (i := 11) rfl), List.forall_mem_cons.mpr ⟨pm_X10_rises_r3 _ (List.mem_of_getElem? (i := 12) rfl), List.forall_mem_cons.mpr ⟨pm_X10_rises_r3 _ (List.mem_of_getElem? (i := 13) rfl), List.forall_mem_cons.mpr ⟨pm_X10_rises_r3 _ (List.mem_of_getElem? (i := 14) rfl), List.forall_mem_cons.mpr ⟨pm_X10_rises_r1 _ (List.mem_of_getElem? (i := 2) rfl), List.forall_mem_cons.mpr ⟨pm_X10_rises_r1 _ (List.mem_of_getElem? (i := 3) rfl), List.forall_mem_cons.mpr ⟨pm_X10_rises_r3 _ (List.mem_of_getElem? (i := 15) rfl), fun _ h => absurd h List.not_mem_nil⟩⟩⟩⟩⟩⟩⟩⟩⟩⟩⟩⟩⟩⟩⟩⟩⟩⟩⟩⟩⟩⟩⟩⟩
set_option maxRecDepth 20000 in
theorem pq_X10_rises_X10_isHad_r3 : ∀ w ∈ wsX10_isHad_r3, w ∈ wsX10_rises := List.forall_mem_cons.mpr ⟨pm_X10_rises_r3 _ (List.mem_of_getElem? (i := 16) rfl), List.forall_mem_cons.mpr ⟨pm_X10_rises_r3 _ (List.mem_of_getElem? (i := 17) rfl), List.forall_mem_cons.mpr ⟨pm_X10_rises_r3 _ (List.mem_of_getElem? (i := 18) rfl), List.forall_mem_cons.mpr ⟨pm_X10_rises_r3 _ (List.mem_of_getElem? (i := 19) rfl), List.forall_mem_cons.mpr ⟨pm_X10_rises_r3 _ (List.mem_of_getElem? (i := 20) rfl), List.forall_mem_cons.mpr ⟨pm_X10_rises_r3 _ (List.mem_of_getElem? (i := 21) rfl), List.forall_mem_cons.mpr ⟨pm_X10_rises_r3 _ (List.mem_of_getElem? (i := 22) rfl), List.forall_mem_cons.mpr ⟨pm_X10_rises_r3 _ (List.mem_of_getElem? (i := 23) rfl), List.forall_mem_cons.mpr ⟨pm_X10_rises_r4 _ (List.mem_of_getElem? (i := 0) rfl), List.forall_mem_cons.mpr ⟨pm_X10_rises_r4 _ (List.mem_of_getElem? (i := 1) rfl), List.forall_mem_cons.mpr ⟨pm_X10_rises_r4 _ (List.mem_of_getElem? (i := 2) rfl), List.forall_mem_cons.mpr ⟨pm_X10_rises_r4 _ (List.mem_of_getElem? (i := 3) rfl), List.forall_mem_cons.mpr ⟨pm_X10_rises_r4 _ (List.mem_of_getElem? (i := 4) rfl), List.forall_mem_cons.mpr ⟨pm_X10_rises_r4 _ (List.mem_of_getElem? (i := 5) rfl), List.forall_mem_cons.mpr ⟨pm_X10_rises_r4 _ (List.mem_of_getElem? (i := 6) rfl), List.forall_mem_cons.mpr ⟨pm_X10_rises_r4 _ (List.mem_of_getElem? (i := 7) rfl), List.forall_mem_cons.mpr ⟨pm_X10_rises_r4 _ (List.mem_of_getElem? (i := 8) rfl), List.forall_mem_cons.mpr ⟨pm_X10_rises_r4 _ (List.mem_of_getElem? (i := 9) rfl), List.forall_mem_cons.mpr ⟨pm_X10_rises_r4 _ (List.mem_of_getElem? (i := 10) rfl), List.forall_mem_cons.mpr ⟨pm_X10_rises_r4 _ (List.mem_of_getElem? (i := 11) rfl), List.forall_mem_cons.mpr ⟨pm_X10_rises_r4 _ (List.mem_of_getElem? (i := 12) rfl), List.forall_mem_cons.mpr ⟨pm_X10_rises_r4 _ (List.mem_of_getElem? (i := 13) rfl), fun _ h => absurd h List.not_mem_nil⟩⟩⟩⟩⟩⟩⟩⟩⟩⟩⟩⟩⟩⟩⟩⟩⟩⟩⟩⟩⟩⟩
set_option maxRecDepth 20000 in
theorem ggX10_rises_X10_isHad : GoodIn wsX10_rises wsX10_isHad := goodIn_sub (List.forall_mem_cons.mpr ⟨pm_X10_rises_r1 _ (List.mem_of_getElem? (i := 21) rfl), List.forall_mem_append.mpr ⟨List.forall_mem_append.mpr ⟨pq_X10_rises_X10_isHad_r1, List.forall_mem_append.mpr ⟨pq_X10_rises_X10_isHad_r2, pq_X10_rises_X10_isHad_r3⟩⟩, pw_X10_rises_X10⟩⟩) (by decide +kernel)
set_option maxRecDepth 20000 in
theorem gX10_rises_X10_isHad : GoodIn wsX10_rises (wsV RX10 352 RX10 yX10_isHad wsX10_isHad) := goodIn_app (goodIn_sub (List.forall_mem_cons.mpr ⟨pm_X10_rises_r1 _ (List.mem_of_getElem? (i := 18) rfl), List.forall_mem_cons.mpr ⟨pm_X10_rises_r1 _ (List.mem_of_getElem? (i := 19) rfl), List.forall_mem_cons.mpr ⟨pm_X10_rises_r1 _ (List.mem_of_getElem? (i := 20) rfl), List.forall_mem_cons.mpr ⟨pm_X10_rises_r1 _ (List.mem_of_getElem? (i := 7) rfl), fun _ h => absurd h List.not_mem_nil⟩⟩⟩⟩) (by decide +kernel)) ggX10_rises_X10_isHad
set_option maxRecDepth 20000 in
theorem ggX10_rises_X10_apart : GoodIn wsX10_rises wsX10_apart := goodIn_sub (List.forall_mem_cons.mpr ⟨pm_X10_rises_r4 _ (List.mem_of_getElem? (i := 13) rfl), fun _ h => absurd h List.not_mem_nil⟩) (by decide +kernel)
set_option maxRecDepth 20000 in
theorem gX10_rises_X10_apart : GoodIn wsX10_rises (va_wsS RX10 331 yX10_apart wsX10_apart) := goodIn_app (goodIn_sub (List.forall_mem_cons.mpr ⟨pm_X10_rises_r4 _ (List.mem_of_getElem? (i := 11) rfl), List.forall_mem_cons.mpr ⟨pm_X10_rises_r4 _ (List.mem_of_getElem? (i := 12) rfl), List.forall_mem_cons.mpr ⟨pm_X10_rises_r1 _ (List.mem_of_getElem? (i := 7) rfl), fun _ h => absurd h List.not_mem_nil⟩⟩⟩) (by decide +kernel)) ggX10_rises_X10_apart
theorem bX10_rises_0 : ((bys cX10_rises).drop 0).take 16 = [42, 27, 182, 0, 253, 154, 0, 6, 16, 254, 172, 42, 182, 1, 93, 42] := by decide +kernel
theorem dX10_rises_0 : decode cX10_rises 0 = .ok (.aload_n 0, 1) := do_42 (byt_at bX10_rises_0 (j := 0) rfl)
theorem dX10_rises_1 : decode cX10_rises 1 = .ok (.iload_n 1, 1) := do_27 (byt_at bX10_rises_0 (j := 1) rfl)
theorem dX10_rises_2 : decode cX10_rises 2 = .ok (.invokevirtual 253, 3) := do_182 0 253 (byt_at bX10_rises_0 (j := 2) rfl) (byt_at bX10_rises_0 (j := 3) rfl) (byt_at bX10_rises_0 (j := 4) rfl)
theorem dX10_rises_5 : decode cX10_rises 5 = .ok (.ifCond .ne 6, 3) := do_154 0 6 (byt_at bX10_rises_0 (j := 5) rfl) (byt_at bX10_rises_0 (j := 6) rfl) (byt_at bX10_rises_0 (j := 7) rfl) (by decide)
theorem dX10_rises_8 : decode cX10_rises 8 = .ok (.bipush (-2), 2) := do_16 254 (byt_at bX10_rises_0 (j := 8) rfl) (byt_at bX10_rises_0 (j := 9) rfl) (by decide)
theorem dX10_rises_10 : decode cX10_rises 10 = .ok (.ireturn, 1) := do_172 (byt_at bX10_rises_0 (j := 10) rfl)
theorem dX10_rises_11 : decode cX10_rises 11 = .ok (.aload_n 0, 1) := do_42 (byt_at bX10_rises_0 (j := 11) rfl)
theorem dX10_rises_12 : decode cX10_rises 12 = .ok (.invokevirtual 349, 3) := do_182 1 93 (byt_at bX10_rises_0 (j := 12) rfl) (byt_at bX10_rises_0 (j := 13) rfl) (byt_at bX10_rises_0 (j := 14) rfl)
theorem dX10_rises_15 : decode cX10_rises 15 = .ok (.aload_n 0, 1) := do_42 (byt_at bX10_rises_0 (j := 15) rfl)
theorem bX10_rises_1 : ((bys cX10_rises).drop 16).take 16 = [27, 182, 1, 96, 154, 0, 5, 2, 172, 3, 61, 28, 42, 180, 0, 17] := by decide +kernel
theorem dX10_rises_16 : decode cX10_rises 16 = .ok (.iload_n 1, 1) := do_27 (byt_at bX10_rises_1 (j := 0) rfl)
theorem dX10_rises_17 : decode cX10_rises 17 = .ok (.invokevirtual 352, 3) := do_182 1 96 (byt_at bX10_rises_1 (j := 1) rfl) (byt_at bX10_rises_1 (j := 2) rfl) (byt_at bX10_rises_1 (j := 3) rfl)
theorem dX10_rises_20 : decode cX10_rises 20 = .ok (.ifCond .ne 5, 3) := do_154 0 5 (byt_at bX10_rises_1 (j := 4) rfl) (byt_at bX10_rises_1 (j := 5) rfl) (byt_at bX10_rises_1 (j := 6) rfl) (by decide)
theorem dX10_rises_23 : decode cX10_rises 23 = .ok (.iconst (-1), 1) := do_2 (byt_at bX10_rises_1 (j := 7) rfl)
theorem dX10_rises_24 : decode cX10_rises 24 = .ok (.ireturn, 1) := do_172 (byt_at bX10_rises_1 (j := 8) rfl)
theorem dX10_rises_25 : decode cX10_rises 25 = .ok (.iconst 0, 1) := do_3 (byt_at bX10_rises_1 (j := 9) rfl)
theorem dX10_rises_26 : decode cX10_rises 26 = .ok (.istore_n 2, 1) := do_61 (byt_at bX10_rises_1 (j := 10) rfl)
theorem dX10_rises_27 : decode cX10_rises 27 = .ok (.iload_n 2, 1) := do_28 (byt_at bX10_rises_1 (j := 11) rfl)
theorem dX10_rises_28 : decode cX10_rises 28 = .ok (.aload_n 0, 1) := do_42 (byt_at bX10_rises_1 (j := 12) rfl)
theorem dX10_rises_29 : decode cX10_rises 29 = .ok (.getfield 17, 3) := do_180 0 17 (byt_at bX10_rises_1 (j := 13) rfl) (byt_at bX10_rises_1 (j := 14) rfl) (byt_at bX10_rises_1 (j := 15) rfl)
theorem bX10_rises_2 : ((bys cX10_rises).drop 32).take 16 = [6, 46, 162, 0, 76, 3, 62, 29, 42, 180, 0, 17, 6, 46, 162, 0] := by decide +kernel
theorem dX10_rises_32 : decode cX10_rises 32 = .ok (.iconst 3, 1) := do_6 (byt_at bX10_rises_2 (j := 0) rfl)
theorem dX10_rises_33 : decode cX10_rises 33 = .ok (.iaload, 1) := do_46 (byt_at bX10_rises_2 (j := 1) rfl)
theorem dX10_rises_34 : decode cX10_rises 34 = .ok (.if_icmp .ge 76, 3) := do_162 0 76 (byt_at bX10_rises_2 (j := 2) rfl) (byt_at bX10_rises_2 (j := 3) rfl) (byt_at bX10_rises_2 (j := 4) rfl) (by decide)
theorem dX10_rises_37 : decode cX10_rises 37 = .ok (.iconst 0, 1) := do_3 (byt_at bX10_rises_2 (j := 5) rfl)
theorem dX10_rises_38 : decode cX10_rises 38 = .ok (.istore_n 3, 1) := do_62 (byt_at bX10_rises_2 (j := 6) rfl)
theorem dX10_rises_39 : decode cX10_rises 39 = .ok (.iload_n 3, 1) := do_29 (byt_at bX10_rises_2 (j := 7) rfl)
theorem dX10_rises_40 : decode cX10_rises 40 = .ok (.aload_n 0, 1) := do_42 (byt_at bX10_rises_2 (j := 8) rfl)
theorem dX10_rises_41 : decode cX10_rises 41 = .ok (.getfield 17, 3) := do_180 0 17 (byt_at bX10_rises_2 (j := 9) rfl) (byt_at bX10_rises_2 (j := 10) rfl) (byt_at bX10_rises_2 (j := 11) rfl)
theorem dX10_rises_44 : decode cX10_rises 44 = .ok (.iconst 3, 1) := do_6 (byt_at bX10_rises_2 (j := 12) rfl)
theorem dX10_rises_45 : decode cX10_rises 45 = .ok (.iaload, 1) := do_46 (byt_at bX10_rises_2 (j := 13) rfl)
theorem bX10_rises_3 : ((bys cX10_rises).drop 48).take 16 = [58, 42, 180, 0, 28, 29, 46, 42, 180, 0, 28, 28, 46, 164, 0, 37] := by decide +kernel
theorem dX10_rises_46 : decode cX10_rises 46 = .ok (.if_icmp .ge 58, 3) := do_162 0 58 (byt_at bX10_rises_2 (j := 14) rfl) (byt_at bX10_rises_2 (j := 15) rfl) (byt_at bX10_rises_3 (j := 0) rfl) (by decide)
theorem dX10_rises_49 : decode cX10_rises 49 = .ok (.aload_n 0, 1) := do_42 (byt_at bX10_rises_3 (j := 1) rfl)
theorem dX10_rises_50 : decode cX10_rises 50 = .ok (.getfield 28, 3) := do_180 0 28 (byt_at bX10_rises_3 (j := 2) rfl) (byt_at bX10_rises_3 (j := 3) rfl) (byt_at bX10_rises_3 (j := 4) rfl)
theorem dX10_rises_53 : decode cX10_rises 53 = .ok (.iload_n 3, 1) := do_29 (byt_at bX10_rises_3 (j := 5) rfl)
theorem dX10_rises_54 : decode cX10_rises 54 = .ok (.iaload, 1) := do_46 (byt_at bX10_rises_3 (j := 6) rfl)
theorem dX10_rises_55 : decode cX10_rises 55 = .ok (.aload_n 0, 1) := do_42 (byt_at bX10_rises_3 (j := 7) rfl)
theorem dX10_rises_56 : decode cX10_rises 56 = .ok (.getfield 28, 3) := do_180 0 28 (byt_at bX10_rises_3 (j := 8) rfl) (byt_at bX10_rises_3 (j := 9) rfl) (byt_at bX10_rises_3 (j := 10) rfl)
theorem dX10_rises_59 : decode cX10_rises 59 = .ok (.iload_n 2, 1) := do_28 (byt_at bX10_rises_3 (j := 11) rfl)
theorem dX10_rises_60 : decode cX10_rises 60 = .ok (.iaload, 1) := do_46 (byt_at bX10_rises_3 (j := 12) rfl)
theorem dX10_rises_61 : decode cX10_rises 61 = .ok (.if_icmp .le 37, 3) := do_164 0 37 (byt_at bX10_rises_3 (j := 13) rfl) (byt_at bX10_rises_3 (j := 14) rfl) (byt_at bX10_rises_3 (j := 15) rfl) (by decide)
theorem bX10_rises_4 : ((bys cX10_rises).drop 64).take 16 = [42, 180, 0, 70, 29, 47, 42, 180, 0, 73, 29, 47, 42, 180, 0, 70] := by decide +kernel
theorem dX10_rises_64 : decode cX10_rises 64 = .ok (.aload_n 0, 1) := do_42 (byt_at bX10_rises_4 (j := 0) rfl)
theorem dX10_rises_65 : decode cX10_rises 65 = .ok (.getfield 70, 3) := do_180 0 70 (byt_at bX10_rises_4 (j := 1) rfl) (byt_at bX10_rises_4 (j := 2) rfl) (byt_at bX10_rises_4 (j := 3) rfl)
theorem dX10_rises_68 : decode cX10_rises 68 = .ok (.iload_n 3, 1) := do_29 (byt_at bX10_rises_4 (j := 4) rfl)
theorem dX10_rises_69 : decode cX10_rises 69 = .ok (.laload, 1) := do_47 (byt_at bX10_rises_4 (j := 5) rfl)
theorem dX10_rises_70 : decode cX10_rises 70 = .ok (.aload_n 0, 1) := do_42 (byt_at bX10_rises_4 (j := 6) rfl)
theorem dX10_rises_71 : decode cX10_rises 71 = .ok (.getfield 73, 3) := do_180 0 73 (byt_at bX10_rises_4 (j := 7) rfl) (byt_at bX10_rises_4 (j := 8) rfl) (byt_at bX10_rises_4 (j := 9) rfl)
theorem dX10_rises_74 : decode cX10_rises 74 = .ok (.iload_n 3, 1) := do_29 (byt_at bX10_rises_4 (j := 10) rfl)
theorem dX10_rises_75 : decode cX10_rises 75 = .ok (.laload, 1) := do_47 (byt_at bX10_rises_4 (j := 11) rfl)
theorem dX10_rises_76 : decode cX10_rises 76 = .ok (.aload_n 0, 1) := do_42 (byt_at bX10_rises_4 (j := 12) rfl)
theorem dX10_rises_77 : decode cX10_rises 77 = .ok (.getfield 70, 3) := do_180 0 70 (byt_at bX10_rises_4 (j := 13) rfl) (byt_at bX10_rises_4 (j := 14) rfl) (byt_at bX10_rises_4 (j := 15) rfl)
theorem bX10_rises_5 : ((bys cX10_rises).drop 80).take 16 = [28, 47, 42, 180, 0, 73, 28, 47, 184, 1, 75, 9, 148, 156, 0, 5] := by decide +kernel
theorem dX10_rises_80 : decode cX10_rises 80 = .ok (.iload_n 2, 1) := do_28 (byt_at bX10_rises_5 (j := 0) rfl)
theorem dX10_rises_81 : decode cX10_rises 81 = .ok (.laload, 1) := do_47 (byt_at bX10_rises_5 (j := 1) rfl)
theorem dX10_rises_82 : decode cX10_rises 82 = .ok (.aload_n 0, 1) := do_42 (byt_at bX10_rises_5 (j := 2) rfl)
theorem dX10_rises_83 : decode cX10_rises 83 = .ok (.getfield 73, 3) := do_180 0 73 (byt_at bX10_rises_5 (j := 3) rfl) (byt_at bX10_rises_5 (j := 4) rfl) (byt_at bX10_rises_5 (j := 5) rfl)
theorem dX10_rises_86 : decode cX10_rises 86 = .ok (.iload_n 2, 1) := do_28 (byt_at bX10_rises_5 (j := 6) rfl)
theorem dX10_rises_87 : decode cX10_rises 87 = .ok (.laload, 1) := do_47 (byt_at bX10_rises_5 (j := 7) rfl)
theorem dX10_rises_88 : decode cX10_rises 88 = .ok (.invokestatic 331, 3) := do_184 1 75 (byt_at bX10_rises_5 (j := 8) rfl) (byt_at bX10_rises_5 (j := 9) rfl) (byt_at bX10_rises_5 (j := 10) rfl)
theorem dX10_rises_91 : decode cX10_rises 91 = .ok (.lconst 0, 1) := do_9 (byt_at bX10_rises_5 (j := 11) rfl)
theorem dX10_rises_92 : decode cX10_rises 92 = .ok (.lcmp, 1) := do_148 (byt_at bX10_rises_5 (j := 12) rfl)
theorem dX10_rises_93 : decode cX10_rises 93 = .ok (.ifCond .ge 5, 3) := do_156 0 5 (byt_at bX10_rises_5 (j := 13) rfl) (byt_at bX10_rises_5 (j := 14) rfl) (byt_at bX10_rises_5 (j := 15) rfl) (by decide)
theorem bX10_rises_6 : ((bys cX10_rises).drop 96).take 16 = [3, 172, 132, 3, 1, 167, 255, 194, 132, 2, 1, 167, 255, 176, 4, 172] := by decide +kernel
theorem dX10_rises_96 : decode cX10_rises 96 = .ok (.iconst 0, 1) := do_3 (byt_at bX10_rises_6 (j := 0) rfl)
theorem dX10_rises_97 : decode cX10_rises 97 = .ok (.ireturn, 1) := do_172 (byt_at bX10_rises_6 (j := 1) rfl)
theorem dX10_rises_98 : decode cX10_rises 98 = .ok (.iinc 3 1, 3) := do_132 3 1 (byt_at bX10_rises_6 (j := 2) rfl) (byt_at bX10_rises_6 (j := 3) rfl) (byt_at bX10_rises_6 (j := 4) rfl) (by decide)
theorem dX10_rises_101 : decode cX10_rises 101 = .ok (.goto (-62), 3) := do_167 255 194 (byt_at bX10_rises_6 (j := 5) rfl) (byt_at bX10_rises_6 (j := 6) rfl) (byt_at bX10_rises_6 (j := 7) rfl) (by decide)
theorem dX10_rises_104 : decode cX10_rises 104 = .ok (.iinc 2 1, 3) := do_132 2 1 (byt_at bX10_rises_6 (j := 8) rfl) (byt_at bX10_rises_6 (j := 9) rfl) (byt_at bX10_rises_6 (j := 10) rfl) (by decide)
theorem dX10_rises_107 : decode cX10_rises 107 = .ok (.goto (-80), 3) := do_167 255 176 (byt_at bX10_rises_6 (j := 11) rfl) (byt_at bX10_rises_6 (j := 12) rfl) (byt_at bX10_rises_6 (j := 13) rfl) (by decide)
theorem dX10_rises_110 : decode cX10_rises 110 = .ok (.iconst 1, 1) := do_4 (byt_at bX10_rises_6 (j := 14) rfl)
theorem dX10_rises_111 : decode cX10_rises 111 = .ok (.ireturn, 1) := do_172 (byt_at bX10_rises_6 (j := 15) rfl)
set_option maxRecDepth 20000 in
theorem ggX10_see_X10_in : GoodIn wsX10_see wsX10_in := goodIn_sub (List.forall_mem_cons.mpr ⟨List.mem_cons_of_mem _ (List.mem_append_left _ (List.mem_of_getElem? (i := 8) rfl)), fun _ h => absurd h List.not_mem_nil⟩) (by decide +kernel)
set_option maxRecDepth 20000 in
theorem gX10_see_X10_in : GoodIn wsX10_see (va_wsS RX10 174 yX10_in wsX10_in) := goodIn_app (goodIn_sub (List.forall_mem_cons.mpr ⟨List.mem_cons_of_mem _ (List.mem_append_left _ (List.mem_of_getElem? (i := 5) rfl)), List.forall_mem_cons.mpr ⟨List.mem_cons_of_mem _ (List.mem_append_left _ (List.mem_of_getElem? (i := 6) rfl)), List.forall_mem_cons.mpr ⟨List.mem_cons_of_mem _ (List.mem_append_left _ (List.mem_of_getElem? (i := 7) rfl)), fun _ h => absurd h List.not_mem_nil⟩⟩⟩) (by decide +kernel)) ggX10_see_X10_in
set_option maxRecDepth 20000 in
theorem ggX10_see_X10_isSign : GoodIn wsX10_see wsX10_isSign := goodIn_sub (List.forall_mem_cons.mpr ⟨List.mem_cons_of_mem _ (List.mem_append_left _ (List.mem_of_getElem? (i := 12) rfl)), List.forall_mem_append.mpr ⟨List.forall_mem_cons.mpr ⟨List.mem_cons_of_mem _ (List.mem_append_left _ (List.mem_of_getElem? (i := 13) rfl)), List.forall_mem_cons.mpr ⟨List.mem_cons_of_mem _ (List.mem_append_left _ (List.mem_of_getElem? (i := 5) rfl)), List.forall_mem_cons.mpr ⟨List.mem_cons_of_mem _ (List.mem_append_left _ (List.mem_of_getElem? (i := 6) rfl)), List.forall_mem_cons.mpr ⟨List.mem_cons_of_mem _ (List.mem_append_left _ (List.mem_of_getElem? (i := 7) rfl)), List.forall_mem_cons.mpr ⟨List.mem_cons_of_mem _ (List.mem_append_left _ (List.mem_of_getElem? (i := 8) rfl)), fun _ h => absurd h List.not_mem_nil⟩⟩⟩⟩⟩, fun _ h => List.mem_cons_of_mem _ (List.mem_append_right _ h)⟩⟩) (by decide +kernel)
set_option maxRecDepth 20000 in
theorem gX10_see_X10_isSign : GoodIn wsX10_see (wsV RX10 256 RX10 yX10_isSign wsX10_isSign) := goodIn_app (goodIn_sub (List.forall_mem_cons.mpr ⟨List.mem_cons_of_mem _ (List.mem_append_left _ (List.mem_of_getElem? (i := 9) rfl)), List.forall_mem_cons.mpr ⟨List.mem_cons_of_mem _ (List.mem_append_left _ (List.mem_of_getElem? (i := 10) rfl)), List.forall_mem_cons.mpr ⟨List.mem_cons_of_mem _ (List.mem_append_left _ (List.mem_of_getElem? (i := 11) rfl)), List.forall_mem_cons.mpr ⟨List.mem_cons_of_mem _ (List.mem_append_left _ (List.mem_of_getElem? (i := 7) rfl)), fun _ h => absurd h List.not_mem_nil⟩⟩⟩⟩) (by decide +kernel)) ggX10_see_X10_isSign
theorem bX10_see_0 : ((bys cX10_see).drop 0).take 16 = [27, 133, 42, 180, 0, 199, 133, 20, 1, 151, 184, 0, 174, 153, 0, 11] := by decide +kernel
theorem dX10_see_0 : decode cX10_see 0 = .ok (.iload_n 1, 1) := do_27 (byt_at bX10_see_0 (j := 0) rfl)
theorem dX10_see_1 : decode cX10_see 1 = .ok (.i2l, 1) := do_133 (byt_at bX10_see_0 (j := 1) rfl)
theorem dX10_see_2 : decode cX10_see 2 = .ok (.aload_n 0, 1) := do_42 (byt_at bX10_see_0 (j := 2) rfl)
theorem dX10_see_3 : decode cX10_see 3 = .ok (.getfield 199, 3) := do_180 0 199 (byt_at bX10_see_0 (j := 3) rfl) (byt_at bX10_see_0 (j := 4) rfl) (byt_at bX10_see_0 (j := 5) rfl)
theorem dX10_see_6 : decode cX10_see 6 = .ok (.i2l, 1) := do_133 (byt_at bX10_see_0 (j := 6) rfl)
theorem dX10_see_7 : decode cX10_see 7 = .ok (.ldc2_w 407, 3) := do_20 1 151 (byt_at bX10_see_0 (j := 7) rfl) (byt_at bX10_see_0 (j := 8) rfl) (byt_at bX10_see_0 (j := 9) rfl)
theorem dX10_see_10 : decode cX10_see 10 = .ok (.invokestatic 174, 3) := do_184 0 174 (byt_at bX10_see_0 (j := 10) rfl) (byt_at bX10_see_0 (j := 11) rfl) (byt_at bX10_see_0 (j := 12) rfl)
theorem dX10_see_13 : decode cX10_see 13 = .ok (.ifCond .eq 11, 3) := do_153 0 11 (byt_at bX10_see_0 (j := 13) rfl) (byt_at bX10_see_0 (j := 14) rfl) (byt_at bX10_see_0 (j := 15) rfl) (by decide)
theorem bX10_see_1 : ((bys cX10_see).drop 16).take 16 = [42, 28, 182, 1, 0, 154, 0, 6, 16, 254, 172, 42, 180, 0, 193, 16] := by decide +kernel
theorem dX10_see_16 : decode cX10_see 16 = .ok (.aload_n 0, 1) := do_42 (byt_at bX10_see_1 (j := 0) rfl)
theorem dX10_see_17 : decode cX10_see 17 = .ok (.iload_n 2, 1) := do_28 (byt_at bX10_see_1 (j := 1) rfl)
theorem dX10_see_18 : decode cX10_see 18 = .ok (.invokevirtual 256, 3) := do_182 1 0 (byt_at bX10_see_1 (j := 2) rfl) (byt_at bX10_see_1 (j := 3) rfl) (byt_at bX10_see_1 (j := 4) rfl)
theorem dX10_see_21 : decode cX10_see 21 = .ok (.ifCond .ne 6, 3) := do_154 0 6 (byt_at bX10_see_1 (j := 5) rfl) (byt_at bX10_see_1 (j := 6) rfl) (byt_at bX10_see_1 (j := 7) rfl) (by decide)
theorem dX10_see_24 : decode cX10_see 24 = .ok (.bipush (-2), 2) := do_16 254 (byt_at bX10_see_1 (j := 8) rfl) (byt_at bX10_see_1 (j := 9) rfl) (by decide)
theorem dX10_see_26 : decode cX10_see 26 = .ok (.ireturn, 1) := do_172 (byt_at bX10_see_1 (j := 10) rfl)
theorem dX10_see_27 : decode cX10_see 27 = .ok (.aload_n 0, 1) := do_42 (byt_at bX10_see_1 (j := 11) rfl)
theorem dX10_see_28 : decode cX10_see 28 = .ok (.getfield 193, 3) := do_180 0 193 (byt_at bX10_see_1 (j := 12) rfl) (byt_at bX10_see_1 (j := 13) rfl) (byt_at bX10_see_1 (j := 14) rfl)
theorem bX10_see_2 : ((bys cX10_see).drop 32).take 16 = [8, 160, 0, 6, 16, 253, 172, 42, 27, 181, 0, 199, 42, 180, 0, 91] := by decide +kernel
theorem dX10_see_31 : decode cX10_see 31 = .ok (.bipush 8, 2) := do_16 8 (byt_at bX10_see_1 (j := 15) rfl) (byt_at bX10_see_2 (j := 0) rfl) (by decide)
theorem dX10_see_33 : decode cX10_see 33 = .ok (.if_icmp .ne 6, 3) := do_160 0 6 (byt_at bX10_see_2 (j := 1) rfl) (byt_at bX10_see_2 (j := 2) rfl) (byt_at bX10_see_2 (j := 3) rfl) (by decide)
theorem dX10_see_36 : decode cX10_see 36 = .ok (.bipush (-3), 2) := do_16 253 (byt_at bX10_see_2 (j := 4) rfl) (byt_at bX10_see_2 (j := 5) rfl) (by decide)
theorem dX10_see_38 : decode cX10_see 38 = .ok (.ireturn, 1) := do_172 (byt_at bX10_see_2 (j := 6) rfl)
theorem dX10_see_39 : decode cX10_see 39 = .ok (.aload_n 0, 1) := do_42 (byt_at bX10_see_2 (j := 7) rfl)
theorem dX10_see_40 : decode cX10_see 40 = .ok (.iload_n 1, 1) := do_27 (byt_at bX10_see_2 (j := 8) rfl)
theorem dX10_see_41 : decode cX10_see 41 = .ok (.putfield 199, 3) := do_181 0 199 (byt_at bX10_see_2 (j := 9) rfl) (byt_at bX10_see_2 (j := 10) rfl) (byt_at bX10_see_2 (j := 11) rfl)
theorem dX10_see_44 : decode cX10_see 44 = .ok (.aload_n 0, 1) := do_42 (byt_at bX10_see_2 (j := 12) rfl)
theorem dX10_see_45 : decode cX10_see 45 = .ok (.getfield 91, 3) := do_180 0 91 (byt_at bX10_see_2 (j := 13) rfl) (byt_at bX10_see_2 (j := 14) rfl) (byt_at bX10_see_2 (j := 15) rfl)
theorem bX10_see_3 : ((bys cX10_see).drop 48).take 16 = [42, 180, 0, 193, 27, 79, 42, 180, 0, 94, 42, 180, 0, 193, 28, 79] := by decide +kernel
theorem dX10_see_48 : decode cX10_see 48 = .ok (.aload_n 0, 1) := do_42 (byt_at bX10_see_3 (j := 0) rfl)
theorem dX10_see_49 : decode cX10_see 49 = .ok (.getfield 193, 3) := do_180 0 193 (byt_at bX10_see_3 (j := 1) rfl) (byt_at bX10_see_3 (j := 2) rfl) (byt_at bX10_see_3 (j := 3) rfl)
theorem dX10_see_52 : decode cX10_see 52 = .ok (.iload_n 1, 1) := do_27 (byt_at bX10_see_3 (j := 4) rfl)
theorem dX10_see_53 : decode cX10_see 53 = .ok (.iastore, 1) := do_79 (byt_at bX10_see_3 (j := 5) rfl)
theorem dX10_see_54 : decode cX10_see 54 = .ok (.aload_n 0, 1) := do_42 (byt_at bX10_see_3 (j := 6) rfl)
theorem dX10_see_55 : decode cX10_see 55 = .ok (.getfield 94, 3) := do_180 0 94 (byt_at bX10_see_3 (j := 7) rfl) (byt_at bX10_see_3 (j := 8) rfl) (byt_at bX10_see_3 (j := 9) rfl)
theorem dX10_see_58 : decode cX10_see 58 = .ok (.aload_n 0, 1) := do_42 (byt_at bX10_see_3 (j := 10) rfl)
theorem dX10_see_59 : decode cX10_see 59 = .ok (.getfield 193, 3) := do_180 0 193 (byt_at bX10_see_3 (j := 11) rfl) (byt_at bX10_see_3 (j := 12) rfl) (byt_at bX10_see_3 (j := 13) rfl)
theorem dX10_see_62 : decode cX10_see 62 = .ok (.iload_n 2, 1) := do_28 (byt_at bX10_see_3 (j := 14) rfl)
theorem dX10_see_63 : decode cX10_see 63 = .ok (.iastore, 1) := do_79 (byt_at bX10_see_3 (j := 15) rfl)
theorem bX10_see_4 : ((bys cX10_see).drop 64).take 16 = [42, 89, 180, 0, 193, 4, 96, 181, 0, 193, 42, 180, 0, 193, 4, 100] := by decide +kernel
theorem dX10_see_64 : decode cX10_see 64 = .ok (.aload_n 0, 1) := do_42 (byt_at bX10_see_4 (j := 0) rfl)
theorem dX10_see_65 : decode cX10_see 65 = .ok (.dup, 1) := do_89 (byt_at bX10_see_4 (j := 1) rfl)
theorem dX10_see_66 : decode cX10_see 66 = .ok (.getfield 193, 3) := do_180 0 193 (byt_at bX10_see_4 (j := 2) rfl) (byt_at bX10_see_4 (j := 3) rfl) (byt_at bX10_see_4 (j := 4) rfl)
theorem dX10_see_69 : decode cX10_see 69 = .ok (.iconst 1, 1) := do_4 (byt_at bX10_see_4 (j := 5) rfl)
theorem dX10_see_70 : decode cX10_see 70 = .ok (.iadd, 1) := do_96 (byt_at bX10_see_4 (j := 6) rfl)
theorem dX10_see_71 : decode cX10_see 71 = .ok (.putfield 193, 3) := do_181 0 193 (byt_at bX10_see_4 (j := 7) rfl) (byt_at bX10_see_4 (j := 8) rfl) (byt_at bX10_see_4 (j := 9) rfl)
theorem dX10_see_74 : decode cX10_see 74 = .ok (.aload_n 0, 1) := do_42 (byt_at bX10_see_4 (j := 10) rfl)
theorem dX10_see_75 : decode cX10_see 75 = .ok (.getfield 193, 3) := do_180 0 193 (byt_at bX10_see_4 (j := 11) rfl) (byt_at bX10_see_4 (j := 12) rfl) (byt_at bX10_see_4 (j := 13) rfl)
theorem dX10_see_78 : decode cX10_see 78 = .ok (.iconst 1, 1) := do_4 (byt_at bX10_see_4 (j := 14) rfl)
theorem dX10_see_79 : decode cX10_see 79 = .ok (.isub, 1) := do_100 (byt_at bX10_see_4 (j := 15) rfl)
theorem bX10_see_5 : ((bys cX10_see).drop 80).take 16 = [172] := by decide +kernel
theorem dX10_see_80 : decode cX10_see 80 = .ok (.ireturn, 1) := do_172 (byt_at bX10_see_5 (j := 0) rfl)
set_option maxRecDepth 20000 in
theorem ggX10_right_X10_in : GoodIn wsX10_right wsX10_in := goodIn_sub (List.forall_mem_cons.mpr ⟨List.mem_cons_of_mem _ (List.mem_append_left _ (List.mem_of_getElem? (i := 10) rfl)), fun _ h => absurd h List.not_mem_nil⟩) (by decide +kernel)
set_option maxRecDepth 20000 in
theorem gX10_right_X10_in : GoodIn wsX10_right (va_wsS RX10 174 yX10_in wsX10_in) := goodIn_app (goodIn_sub (List.forall_mem_cons.mpr ⟨List.mem_cons_of_mem _ (List.mem_append_left _ (List.mem_of_getElem? (i := 7) rfl)), List.forall_mem_cons.mpr ⟨List.mem_cons_of_mem _ (List.mem_append_left _ (List.mem_of_getElem? (i := 8) rfl)), List.forall_mem_cons.mpr ⟨List.mem_cons_of_mem _ (List.mem_append_left _ (List.mem_of_getElem? (i := 9) rfl)), fun _ h => absurd h List.not_mem_nil⟩⟩⟩) (by decide +kernel)) ggX10_right_X10_in
set_option maxRecDepth 20000 in
theorem ggX10_right_X10_isSign : GoodIn wsX10_right wsX10_isSign := goodIn_sub (List.forall_mem_cons.mpr ⟨List.mem_cons_of_mem _ (List.mem_append_left _ (List.mem_of_getElem? (i := 14) rfl)), List.forall_mem_append.mpr ⟨List.forall_mem_cons.mpr ⟨List.mem_cons_of_mem _ (List.mem_append_left _ (List.mem_of_getElem? (i := 15) rfl)), List.forall_mem_cons.mpr ⟨List.mem_cons_of_mem _ (List.mem_append_left _ (List.mem_of_getElem? (i := 7) rfl)), List.forall_mem_cons.mpr ⟨List.mem_cons_of_mem _ (List.mem_append_left _ (List.mem_of_getElem? (i := 8) rfl)), List.forall_mem_cons.mpr ⟨List.mem_cons_of_mem _ (List.mem_append_left _ (List.mem_of_getElem? (i := 9) rfl)), List.forall_mem_cons.mpr ⟨List.mem_cons_of_mem _ (List.mem_append_left _ (List.mem_of_getElem? (i := 10) rfl)), fun _ h => absurd h List.not_mem_nil⟩⟩⟩⟩⟩, fun _ h => List.mem_cons_of_mem _ (List.mem_append_right _ h)⟩⟩) (by decide +kernel)
set_option maxRecDepth 20000 in
theorem gX10_right_X10_isSign : GoodIn wsX10_right (wsV RX10 256 RX10 yX10_isSign wsX10_isSign) := goodIn_app (goodIn_sub (List.forall_mem_cons.mpr ⟨List.mem_cons_of_mem _ (List.mem_append_left _ (List.mem_of_getElem? (i := 11) rfl)), List.forall_mem_cons.mpr ⟨List.mem_cons_of_mem _ (List.mem_append_left _ (List.mem_of_getElem? (i := 12) rfl)), List.forall_mem_cons.mpr ⟨List.mem_cons_of_mem _ (List.mem_append_left _ (List.mem_of_getElem? (i := 13) rfl)), List.forall_mem_cons.mpr ⟨List.mem_cons_of_mem _ (List.mem_append_left _ (List.mem_of_getElem? (i := 9) rfl)), fun _ h => absurd h List.not_mem_nil⟩⟩⟩⟩) (by decide +kernel)) ggX10_right_X10_isSign
theorem bX10_right_0 : ((bys cX10_right).drop 0).take 16 = [27, 133, 42, 180, 0, 199, 133, 20, 1, 151, 184, 0, 174, 153, 0, 27] := by decide +kernel
theorem dX10_right_0 : decode cX10_right 0 = .ok (.iload_n 1, 1) := do_27 (byt_at bX10_right_0 (j := 0) rfl)
theorem dX10_right_1 : decode cX10_right 1 = .ok (.i2l, 1) := do_133 (byt_at bX10_right_0 (j := 1) rfl)
theorem dX10_right_2 : decode cX10_right 2 = .ok (.aload_n 0, 1) := do_42 (byt_at bX10_right_0 (j := 2) rfl)
theorem dX10_right_3 : decode cX10_right 3 = .ok (.getfield 199, 3) := do_180 0 199 (byt_at bX10_right_0 (j := 3) rfl) (byt_at bX10_right_0 (j := 4) rfl) (byt_at bX10_right_0 (j := 5) rfl)
theorem dX10_right_6 : decode cX10_right 6 = .ok (.i2l, 1) := do_133 (byt_at bX10_right_0 (j := 6) rfl)
theorem dX10_right_7 : decode cX10_right 7 = .ok (.ldc2_w 407, 3) := do_20 1 151 (byt_at bX10_right_0 (j := 7) rfl) (byt_at bX10_right_0 (j := 8) rfl) (byt_at bX10_right_0 (j := 9) rfl)
theorem dX10_right_10 : decode cX10_right 10 = .ok (.invokestatic 174, 3) := do_184 0 174 (byt_at bX10_right_0 (j := 10) rfl) (byt_at bX10_right_0 (j := 11) rfl) (byt_at bX10_right_0 (j := 12) rfl)
theorem dX10_right_13 : decode cX10_right 13 = .ok (.ifCond .eq 27, 3) := do_153 0 27 (byt_at bX10_right_0 (j := 13) rfl) (byt_at bX10_right_0 (j := 14) rfl) (byt_at bX10_right_0 (j := 15) rfl) (by decide)
theorem bX10_right_1 : ((bys cX10_right).drop 16).take 16 = [28, 133, 9, 42, 180, 0, 193, 4, 100, 133, 184, 0, 174, 153, 0, 11] := by decide +kernel
theorem dX10_right_16 : decode cX10_right 16 = .ok (.iload_n 2, 1) := do_28 (byt_at bX10_right_1 (j := 0) rfl)
theorem dX10_right_17 : decode cX10_right 17 = .ok (.i2l, 1) := do_133 (byt_at bX10_right_1 (j := 1) rfl)
theorem dX10_right_18 : decode cX10_right 18 = .ok (.lconst 0, 1) := do_9 (byt_at bX10_right_1 (j := 2) rfl)
theorem dX10_right_19 : decode cX10_right 19 = .ok (.aload_n 0, 1) := do_42 (byt_at bX10_right_1 (j := 3) rfl)
theorem dX10_right_20 : decode cX10_right 20 = .ok (.getfield 193, 3) := do_180 0 193 (byt_at bX10_right_1 (j := 4) rfl) (byt_at bX10_right_1 (j := 5) rfl) (byt_at bX10_right_1 (j := 6) rfl)
theorem dX10_right_23 : decode cX10_right 23 = .ok (.iconst 1, 1) := do_4 (byt_at bX10_right_1 (j := 7) rfl)
theorem dX10_right_24 : decode cX10_right 24 = .ok (.isub, 1) := do_100 (byt_at bX10_right_1 (j := 8) rfl)
theorem dX10_right_25 : decode cX10_right 25 = .ok (.i2l, 1) := do_133 (byt_at bX10_right_1 (j := 9) rfl)
theorem dX10_right_26 : decode cX10_right 26 = .ok (.invokestatic 174, 3) := do_184 0 174 (byt_at bX10_right_1 (j := 10) rfl) (byt_at bX10_right_1 (j := 11) rfl) (byt_at bX10_right_1 (j := 12) rfl)
theorem dX10_right_29 : decode cX10_right 29 = .ok (.ifCond .eq 11, 3) := do_153 0 11 (byt_at bX10_right_1 (j := 13) rfl) (byt_at bX10_right_1 (j := 14) rfl) (byt_at bX10_right_1 (j := 15) rfl) (by decide)
theorem bX10_right_2 : ((bys cX10_right).drop 32).take 16 = [42, 29, 182, 1, 0, 154, 0, 6, 16, 254, 172, 42, 180, 0, 196, 16] := by decide +kernel
theorem dX10_right_32 : decode cX10_right 32 = .ok (.aload_n 0, 1) := do_42 (byt_at bX10_right_2 (j := 0) rfl)
theorem dX10_right_33 : decode cX10_right 33 = .ok (.iload_n 3, 1) := do_29 (byt_at bX10_right_2 (j := 1) rfl)
theorem dX10_right_34 : decode cX10_right 34 = .ok (.invokevirtual 256, 3) := do_182 1 0 (byt_at bX10_right_2 (j := 2) rfl) (byt_at bX10_right_2 (j := 3) rfl) (byt_at bX10_right_2 (j := 4) rfl)
theorem dX10_right_37 : decode cX10_right 37 = .ok (.ifCond .ne 6, 3) := do_154 0 6 (byt_at bX10_right_2 (j := 5) rfl) (byt_at bX10_right_2 (j := 6) rfl) (byt_at bX10_right_2 (j := 7) rfl) (by decide)
theorem dX10_right_40 : decode cX10_right 40 = .ok (.bipush (-2), 2) := do_16 254 (byt_at bX10_right_2 (j := 8) rfl) (byt_at bX10_right_2 (j := 9) rfl) (by decide)
theorem dX10_right_42 : decode cX10_right 42 = .ok (.ireturn, 1) := do_172 (byt_at bX10_right_2 (j := 10) rfl)
theorem dX10_right_43 : decode cX10_right 43 = .ok (.aload_n 0, 1) := do_42 (byt_at bX10_right_2 (j := 11) rfl)
theorem dX10_right_44 : decode cX10_right 44 = .ok (.getfield 196, 3) := do_180 0 196 (byt_at bX10_right_2 (j := 12) rfl) (byt_at bX10_right_2 (j := 13) rfl) (byt_at bX10_right_2 (j := 14) rfl)
theorem bX10_right_3 : ((bys cX10_right).drop 48).take 16 = [20, 160, 0, 6, 16, 253, 172, 42, 27, 181, 0, 199, 42, 180, 0, 97] := by decide +kernel
theorem dX10_right_47 : decode cX10_right 47 = .ok (.bipush 20, 2) := do_16 20 (byt_at bX10_right_2 (j := 15) rfl) (byt_at bX10_right_3 (j := 0) rfl) (by decide)
theorem dX10_right_49 : decode cX10_right 49 = .ok (.if_icmp .ne 6, 3) := do_160 0 6 (byt_at bX10_right_3 (j := 1) rfl) (byt_at bX10_right_3 (j := 2) rfl) (byt_at bX10_right_3 (j := 3) rfl) (by decide)
theorem dX10_right_52 : decode cX10_right 52 = .ok (.bipush (-3), 2) := do_16 253 (byt_at bX10_right_3 (j := 4) rfl) (byt_at bX10_right_3 (j := 5) rfl) (by decide)
theorem dX10_right_54 : decode cX10_right 54 = .ok (.ireturn, 1) := do_172 (byt_at bX10_right_3 (j := 6) rfl)
theorem dX10_right_55 : decode cX10_right 55 = .ok (.aload_n 0, 1) := do_42 (byt_at bX10_right_3 (j := 7) rfl)
theorem dX10_right_56 : decode cX10_right 56 = .ok (.iload_n 1, 1) := do_27 (byt_at bX10_right_3 (j := 8) rfl)
theorem dX10_right_57 : decode cX10_right 57 = .ok (.putfield 199, 3) := do_181 0 199 (byt_at bX10_right_3 (j := 9) rfl) (byt_at bX10_right_3 (j := 10) rfl) (byt_at bX10_right_3 (j := 11) rfl)
theorem dX10_right_60 : decode cX10_right 60 = .ok (.aload_n 0, 1) := do_42 (byt_at bX10_right_3 (j := 12) rfl)
theorem dX10_right_61 : decode cX10_right 61 = .ok (.getfield 97, 3) := do_180 0 97 (byt_at bX10_right_3 (j := 13) rfl) (byt_at bX10_right_3 (j := 14) rfl) (byt_at bX10_right_3 (j := 15) rfl)
theorem bX10_right_4 : ((bys cX10_right).drop 64).take 16 = [42, 180, 0, 196, 28, 79, 42, 180, 0, 100, 42, 180, 0, 196, 27, 79] := by decide +kernel
theorem dX10_right_64 : decode cX10_right 64 = .ok (.aload_n 0, 1) := do_42 (byt_at bX10_right_4 (j := 0) rfl)
theorem dX10_right_65 : decode cX10_right 65 = .ok (.getfield 196, 3) := do_180 0 196 (byt_at bX10_right_4 (j := 1) rfl) (byt_at bX10_right_4 (j := 2) rfl) (byt_at bX10_right_4 (j := 3) rfl)
theorem dX10_right_68 : decode cX10_right 68 = .ok (.iload_n 2, 1) := do_28 (byt_at bX10_right_4 (j := 4) rfl)
theorem dX10_right_69 : decode cX10_right 69 = .ok (.iastore, 1) := do_79 (byt_at bX10_right_4 (j := 5) rfl)
theorem dX10_right_70 : decode cX10_right 70 = .ok (.aload_n 0, 1) := do_42 (byt_at bX10_right_4 (j := 6) rfl)
theorem dX10_right_71 : decode cX10_right 71 = .ok (.getfield 100, 3) := do_180 0 100 (byt_at bX10_right_4 (j := 7) rfl) (byt_at bX10_right_4 (j := 8) rfl) (byt_at bX10_right_4 (j := 9) rfl)
theorem dX10_right_74 : decode cX10_right 74 = .ok (.aload_n 0, 1) := do_42 (byt_at bX10_right_4 (j := 10) rfl)
theorem dX10_right_75 : decode cX10_right 75 = .ok (.getfield 196, 3) := do_180 0 196 (byt_at bX10_right_4 (j := 11) rfl) (byt_at bX10_right_4 (j := 12) rfl) (byt_at bX10_right_4 (j := 13) rfl)
theorem dX10_right_78 : decode cX10_right 78 = .ok (.iload_n 1, 1) := do_27 (byt_at bX10_right_4 (j := 14) rfl)
theorem dX10_right_79 : decode cX10_right 79 = .ok (.iastore, 1) := do_79 (byt_at bX10_right_4 (j := 15) rfl)
theorem bX10_right_5 : ((bys cX10_right).drop 80).take 16 = [42, 180, 0, 103, 42, 180, 0, 196, 29, 79, 42, 89, 180, 0, 196, 4] := by decide +kernel
theorem dX10_right_80 : decode cX10_right 80 = .ok (.aload_n 0, 1) := do_42 (byt_at bX10_right_5 (j := 0) rfl)
theorem dX10_right_81 : decode cX10_right 81 = .ok (.getfield 103, 3) := do_180 0 103 (byt_at bX10_right_5 (j := 1) rfl) (byt_at bX10_right_5 (j := 2) rfl) (byt_at bX10_right_5 (j := 3) rfl)
theorem dX10_right_84 : decode cX10_right 84 = .ok (.aload_n 0, 1) := do_42 (byt_at bX10_right_5 (j := 4) rfl)
theorem dX10_right_85 : decode cX10_right 85 = .ok (.getfield 196, 3) := do_180 0 196 (byt_at bX10_right_5 (j := 5) rfl) (byt_at bX10_right_5 (j := 6) rfl) (byt_at bX10_right_5 (j := 7) rfl)
theorem dX10_right_88 : decode cX10_right 88 = .ok (.iload_n 3, 1) := do_29 (byt_at bX10_right_5 (j := 8) rfl)
theorem dX10_right_89 : decode cX10_right 89 = .ok (.iastore, 1) := do_79 (byt_at bX10_right_5 (j := 9) rfl)
theorem dX10_right_90 : decode cX10_right 90 = .ok (.aload_n 0, 1) := do_42 (byt_at bX10_right_5 (j := 10) rfl)
theorem dX10_right_91 : decode cX10_right 91 = .ok (.dup, 1) := do_89 (byt_at bX10_right_5 (j := 11) rfl)
theorem dX10_right_92 : decode cX10_right 92 = .ok (.getfield 196, 3) := do_180 0 196 (byt_at bX10_right_5 (j := 12) rfl) (byt_at bX10_right_5 (j := 13) rfl) (byt_at bX10_right_5 (j := 14) rfl)
theorem dX10_right_95 : decode cX10_right 95 = .ok (.iconst 1, 1) := do_4 (byt_at bX10_right_5 (j := 15) rfl)
theorem bX10_right_6 : ((bys cX10_right).drop 96).take 16 = [96, 181, 0, 196, 3, 54, 4, 3, 54, 5, 21, 5, 42, 180, 0, 196] := by decide +kernel
theorem dX10_right_96 : decode cX10_right 96 = .ok (.iadd, 1) := do_96 (byt_at bX10_right_6 (j := 0) rfl)
theorem dX10_right_97 : decode cX10_right 97 = .ok (.putfield 196, 3) := do_181 0 196 (byt_at bX10_right_6 (j := 1) rfl) (byt_at bX10_right_6 (j := 2) rfl) (byt_at bX10_right_6 (j := 3) rfl)
theorem dX10_right_100 : decode cX10_right 100 = .ok (.iconst 0, 1) := do_3 (byt_at bX10_right_6 (j := 4) rfl)
theorem dX10_right_101 : decode cX10_right 101 = .ok (.istore 4, 2) := do_54 4 (byt_at bX10_right_6 (j := 5) rfl) (byt_at bX10_right_6 (j := 6) rfl)
theorem dX10_right_103 : decode cX10_right 103 = .ok (.iconst 0, 1) := do_3 (byt_at bX10_right_6 (j := 7) rfl)
theorem dX10_right_104 : decode cX10_right 104 = .ok (.istore 5, 2) := do_54 5 (byt_at bX10_right_6 (j := 8) rfl) (byt_at bX10_right_6 (j := 9) rfl)
theorem dX10_right_106 : decode cX10_right 106 = .ok (.iload 5, 2) := do_21 5 (byt_at bX10_right_6 (j := 10) rfl) (byt_at bX10_right_6 (j := 11) rfl)
theorem dX10_right_108 : decode cX10_right 108 = .ok (.aload_n 0, 1) := do_42 (byt_at bX10_right_6 (j := 12) rfl)
theorem dX10_right_109 : decode cX10_right 109 = .ok (.getfield 196, 3) := do_180 0 196 (byt_at bX10_right_6 (j := 13) rfl) (byt_at bX10_right_6 (j := 14) rfl) (byt_at bX10_right_6 (j := 15) rfl)
theorem bX10_right_7 : ((bys cX10_right).drop 112).take 16 = [162, 0, 30, 21, 4, 42, 180, 0, 97, 21, 5, 46, 28, 160, 0, 7] := by decide +kernel
theorem dX10_right_112 : decode cX10_right 112 = .ok (.if_icmp .ge 30, 3) := do_162 0 30 (byt_at bX10_right_7 (j := 0) rfl) (byt_at bX10_right_7 (j := 1) rfl) (byt_at bX10_right_7 (j := 2) rfl) (by decide)
theorem dX10_right_115 : decode cX10_right 115 = .ok (.iload 4, 2) := do_21 4 (byt_at bX10_right_7 (j := 3) rfl) (byt_at bX10_right_7 (j := 4) rfl)
theorem dX10_right_117 : decode cX10_right 117 = .ok (.aload_n 0, 1) := do_42 (byt_at bX10_right_7 (j := 5) rfl)
theorem dX10_right_118 : decode cX10_right 118 = .ok (.getfield 97, 3) := do_180 0 97 (byt_at bX10_right_7 (j := 6) rfl) (byt_at bX10_right_7 (j := 7) rfl) (byt_at bX10_right_7 (j := 8) rfl)
theorem dX10_right_121 : decode cX10_right 121 = .ok (.iload 5, 2) := do_21 5 (byt_at bX10_right_7 (j := 9) rfl) (byt_at bX10_right_7 (j := 10) rfl)
theorem dX10_right_123 : decode cX10_right 123 = .ok (.iaload, 1) := do_46 (byt_at bX10_right_7 (j := 11) rfl)
theorem dX10_right_124 : decode cX10_right 124 = .ok (.iload_n 2, 1) := do_28 (byt_at bX10_right_7 (j := 12) rfl)
theorem dX10_right_125 : decode cX10_right 125 = .ok (.if_icmp .ne 7, 3) := do_160 0 7 (byt_at bX10_right_7 (j := 13) rfl) (byt_at bX10_right_7 (j := 14) rfl) (byt_at bX10_right_7 (j := 15) rfl) (by decide)
theorem bX10_right_8 : ((bys cX10_right).drop 128).take 16 = [4, 167, 0, 4, 3, 96, 54, 4, 132, 5, 1, 167, 255, 223, 21, 4] := by decide +kernel
theorem dX10_right_128 : decode cX10_right 128 = .ok (.iconst 1, 1) := do_4 (byt_at bX10_right_8 (j := 0) rfl)
theorem dX10_right_129 : decode cX10_right 129 = .ok (.goto 4, 3) := do_167 0 4 (byt_at bX10_right_8 (j := 1) rfl) (byt_at bX10_right_8 (j := 2) rfl) (byt_at bX10_right_8 (j := 3) rfl) (by decide)
theorem dX10_right_132 : decode cX10_right 132 = .ok (.iconst 0, 1) := do_3 (byt_at bX10_right_8 (j := 4) rfl)
theorem dX10_right_133 : decode cX10_right 133 = .ok (.iadd, 1) := do_96 (byt_at bX10_right_8 (j := 5) rfl)
theorem dX10_right_134 : decode cX10_right 134 = .ok (.istore 4, 2) := do_54 4 (byt_at bX10_right_8 (j := 6) rfl) (byt_at bX10_right_8 (j := 7) rfl)
theorem dX10_right_136 : decode cX10_right 136 = .ok (.iinc 5 1, 3) := do_132 5 1 (byt_at bX10_right_8 (j := 8) rfl) (byt_at bX10_right_8 (j := 9) rfl) (byt_at bX10_right_8 (j := 10) rfl) (by decide)
theorem dX10_right_139 : decode cX10_right 139 = .ok (.goto (-33), 3) := do_167 255 223 (byt_at bX10_right_8 (j := 11) rfl) (byt_at bX10_right_8 (j := 12) rfl) (byt_at bX10_right_8 (j := 13) rfl) (by decide)
theorem dX10_right_142 : decode cX10_right 142 = .ok (.iload 4, 2) := do_21 4 (byt_at bX10_right_8 (j := 14) rfl) (byt_at bX10_right_8 (j := 15) rfl)
theorem bX10_right_9 : ((bys cX10_right).drop 144).take 16 = [172] := by decide +kernel
theorem dX10_right_144 : decode cX10_right 144 = .ok (.ireturn, 1) := do_172 (byt_at bX10_right_9 (j := 0) rfl)
set_option maxRecDepth 20000 in
theorem ggX10_product_X10_chanceOf : GoodIn wsX10_product wsX10_chanceOf := goodIn_sub (List.forall_mem_cons.mpr ⟨List.mem_cons_of_mem _ (List.mem_append_left _ (List.mem_of_getElem? (i := 11) rfl)), List.forall_mem_append.mpr ⟨List.forall_mem_cons.mpr ⟨List.mem_cons_of_mem _ (List.mem_append_left _ (List.mem_of_getElem? (i := 12) rfl)), fun _ h => absurd h List.not_mem_nil⟩, fun _ h => List.mem_cons_of_mem _ (List.mem_append_right _ h)⟩⟩) (by decide +kernel)
set_option maxRecDepth 20000 in
theorem gX10_product_X10_chanceOf : GoodIn wsX10_product (wsV RX10 259 RX10 yX10_chanceOf wsX10_chanceOf) := goodIn_app (goodIn_sub (List.forall_mem_cons.mpr ⟨List.mem_cons_of_mem _ (List.mem_append_left _ (List.mem_of_getElem? (i := 7) rfl)), List.forall_mem_cons.mpr ⟨List.mem_cons_of_mem _ (List.mem_append_left _ (List.mem_of_getElem? (i := 8) rfl)), List.forall_mem_cons.mpr ⟨List.mem_cons_of_mem _ (List.mem_append_left _ (List.mem_of_getElem? (i := 9) rfl)), List.forall_mem_cons.mpr ⟨List.mem_cons_of_mem _ (List.mem_append_left _ (List.mem_of_getElem? (i := 10) rfl)), fun _ h => absurd h List.not_mem_nil⟩⟩⟩⟩) (by decide +kernel)) ggX10_product_X10_chanceOf
theorem bX10_product_0 : ((bys cX10_product).drop 0).take 16 = [10, 66, 3, 54, 5, 21, 5, 42, 180, 0, 193, 162, 0, 93, 42, 180] := by decide +kernel
theorem dX10_product_0 : decode cX10_product 0 = .ok (.lconst 1, 1) := do_10 (byt_at bX10_product_0 (j := 0) rfl)
theorem dX10_product_1 : decode cX10_product 1 = .ok (.lstore_n 3, 1) := do_66 (byt_at bX10_product_0 (j := 1) rfl)
theorem dX10_product_2 : decode cX10_product 2 = .ok (.iconst 0, 1) := do_3 (byt_at bX10_product_0 (j := 2) rfl)
theorem dX10_product_3 : decode cX10_product 3 = .ok (.istore 5, 2) := do_54 5 (byt_at bX10_product_0 (j := 3) rfl) (byt_at bX10_product_0 (j := 4) rfl)
theorem dX10_product_5 : decode cX10_product 5 = .ok (.iload 5, 2) := do_21 5 (byt_at bX10_product_0 (j := 5) rfl) (byt_at bX10_product_0 (j := 6) rfl)
theorem dX10_product_7 : decode cX10_product 7 = .ok (.aload_n 0, 1) := do_42 (byt_at bX10_product_0 (j := 7) rfl)
theorem dX10_product_8 : decode cX10_product 8 = .ok (.getfield 193, 3) := do_180 0 193 (byt_at bX10_product_0 (j := 8) rfl) (byt_at bX10_product_0 (j := 9) rfl) (byt_at bX10_product_0 (j := 10) rfl)
theorem dX10_product_11 : decode cX10_product 11 = .ok (.if_icmp .ge 93, 3) := do_162 0 93 (byt_at bX10_product_0 (j := 11) rfl) (byt_at bX10_product_0 (j := 12) rfl) (byt_at bX10_product_0 (j := 13) rfl) (by decide)
theorem dX10_product_14 : decode cX10_product 14 = .ok (.aload_n 0, 1) := do_42 (byt_at bX10_product_0 (j := 14) rfl)
theorem bX10_product_1 : ((bys cX10_product).drop 16).take 16 = [0, 91, 21, 5, 46, 28, 164, 0, 6, 167, 0, 73, 42, 180, 0, 94] := by decide +kernel
theorem dX10_product_15 : decode cX10_product 15 = .ok (.getfield 91, 3) := do_180 0 91 (byt_at bX10_product_0 (j := 15) rfl) (byt_at bX10_product_1 (j := 0) rfl) (byt_at bX10_product_1 (j := 1) rfl)
theorem dX10_product_18 : decode cX10_product 18 = .ok (.iload 5, 2) := do_21 5 (byt_at bX10_product_1 (j := 2) rfl) (byt_at bX10_product_1 (j := 3) rfl)
theorem dX10_product_20 : decode cX10_product 20 = .ok (.iaload, 1) := do_46 (byt_at bX10_product_1 (j := 4) rfl)
theorem dX10_product_21 : decode cX10_product 21 = .ok (.iload_n 2, 1) := do_28 (byt_at bX10_product_1 (j := 5) rfl)
theorem dX10_product_22 : decode cX10_product 22 = .ok (.if_icmp .le 6, 3) := do_164 0 6 (byt_at bX10_product_1 (j := 6) rfl) (byt_at bX10_product_1 (j := 7) rfl) (byt_at bX10_product_1 (j := 8) rfl) (by decide)
theorem dX10_product_25 : decode cX10_product 25 = .ok (.goto 73, 3) := do_167 0 73 (byt_at bX10_product_1 (j := 9) rfl) (byt_at bX10_product_1 (j := 10) rfl) (byt_at bX10_product_1 (j := 11) rfl) (by decide)
theorem dX10_product_28 : decode cX10_product 28 = .ok (.aload_n 0, 1) := do_42 (byt_at bX10_product_1 (j := 12) rfl)
theorem dX10_product_29 : decode cX10_product 29 = .ok (.getfield 94, 3) := do_180 0 94 (byt_at bX10_product_1 (j := 13) rfl) (byt_at bX10_product_1 (j := 14) rfl) (byt_at bX10_product_1 (j := 15) rfl)
theorem bX10_product_2 : ((bys cX10_product).drop 32).take 16 = [21, 5, 46, 54, 6, 3, 54, 7, 21, 7, 42, 180, 0, 196, 162, 0] := by decide +kernel
theorem dX10_product_32 : decode cX10_product 32 = .ok (.iload 5, 2) := do_21 5 (byt_at bX10_product_2 (j := 0) rfl) (byt_at bX10_product_2 (j := 1) rfl)
theorem dX10_product_34 : decode cX10_product 34 = .ok (.iaload, 1) := do_46 (byt_at bX10_product_2 (j := 2) rfl)
theorem dX10_product_35 : decode cX10_product 35 = .ok (.istore 6, 2) := do_54 6 (byt_at bX10_product_2 (j := 3) rfl) (byt_at bX10_product_2 (j := 4) rfl)
theorem dX10_product_37 : decode cX10_product 37 = .ok (.iconst 0, 1) := do_3 (byt_at bX10_product_2 (j := 5) rfl)
theorem dX10_product_38 : decode cX10_product 38 = .ok (.istore 7, 2) := do_54 7 (byt_at bX10_product_2 (j := 6) rfl) (byt_at bX10_product_2 (j := 7) rfl)
theorem dX10_product_40 : decode cX10_product 40 = .ok (.iload 7, 2) := do_21 7 (byt_at bX10_product_2 (j := 8) rfl) (byt_at bX10_product_2 (j := 9) rfl)
theorem dX10_product_42 : decode cX10_product 42 = .ok (.aload_n 0, 1) := do_42 (byt_at bX10_product_2 (j := 10) rfl)
theorem dX10_product_43 : decode cX10_product 43 = .ok (.getfield 196, 3) := do_180 0 196 (byt_at bX10_product_2 (j := 11) rfl) (byt_at bX10_product_2 (j := 12) rfl) (byt_at bX10_product_2 (j := 13) rfl)
theorem bX10_product_3 : ((bys cX10_product).drop 48).take 16 = [41, 42, 180, 0, 97, 21, 7, 46, 21, 5, 160, 0, 23, 42, 180, 0] := by decide +kernel
theorem dX10_product_46 : decode cX10_product 46 = .ok (.if_icmp .ge 41, 3) := do_162 0 41 (byt_at bX10_product_2 (j := 14) rfl) (byt_at bX10_product_2 (j := 15) rfl) (byt_at bX10_product_3 (j := 0) rfl) (by decide)
theorem dX10_product_49 : decode cX10_product 49 = .ok (.aload_n 0, 1) := do_42 (byt_at bX10_product_3 (j := 1) rfl)
theorem dX10_product_50 : decode cX10_product 50 = .ok (.getfield 97, 3) := do_180 0 97 (byt_at bX10_product_3 (j := 2) rfl) (byt_at bX10_product_3 (j := 3) rfl) (byt_at bX10_product_3 (j := 4) rfl)
theorem dX10_product_53 : decode cX10_product 53 = .ok (.iload 7, 2) := do_21 7 (byt_at bX10_product_3 (j := 5) rfl) (byt_at bX10_product_3 (j := 6) rfl)
theorem dX10_product_55 : decode cX10_product 55 = .ok (.iaload, 1) := do_46 (byt_at bX10_product_3 (j := 7) rfl)
theorem dX10_product_56 : decode cX10_product 56 = .ok (.iload 5, 2) := do_21 5 (byt_at bX10_product_3 (j := 8) rfl) (byt_at bX10_product_3 (j := 9) rfl)
theorem dX10_product_58 : decode cX10_product 58 = .ok (.if_icmp .ne 23, 3) := do_160 0 23 (byt_at bX10_product_3 (j := 10) rfl) (byt_at bX10_product_3 (j := 11) rfl) (byt_at bX10_product_3 (j := 12) rfl) (by decide)
theorem dX10_product_61 : decode cX10_product 61 = .ok (.aload_n 0, 1) := do_42 (byt_at bX10_product_3 (j := 13) rfl)
theorem bX10_product_4 : ((bys cX10_product).drop 64).take 16 = [100, 21, 7, 46, 28, 163, 0, 12, 42, 180, 0, 103, 21, 7, 46, 54] := by decide +kernel
theorem dX10_product_62 : decode cX10_product 62 = .ok (.getfield 100, 3) := do_180 0 100 (byt_at bX10_product_3 (j := 14) rfl) (byt_at bX10_product_3 (j := 15) rfl) (byt_at bX10_product_4 (j := 0) rfl)
theorem dX10_product_65 : decode cX10_product 65 = .ok (.iload 7, 2) := do_21 7 (byt_at bX10_product_4 (j := 1) rfl) (byt_at bX10_product_4 (j := 2) rfl)
theorem dX10_product_67 : decode cX10_product 67 = .ok (.iaload, 1) := do_46 (byt_at bX10_product_4 (j := 3) rfl)
theorem dX10_product_68 : decode cX10_product 68 = .ok (.iload_n 2, 1) := do_28 (byt_at bX10_product_4 (j := 4) rfl)
theorem dX10_product_69 : decode cX10_product 69 = .ok (.if_icmp .gt 12, 3) := do_163 0 12 (byt_at bX10_product_4 (j := 5) rfl) (byt_at bX10_product_4 (j := 6) rfl) (byt_at bX10_product_4 (j := 7) rfl) (by decide)
theorem dX10_product_72 : decode cX10_product 72 = .ok (.aload_n 0, 1) := do_42 (byt_at bX10_product_4 (j := 8) rfl)
theorem dX10_product_73 : decode cX10_product 73 = .ok (.getfield 103, 3) := do_180 0 103 (byt_at bX10_product_4 (j := 9) rfl) (byt_at bX10_product_4 (j := 10) rfl) (byt_at bX10_product_4 (j := 11) rfl)
theorem dX10_product_76 : decode cX10_product 76 = .ok (.iload 7, 2) := do_21 7 (byt_at bX10_product_4 (j := 12) rfl) (byt_at bX10_product_4 (j := 13) rfl)
theorem dX10_product_78 : decode cX10_product 78 = .ok (.iaload, 1) := do_46 (byt_at bX10_product_4 (j := 14) rfl)
theorem bX10_product_5 : ((bys cX10_product).drop 80).take 16 = [6, 132, 7, 1, 167, 255, 212, 33, 42, 27, 21, 6, 182, 1, 3, 133] := by decide +kernel
theorem dX10_product_79 : decode cX10_product 79 = .ok (.istore 6, 2) := do_54 6 (byt_at bX10_product_4 (j := 15) rfl) (byt_at bX10_product_5 (j := 0) rfl)
theorem dX10_product_81 : decode cX10_product 81 = .ok (.iinc 7 1, 3) := do_132 7 1 (byt_at bX10_product_5 (j := 1) rfl) (byt_at bX10_product_5 (j := 2) rfl) (byt_at bX10_product_5 (j := 3) rfl) (by decide)
theorem dX10_product_84 : decode cX10_product 84 = .ok (.goto (-44), 3) := do_167 255 212 (byt_at bX10_product_5 (j := 4) rfl) (byt_at bX10_product_5 (j := 5) rfl) (byt_at bX10_product_5 (j := 6) rfl) (by decide)
theorem dX10_product_87 : decode cX10_product 87 = .ok (.lload_n 3, 1) := do_33 (byt_at bX10_product_5 (j := 7) rfl)
theorem dX10_product_88 : decode cX10_product 88 = .ok (.aload_n 0, 1) := do_42 (byt_at bX10_product_5 (j := 8) rfl)
theorem dX10_product_89 : decode cX10_product 89 = .ok (.iload_n 1, 1) := do_27 (byt_at bX10_product_5 (j := 9) rfl)
theorem dX10_product_90 : decode cX10_product 90 = .ok (.iload 6, 2) := do_21 6 (byt_at bX10_product_5 (j := 10) rfl) (byt_at bX10_product_5 (j := 11) rfl)
theorem dX10_product_92 : decode cX10_product 92 = .ok (.invokevirtual 259, 3) := do_182 1 3 (byt_at bX10_product_5 (j := 12) rfl) (byt_at bX10_product_5 (j := 13) rfl) (byt_at bX10_product_5 (j := 14) rfl)
theorem dX10_product_95 : decode cX10_product 95 = .ok (.i2l, 1) := do_133 (byt_at bX10_product_5 (j := 15) rfl)
theorem bX10_product_6 : ((bys cX10_product).drop 96).take 16 = [105, 66, 132, 5, 1, 167, 255, 160, 33, 173] := by decide +kernel
theorem dX10_product_96 : decode cX10_product 96 = .ok (.lmul, 1) := do_105 (byt_at bX10_product_6 (j := 0) rfl)
theorem dX10_product_97 : decode cX10_product 97 = .ok (.lstore_n 3, 1) := do_66 (byt_at bX10_product_6 (j := 1) rfl)
theorem dX10_product_98 : decode cX10_product 98 = .ok (.iinc 5 1, 3) := do_132 5 1 (byt_at bX10_product_6 (j := 2) rfl) (byt_at bX10_product_6 (j := 3) rfl) (byt_at bX10_product_6 (j := 4) rfl) (by decide)
theorem dX10_product_101 : decode cX10_product 101 = .ok (.goto (-96), 3) := do_167 255 160 (byt_at bX10_product_6 (j := 5) rfl) (byt_at bX10_product_6 (j := 6) rfl) (byt_at bX10_product_6 (j := 7) rfl) (by decide)
theorem dX10_product_104 : decode cX10_product 104 = .ok (.lload_n 3, 1) := do_33 (byt_at bX10_product_6 (j := 8) rfl)
theorem dX10_product_105 : decode cX10_product 105 = .ok (.lreturn, 1) := do_173 (byt_at bX10_product_6 (j := 9) rfl)
theorem kk_X10_ratio_0 : Cond.fieldLink RX10 17 "PaidBySignsModel" "num" "[I" ∈ wsX10_ratio := List.mem_cons_of_mem _ (List.mem_append_left _ (List.mem_of_getElem? (i := 0) rfl))
theorem kk_X10_ratio_1 : Cond.fieldLink RX10 28 "PaidBySignsModel" "brings" "[I" ∈ wsX10_ratio := List.mem_cons_of_mem _ (List.mem_append_left _ (List.mem_of_getElem? (i := 1) rfl))
theorem kk_X10_rises_0 : Cond.fieldLink RX10 17 "PaidBySignsModel" "num" "[I" ∈ wsX10_rises := pm_X10_rises_r1 _ (List.mem_of_getElem? (i := 0) rfl)
theorem kk_X10_rises_1 : Cond.fieldLink RX10 28 "PaidBySignsModel" "brings" "[I" ∈ wsX10_rises := pm_X10_rises_r1 _ (List.mem_of_getElem? (i := 1) rfl)
theorem kk_X10_rises_2 : Cond.fieldLink RX10 70 "PaidBySignsModel" "bestUp" "[J" ∈ wsX10_rises := pm_X10_rises_r1 _ (List.mem_of_getElem? (i := 2) rfl)
theorem kk_X10_rises_3 : Cond.fieldLink RX10 73 "PaidBySignsModel" "bestLow" "[J" ∈ wsX10_rises := pm_X10_rises_r1 _ (List.mem_of_getElem? (i := 3) rfl)
theorem kk_X10_see_0 : Cond.fieldLink RX10 199 "PaidBySignsModel" "lastTold" "I" ∈ wsX10_see := List.mem_cons_of_mem _ (List.mem_append_left _ (List.mem_of_getElem? (i := 0) rfl))
theorem kk_X10_see_1 : Cond.constantLong RX10 407 (999) ∈ wsX10_see := List.mem_cons_of_mem _ (List.mem_append_left _ (List.mem_of_getElem? (i := 1) rfl))
theorem kk_X10_see_2 : Cond.fieldLink RX10 193 "PaidBySignsModel" "seenMany" "I" ∈ wsX10_see := List.mem_cons_of_mem _ (List.mem_append_left _ (List.mem_of_getElem? (i := 2) rfl))
theorem kk_X10_see_3 : Cond.fieldLink RX10 91 "PaidBySignsModel" "sTold" "[I" ∈ wsX10_see := List.mem_cons_of_mem _ (List.mem_append_left _ (List.mem_of_getElem? (i := 3) rfl))
theorem kk_X10_see_4 : Cond.fieldLink RX10 94 "PaidBySignsModel" "sSign" "[I" ∈ wsX10_see := List.mem_cons_of_mem _ (List.mem_append_left _ (List.mem_of_getElem? (i := 4) rfl))
theorem kk_X10_right_0 : Cond.fieldLink RX10 199 "PaidBySignsModel" "lastTold" "I" ∈ wsX10_right := List.mem_cons_of_mem _ (List.mem_append_left _ (List.mem_of_getElem? (i := 0) rfl))
theorem kk_X10_right_1 : Cond.constantLong RX10 407 (999) ∈ wsX10_right := List.mem_cons_of_mem _ (List.mem_append_left _ (List.mem_of_getElem? (i := 1) rfl))
theorem kk_X10_right_2 : Cond.fieldLink RX10 193 "PaidBySignsModel" "seenMany" "I" ∈ wsX10_right := List.mem_cons_of_mem _ (List.mem_append_left _ (List.mem_of_getElem? (i := 2) rfl))
theorem kk_X10_right_3 : Cond.fieldLink RX10 196 "PaidBySignsModel" "rightMany" "I" ∈ wsX10_right := List.mem_cons_of_mem _ (List.mem_append_left _ (List.mem_of_getElem? (i := 3) rfl))
theorem kk_X10_right_4 : Cond.fieldLink RX10 97 "PaidBySignsModel" "rOf" "[I" ∈ wsX10_right := List.mem_cons_of_mem _ (List.mem_append_left _ (List.mem_of_getElem? (i := 4) rfl))
theorem kk_X10_right_5 : Cond.fieldLink RX10 100 "PaidBySignsModel" "rTold" "[I" ∈ wsX10_right := List.mem_cons_of_mem _ (List.mem_append_left _ (List.mem_of_getElem? (i := 5) rfl))
theorem kk_X10_right_6 : Cond.fieldLink RX10 103 "PaidBySignsModel" "rSign" "[I" ∈ wsX10_right := List.mem_cons_of_mem _ (List.mem_append_left _ (List.mem_of_getElem? (i := 6) rfl))
theorem kk_X10_product_0 : Cond.fieldLink RX10 193 "PaidBySignsModel" "seenMany" "I" ∈ wsX10_product := List.mem_cons_of_mem _ (List.mem_append_left _ (List.mem_of_getElem? (i := 0) rfl))
theorem kk_X10_product_1 : Cond.fieldLink RX10 91 "PaidBySignsModel" "sTold" "[I" ∈ wsX10_product := List.mem_cons_of_mem _ (List.mem_append_left _ (List.mem_of_getElem? (i := 1) rfl))
theorem kk_X10_product_2 : Cond.fieldLink RX10 94 "PaidBySignsModel" "sSign" "[I" ∈ wsX10_product := List.mem_cons_of_mem _ (List.mem_append_left _ (List.mem_of_getElem? (i := 2) rfl))
theorem kk_X10_product_3 : Cond.fieldLink RX10 196 "PaidBySignsModel" "rightMany" "I" ∈ wsX10_product := List.mem_cons_of_mem _ (List.mem_append_left _ (List.mem_of_getElem? (i := 3) rfl))
theorem kk_X10_product_4 : Cond.fieldLink RX10 97 "PaidBySignsModel" "rOf" "[I" ∈ wsX10_product := List.mem_cons_of_mem _ (List.mem_append_left _ (List.mem_of_getElem? (i := 4) rfl))
theorem kk_X10_product_5 : Cond.fieldLink RX10 100 "PaidBySignsModel" "rTold" "[I" ∈ wsX10_product := List.mem_cons_of_mem _ (List.mem_append_left _ (List.mem_of_getElem? (i := 5) rfl))
theorem kk_X10_product_6 : Cond.fieldLink RX10 103 "PaidBySignsModel" "rSign" "[I" ∈ wsX10_product := List.mem_cons_of_mem _ (List.mem_append_left _ (List.mem_of_getElem? (i := 6) rfl))
theorem iw_X10_ratio_X10 : ∀ w ∈ wsX100, w ∈ wsX10_ratio := fun _ h => List.mem_cons_of_mem _ (List.mem_append_right _ h)
theorem iw_X10_rises_X10 : ∀ w ∈ wsX100, w ∈ wsX10_rises := pw_X10_rises_X10
theorem iw_X10_see_X10 : ∀ w ∈ wsX100, w ∈ wsX10_see := fun _ h => List.mem_cons_of_mem _ (List.mem_append_right _ h)
theorem iw_X10_right_X10 : ∀ w ∈ wsX100, w ∈ wsX10_right := fun _ h => List.mem_cons_of_mem _ (List.mem_append_right _ h)
theorem iw_X10_product_X10 : ∀ w ∈ wsX100, w ∈ wsX10_product := fun _ h => List.mem_cons_of_mem _ (List.mem_append_right _ h)
