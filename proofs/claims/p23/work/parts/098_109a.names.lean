abbrev cX2_copy : ByteArray := prog_4_method_3_code
def yX2_copy : MethodName := ⟨RX2, "copy", "(LPaidBySigns$Fraction;)V"⟩
abbrev cX2_become : ByteArray := prog_4_method_4_code
def yX2_become : MethodName := ⟨RX2, "become", "(JJ)V"⟩
abbrev cX2_add : ByteArray := prog_4_method_5_code
def yX2_add : MethodName := ⟨RX2, "add", "(JJ)V"⟩
abbrev cX2_isBelow : ByteArray := prog_4_method_6_code
def yX2_isBelow : MethodName := ⟨RX2, "isBelow", "(LPaidBySigns$Fraction;LPaidBySigns$Fraction;)Z"⟩
abbrev cX2_commonPart : ByteArray := prog_4_method_7_code
def yX2_commonPart : MethodName := ⟨RX2, "commonPart", "(JJ)J"⟩
def wsX2_copy : List Cond := .code yX2_copy cX2_copy 2 none :: ([.fieldLink RX2 11 "PaidBySigns$Fraction" "upper" "J", .fieldLink RX2 17 "PaidBySigns$Fraction" "lower" "J"] ++ wsX20)
def wsX2_commonPart : List Cond := .code yX2_commonPart cX2_commonPart 11 (some .long) :: ([])
def wsX2_become : List Cond := .code yX2_become cX2_become 7 none :: ([.methodLink RX2 20 Lib.MathLoose.abs_long.x, .static Lib.MathLoose.abs_long.x, .initialized "java/lang/Math", .code Lib.MathLoose.abs_long.x Lib.MathLoose.abs_long.code 2 (some .long), .fieldLink RX2 11 "PaidBySigns$Fraction" "upper" "J", .fieldLink RX2 17 "PaidBySigns$Fraction" "lower" "J", .methodLink RX2 26 yX2_commonPart, .static yX2_commonPart, .initialized RX2, .code yX2_commonPart cX2_commonPart 11 (some .long), .methodLink RX2 30 yX2_forget, .instanceMethod yX2_forget, .selects RX2 yX2_forget yX2_forget, .code yX2_forget cX2_forget 1 none, .constantLong RX2 9 (-2000000000)] ++ wsX20)
def wsX2_add : List Cond := .code yX2_add cX2_add 5 none :: ([.fieldLink RX2 11 "PaidBySigns$Fraction" "upper" "J", .fieldLink RX2 17 "PaidBySigns$Fraction" "lower" "J", .methodLink RX2 33 yX2_become, .instanceMethod yX2_become, .selects RX2 yX2_become yX2_become, .initialized RX2, .code yX2_become cX2_become 7 none, .methodLink RX2 20 Lib.MathLoose.abs_long.x, .static Lib.MathLoose.abs_long.x, .initialized "java/lang/Math", .code Lib.MathLoose.abs_long.x Lib.MathLoose.abs_long.code 2 (some .long), .methodLink RX2 26 yX2_commonPart, .static yX2_commonPart, .code yX2_commonPart cX2_commonPart 11 (some .long), .methodLink RX2 30 yX2_forget, .instanceMethod yX2_forget, .selects RX2 yX2_forget yX2_forget, .code yX2_forget cX2_forget 1 none, .constantLong RX2 9 (-2000000000)] ++ wsX20)
def wsX2_isBelow : List Cond := .code yX2_isBelow cX2_isBelow 2 (some .boolean) :: ([.fieldLink RX2 11 "PaidBySigns$Fraction" "upper" "J", .fieldLink RX2 17 "PaidBySigns$Fraction" "lower" "J"] ++ wsX20)
theorem bX2_copy_0 : ((bys cX2_copy).drop 0).take 16 = [42, 43, 180, 0, 11, 181, 0, 11, 42, 43, 180, 0, 17, 181, 0, 17] := by decide +kernel
theorem dX2_copy_0 : decode cX2_copy 0 = .ok (.aload_n 0, 1) := do_42 (byt_at bX2_copy_0 (j := 0) rfl)
theorem dX2_copy_1 : decode cX2_copy 1 = .ok (.aload_n 1, 1) := do_43 (byt_at bX2_copy_0 (j := 1) rfl)
theorem dX2_copy_2 : decode cX2_copy 2 = .ok (.getfield 11, 3) := do_180 0 11 (byt_at bX2_copy_0 (j := 2) rfl) (byt_at bX2_copy_0 (j := 3) rfl) (byt_at bX2_copy_0 (j := 4) rfl)
theorem dX2_copy_5 : decode cX2_copy 5 = .ok (.putfield 11, 3) := do_181 0 11 (byt_at bX2_copy_0 (j := 5) rfl) (byt_at bX2_copy_0 (j := 6) rfl) (byt_at bX2_copy_0 (j := 7) rfl)
theorem dX2_copy_8 : decode cX2_copy 8 = .ok (.aload_n 0, 1) := do_42 (byt_at bX2_copy_0 (j := 8) rfl)
theorem dX2_copy_9 : decode cX2_copy 9 = .ok (.aload_n 1, 1) := do_43 (byt_at bX2_copy_0 (j := 9) rfl)
theorem dX2_copy_10 : decode cX2_copy 10 = .ok (.getfield 17, 3) := do_180 0 17 (byt_at bX2_copy_0 (j := 10) rfl) (byt_at bX2_copy_0 (j := 11) rfl) (byt_at bX2_copy_0 (j := 12) rfl)
theorem dX2_copy_13 : decode cX2_copy 13 = .ok (.putfield 17, 3) := do_181 0 17 (byt_at bX2_copy_0 (j := 13) rfl) (byt_at bX2_copy_0 (j := 14) rfl) (byt_at bX2_copy_0 (j := 15) rfl)
theorem bX2_copy_1 : ((bys cX2_copy).drop 16).take 16 = [177] := by decide +kernel
theorem dX2_copy_16 : decode cX2_copy 16 = .ok (.return_, 1) := do_177 (byt_at bX2_copy_1 (j := 0) rfl)
set_option maxRecDepth 20000 in
theorem ggX2_become_X2_commonPart : GoodIn wsX2_become wsX2_commonPart := goodIn_sub (List.forall_mem_cons.mpr ⟨List.mem_cons_of_mem _ (List.mem_append_left _ (List.mem_of_getElem? (i := 9) rfl)), fun _ h => absurd h List.not_mem_nil⟩) (by decide +kernel)
set_option maxRecDepth 20000 in
theorem gX2_become_X2_commonPart : GoodIn wsX2_become (va_wsS RX2 26 yX2_commonPart wsX2_commonPart) := goodIn_app (goodIn_sub (List.forall_mem_cons.mpr ⟨List.mem_cons_of_mem _ (List.mem_append_left _ (List.mem_of_getElem? (i := 6) rfl)), List.forall_mem_cons.mpr ⟨List.mem_cons_of_mem _ (List.mem_append_left _ (List.mem_of_getElem? (i := 7) rfl)), List.forall_mem_cons.mpr ⟨List.mem_cons_of_mem _ (List.mem_append_left _ (List.mem_of_getElem? (i := 8) rfl)), fun _ h => absurd h List.not_mem_nil⟩⟩⟩) (by decide +kernel)) ggX2_become_X2_commonPart
set_option maxRecDepth 20000 in
theorem ggX2_become_X2_forget : GoodIn wsX2_become wsX2_forget := goodIn_sub (List.forall_mem_cons.mpr ⟨List.mem_cons_of_mem _ (List.mem_append_left _ (List.mem_of_getElem? (i := 13) rfl)), List.forall_mem_append.mpr ⟨List.forall_mem_cons.mpr ⟨List.mem_cons_of_mem _ (List.mem_append_left _ (List.mem_of_getElem? (i := 14) rfl)), List.forall_mem_cons.mpr ⟨List.mem_cons_of_mem _ (List.mem_append_left _ (List.mem_of_getElem? (i := 4) rfl)), List.forall_mem_cons.mpr ⟨List.mem_cons_of_mem _ (List.mem_append_left _ (List.mem_of_getElem? (i := 5) rfl)), fun _ h => absurd h List.not_mem_nil⟩⟩⟩, fun _ h => List.mem_cons_of_mem _ (List.mem_append_right _ h)⟩⟩) (by decide +kernel)
set_option maxRecDepth 20000 in
theorem gX2_become_X2_forget : GoodIn wsX2_become (wsV RX2 30 RX2 yX2_forget wsX2_forget) := goodIn_app (goodIn_sub (List.forall_mem_cons.mpr ⟨List.mem_cons_of_mem _ (List.mem_append_left _ (List.mem_of_getElem? (i := 10) rfl)), List.forall_mem_cons.mpr ⟨List.mem_cons_of_mem _ (List.mem_append_left _ (List.mem_of_getElem? (i := 11) rfl)), List.forall_mem_cons.mpr ⟨List.mem_cons_of_mem _ (List.mem_append_left _ (List.mem_of_getElem? (i := 12) rfl)), List.forall_mem_cons.mpr ⟨List.mem_cons_of_mem _ (List.mem_append_left _ (List.mem_of_getElem? (i := 8) rfl)), fun _ h => absurd h List.not_mem_nil⟩⟩⟩⟩) (by decide +kernel)) ggX2_become_X2_forget
theorem bX2_become_0 : ((bys cX2_become).drop 0).take 16 = [31, 184, 0, 20, 33, 184, 0, 26, 55, 5, 33, 10, 148, 155, 0, 10] := by decide +kernel
theorem dX2_become_0 : decode cX2_become 0 = .ok (.lload_n 1, 1) := do_31 (byt_at bX2_become_0 (j := 0) rfl)
theorem dX2_become_1 : decode cX2_become 1 = .ok (.invokestatic 20, 3) := do_184 0 20 (byt_at bX2_become_0 (j := 1) rfl) (byt_at bX2_become_0 (j := 2) rfl) (byt_at bX2_become_0 (j := 3) rfl)
theorem dX2_become_4 : decode cX2_become 4 = .ok (.lload_n 3, 1) := do_33 (byt_at bX2_become_0 (j := 4) rfl)
theorem dX2_become_5 : decode cX2_become 5 = .ok (.invokestatic 26, 3) := do_184 0 26 (byt_at bX2_become_0 (j := 5) rfl) (byt_at bX2_become_0 (j := 6) rfl) (byt_at bX2_become_0 (j := 7) rfl)
theorem dX2_become_8 : decode cX2_become 8 = .ok (.lstore 5, 2) := do_55 5 (byt_at bX2_become_0 (j := 8) rfl) (byt_at bX2_become_0 (j := 9) rfl)
theorem dX2_become_10 : decode cX2_become 10 = .ok (.lload_n 3, 1) := do_33 (byt_at bX2_become_0 (j := 10) rfl)
theorem dX2_become_11 : decode cX2_become 11 = .ok (.lconst 1, 1) := do_10 (byt_at bX2_become_0 (j := 11) rfl)
theorem dX2_become_12 : decode cX2_become 12 = .ok (.lcmp, 1) := do_148 (byt_at bX2_become_0 (j := 12) rfl)
theorem dX2_become_13 : decode cX2_become 13 = .ok (.ifCond .lt 10, 3) := do_155 0 10 (byt_at bX2_become_0 (j := 13) rfl) (byt_at bX2_become_0 (j := 14) rfl) (byt_at bX2_become_0 (j := 15) rfl) (by decide)
theorem bX2_become_1 : ((bys cX2_become).drop 16).take 16 = [22, 5, 10, 148, 156, 0, 8, 42, 182, 0, 30, 177, 42, 31, 22, 5] := by decide +kernel
theorem dX2_become_16 : decode cX2_become 16 = .ok (.lload 5, 2) := do_22 5 (byt_at bX2_become_1 (j := 0) rfl) (byt_at bX2_become_1 (j := 1) rfl)
theorem dX2_become_18 : decode cX2_become 18 = .ok (.lconst 1, 1) := do_10 (byt_at bX2_become_1 (j := 2) rfl)
theorem dX2_become_19 : decode cX2_become 19 = .ok (.lcmp, 1) := do_148 (byt_at bX2_become_1 (j := 3) rfl)
theorem dX2_become_20 : decode cX2_become 20 = .ok (.ifCond .ge 8, 3) := do_156 0 8 (byt_at bX2_become_1 (j := 4) rfl) (byt_at bX2_become_1 (j := 5) rfl) (byt_at bX2_become_1 (j := 6) rfl) (by decide)
theorem dX2_become_23 : decode cX2_become 23 = .ok (.aload_n 0, 1) := do_42 (byt_at bX2_become_1 (j := 7) rfl)
theorem dX2_become_24 : decode cX2_become 24 = .ok (.invokevirtual 30, 3) := do_182 0 30 (byt_at bX2_become_1 (j := 8) rfl) (byt_at bX2_become_1 (j := 9) rfl) (byt_at bX2_become_1 (j := 10) rfl)
theorem dX2_become_27 : decode cX2_become 27 = .ok (.return_, 1) := do_177 (byt_at bX2_become_1 (j := 11) rfl)
theorem dX2_become_28 : decode cX2_become 28 = .ok (.aload_n 0, 1) := do_42 (byt_at bX2_become_1 (j := 12) rfl)
theorem dX2_become_29 : decode cX2_become 29 = .ok (.lload_n 1, 1) := do_31 (byt_at bX2_become_1 (j := 13) rfl)
theorem dX2_become_30 : decode cX2_become 30 = .ok (.lload 5, 2) := do_22 5 (byt_at bX2_become_1 (j := 14) rfl) (byt_at bX2_become_1 (j := 15) rfl)
theorem bX2_become_2 : ((bys cX2_become).drop 32).take 16 = [109, 181, 0, 11, 42, 33, 22, 5, 109, 181, 0, 17, 177] := by decide +kernel
theorem dX2_become_32 : decode cX2_become 32 = .ok (.ldiv, 1) := do_109 (byt_at bX2_become_2 (j := 0) rfl)
theorem dX2_become_33 : decode cX2_become 33 = .ok (.putfield 11, 3) := do_181 0 11 (byt_at bX2_become_2 (j := 1) rfl) (byt_at bX2_become_2 (j := 2) rfl) (byt_at bX2_become_2 (j := 3) rfl)
theorem dX2_become_36 : decode cX2_become 36 = .ok (.aload_n 0, 1) := do_42 (byt_at bX2_become_2 (j := 4) rfl)
theorem dX2_become_37 : decode cX2_become 37 = .ok (.lload_n 3, 1) := do_33 (byt_at bX2_become_2 (j := 5) rfl)
theorem dX2_become_38 : decode cX2_become 38 = .ok (.lload 5, 2) := do_22 5 (byt_at bX2_become_2 (j := 6) rfl) (byt_at bX2_become_2 (j := 7) rfl)
theorem dX2_become_40 : decode cX2_become 40 = .ok (.ldiv, 1) := do_109 (byt_at bX2_become_2 (j := 8) rfl)
theorem dX2_become_41 : decode cX2_become 41 = .ok (.putfield 17, 3) := do_181 0 17 (byt_at bX2_become_2 (j := 9) rfl) (byt_at bX2_become_2 (j := 10) rfl) (byt_at bX2_become_2 (j := 11) rfl)
theorem dX2_become_44 : decode cX2_become 44 = .ok (.return_, 1) := do_177 (byt_at bX2_become_2 (j := 12) rfl)
set_option maxRecDepth 20000 in
theorem ggX2_add_X2_become : GoodIn wsX2_add wsX2_become := goodIn_sub (List.forall_mem_cons.mpr ⟨List.mem_cons_of_mem _ (List.mem_append_left _ (List.mem_of_getElem? (i := 6) rfl)), List.forall_mem_append.mpr ⟨List.forall_mem_cons.mpr ⟨List.mem_cons_of_mem _ (List.mem_append_left _ (List.mem_of_getElem? (i := 7) rfl)), List.forall_mem_cons.mpr ⟨List.mem_cons_of_mem _ (List.mem_append_left _ (List.mem_of_getElem? (i := 8) rfl)), List.forall_mem_cons.mpr ⟨List.mem_cons_of_mem _ (List.mem_append_left _ (List.mem_of_getElem? (i := 9) rfl)), List.forall_mem_cons.mpr ⟨List.mem_cons_of_mem _ (List.mem_append_left _ (List.mem_of_getElem? (i := 10) rfl)), List.forall_mem_cons.mpr ⟨List.mem_cons_of_mem _ (List.mem_append_left _ (List.mem_of_getElem? (i := 0) rfl)), List.forall_mem_cons.mpr ⟨List.mem_cons_of_mem _ (List.mem_append_left _ (List.mem_of_getElem? (i := 1) rfl)), List.forall_mem_cons.mpr ⟨List.mem_cons_of_mem _ (List.mem_append_left _ (List.mem_of_getElem? (i := 11) rfl)), List.forall_mem_cons.mpr ⟨List.mem_cons_of_mem _ (List.mem_append_left _ (List.mem_of_getElem? (i := 12) rfl)), List.forall_mem_cons.mpr ⟨List.mem_cons_of_mem _ (List.mem_append_left _ (List.mem_of_getElem? (i := 5) rfl)), List.forall_mem_cons.mpr ⟨List.mem_cons_of_mem _ (List.mem_append_left _ (List.mem_of_getElem? (i := 13) rfl)), List.forall_mem_cons.mpr ⟨List.mem_cons_of_mem _ (List.mem_append_left _ (List.mem_of_getElem? (i := 14) rfl)), List.forall_mem_cons.mpr ⟨List.mem_cons_of_mem _ (List.mem_append_left _ (List.mem_of_getElem? (i := 15) rfl)), List.forall_mem_cons.mpr ⟨List.mem_cons_of_mem _ (List.mem_append_left _ (List.mem_of_getElem? (i := 16) rfl)), List.forall_mem_cons.mpr ⟨List.mem_cons_of_mem _ (List.mem_append_left _ (List.mem_of_getElem? (i := 17) rfl)), List.forall_mem_cons.mpr ⟨List.mem_cons_of_mem _ (List.mem_append_left _ (List.mem_of_getElem? (i := 18) rfl)), fun _ h => absurd h List.not_mem_nil⟩⟩⟩⟩⟩⟩⟩⟩⟩⟩⟩⟩⟩⟩⟩, fun _ h => List.mem_cons_of_mem _ (List.mem_append_right _ h)⟩⟩) (by decide +kernel)
set_option maxRecDepth 20000 in
theorem gX2_add_X2_become : GoodIn wsX2_add (wsV RX2 33 RX2 yX2_become wsX2_become) := goodIn_app (goodIn_sub (List.forall_mem_cons.mpr ⟨List.mem_cons_of_mem _ (List.mem_append_left _ (List.mem_of_getElem? (i := 2) rfl)), List.forall_mem_cons.mpr ⟨List.mem_cons_of_mem _ (List.mem_append_left _ (List.mem_of_getElem? (i := 3) rfl)), List.forall_mem_cons.mpr ⟨List.mem_cons_of_mem _ (List.mem_append_left _ (List.mem_of_getElem? (i := 4) rfl)), List.forall_mem_cons.mpr ⟨List.mem_cons_of_mem _ (List.mem_append_left _ (List.mem_of_getElem? (i := 5) rfl)), fun _ h => absurd h List.not_mem_nil⟩⟩⟩⟩) (by decide +kernel)) ggX2_add_X2_become
theorem bX2_add_0 : ((bys cX2_add).drop 0).take 16 = [42, 42, 180, 0, 11, 33, 105, 31, 42, 180, 0, 17, 105, 97, 42, 180] := by decide +kernel
theorem dX2_add_0 : decode cX2_add 0 = .ok (.aload_n 0, 1) := do_42 (byt_at bX2_add_0 (j := 0) rfl)
theorem dX2_add_1 : decode cX2_add 1 = .ok (.aload_n 0, 1) := do_42 (byt_at bX2_add_0 (j := 1) rfl)
theorem dX2_add_2 : decode cX2_add 2 = .ok (.getfield 11, 3) := do_180 0 11 (byt_at bX2_add_0 (j := 2) rfl) (byt_at bX2_add_0 (j := 3) rfl) (byt_at bX2_add_0 (j := 4) rfl)
theorem dX2_add_5 : decode cX2_add 5 = .ok (.lload_n 3, 1) := do_33 (byt_at bX2_add_0 (j := 5) rfl)
theorem dX2_add_6 : decode cX2_add 6 = .ok (.lmul, 1) := do_105 (byt_at bX2_add_0 (j := 6) rfl)
theorem dX2_add_7 : decode cX2_add 7 = .ok (.lload_n 1, 1) := do_31 (byt_at bX2_add_0 (j := 7) rfl)
theorem dX2_add_8 : decode cX2_add 8 = .ok (.aload_n 0, 1) := do_42 (byt_at bX2_add_0 (j := 8) rfl)
theorem dX2_add_9 : decode cX2_add 9 = .ok (.getfield 17, 3) := do_180 0 17 (byt_at bX2_add_0 (j := 9) rfl) (byt_at bX2_add_0 (j := 10) rfl) (byt_at bX2_add_0 (j := 11) rfl)
theorem dX2_add_12 : decode cX2_add 12 = .ok (.lmul, 1) := do_105 (byt_at bX2_add_0 (j := 12) rfl)
theorem dX2_add_13 : decode cX2_add 13 = .ok (.ladd, 1) := do_97 (byt_at bX2_add_0 (j := 13) rfl)
theorem dX2_add_14 : decode cX2_add 14 = .ok (.aload_n 0, 1) := do_42 (byt_at bX2_add_0 (j := 14) rfl)
theorem bX2_add_1 : ((bys cX2_add).drop 16).take 16 = [0, 17, 33, 105, 182, 0, 33, 177] := by decide +kernel
theorem dX2_add_15 : decode cX2_add 15 = .ok (.getfield 17, 3) := do_180 0 17 (byt_at bX2_add_0 (j := 15) rfl) (byt_at bX2_add_1 (j := 0) rfl) (byt_at bX2_add_1 (j := 1) rfl)
theorem dX2_add_18 : decode cX2_add 18 = .ok (.lload_n 3, 1) := do_33 (byt_at bX2_add_1 (j := 2) rfl)
theorem dX2_add_19 : decode cX2_add 19 = .ok (.lmul, 1) := do_105 (byt_at bX2_add_1 (j := 3) rfl)
theorem dX2_add_20 : decode cX2_add 20 = .ok (.invokevirtual 33, 3) := do_182 0 33 (byt_at bX2_add_1 (j := 4) rfl) (byt_at bX2_add_1 (j := 5) rfl) (byt_at bX2_add_1 (j := 6) rfl)
theorem dX2_add_23 : decode cX2_add 23 = .ok (.return_, 1) := do_177 (byt_at bX2_add_1 (j := 7) rfl)
theorem bX2_isBelow_0 : ((bys cX2_isBelow).drop 0).take 16 = [42, 180, 0, 11, 43, 180, 0, 17, 105, 43, 180, 0, 11, 42, 180, 0] := by decide +kernel
theorem dX2_isBelow_0 : decode cX2_isBelow 0 = .ok (.aload_n 0, 1) := do_42 (byt_at bX2_isBelow_0 (j := 0) rfl)
theorem dX2_isBelow_1 : decode cX2_isBelow 1 = .ok (.getfield 11, 3) := do_180 0 11 (byt_at bX2_isBelow_0 (j := 1) rfl) (byt_at bX2_isBelow_0 (j := 2) rfl) (byt_at bX2_isBelow_0 (j := 3) rfl)
theorem dX2_isBelow_4 : decode cX2_isBelow 4 = .ok (.aload_n 1, 1) := do_43 (byt_at bX2_isBelow_0 (j := 4) rfl)
theorem dX2_isBelow_5 : decode cX2_isBelow 5 = .ok (.getfield 17, 3) := do_180 0 17 (byt_at bX2_isBelow_0 (j := 5) rfl) (byt_at bX2_isBelow_0 (j := 6) rfl) (byt_at bX2_isBelow_0 (j := 7) rfl)
theorem dX2_isBelow_8 : decode cX2_isBelow 8 = .ok (.lmul, 1) := do_105 (byt_at bX2_isBelow_0 (j := 8) rfl)
theorem dX2_isBelow_9 : decode cX2_isBelow 9 = .ok (.aload_n 1, 1) := do_43 (byt_at bX2_isBelow_0 (j := 9) rfl)
theorem dX2_isBelow_10 : decode cX2_isBelow 10 = .ok (.getfield 11, 3) := do_180 0 11 (byt_at bX2_isBelow_0 (j := 10) rfl) (byt_at bX2_isBelow_0 (j := 11) rfl) (byt_at bX2_isBelow_0 (j := 12) rfl)
theorem dX2_isBelow_13 : decode cX2_isBelow 13 = .ok (.aload_n 0, 1) := do_42 (byt_at bX2_isBelow_0 (j := 13) rfl)
theorem bX2_isBelow_1 : ((bys cX2_isBelow).drop 16).take 16 = [17, 105, 148, 156, 0, 7, 4, 167, 0, 4, 3, 172] := by decide +kernel
theorem dX2_isBelow_14 : decode cX2_isBelow 14 = .ok (.getfield 17, 3) := do_180 0 17 (byt_at bX2_isBelow_0 (j := 14) rfl) (byt_at bX2_isBelow_0 (j := 15) rfl) (byt_at bX2_isBelow_1 (j := 0) rfl)
theorem dX2_isBelow_17 : decode cX2_isBelow 17 = .ok (.lmul, 1) := do_105 (byt_at bX2_isBelow_1 (j := 1) rfl)
theorem dX2_isBelow_18 : decode cX2_isBelow 18 = .ok (.lcmp, 1) := do_148 (byt_at bX2_isBelow_1 (j := 2) rfl)
theorem dX2_isBelow_19 : decode cX2_isBelow 19 = .ok (.ifCond .ge 7, 3) := do_156 0 7 (byt_at bX2_isBelow_1 (j := 3) rfl) (byt_at bX2_isBelow_1 (j := 4) rfl) (byt_at bX2_isBelow_1 (j := 5) rfl) (by decide)
theorem dX2_isBelow_22 : decode cX2_isBelow 22 = .ok (.iconst 1, 1) := do_4 (byt_at bX2_isBelow_1 (j := 6) rfl)
theorem dX2_isBelow_23 : decode cX2_isBelow 23 = .ok (.goto 4, 3) := do_167 0 4 (byt_at bX2_isBelow_1 (j := 7) rfl) (byt_at bX2_isBelow_1 (j := 8) rfl) (byt_at bX2_isBelow_1 (j := 9) rfl) (by decide)
theorem dX2_isBelow_26 : decode cX2_isBelow 26 = .ok (.iconst 0, 1) := do_3 (byt_at bX2_isBelow_1 (j := 10) rfl)
theorem dX2_isBelow_27 : decode cX2_isBelow 27 = .ok (.ireturn, 1) := do_172 (byt_at bX2_isBelow_1 (j := 11) rfl)
theorem bX2_commonPart_0 : ((bys cX2_commonPart).drop 0).take 16 = [30, 55, 4, 32, 55, 6, 3, 54, 8, 21, 8, 17, 0, 200, 162, 0] := by decide +kernel
theorem dX2_commonPart_0 : decode cX2_commonPart 0 = .ok (.lload_n 0, 1) := do_30 (byt_at bX2_commonPart_0 (j := 0) rfl)
theorem dX2_commonPart_1 : decode cX2_commonPart 1 = .ok (.lstore 4, 2) := do_55 4 (byt_at bX2_commonPart_0 (j := 1) rfl) (byt_at bX2_commonPart_0 (j := 2) rfl)
theorem dX2_commonPart_3 : decode cX2_commonPart 3 = .ok (.lload_n 2, 1) := do_32 (byt_at bX2_commonPart_0 (j := 3) rfl)
theorem dX2_commonPart_4 : decode cX2_commonPart 4 = .ok (.lstore 6, 2) := do_55 6 (byt_at bX2_commonPart_0 (j := 4) rfl) (byt_at bX2_commonPart_0 (j := 5) rfl)
theorem dX2_commonPart_6 : decode cX2_commonPart 6 = .ok (.iconst 0, 1) := do_3 (byt_at bX2_commonPart_0 (j := 6) rfl)
theorem dX2_commonPart_7 : decode cX2_commonPart 7 = .ok (.istore 8, 2) := do_54 8 (byt_at bX2_commonPart_0 (j := 7) rfl) (byt_at bX2_commonPart_0 (j := 8) rfl)
theorem dX2_commonPart_9 : decode cX2_commonPart 9 = .ok (.iload 8, 2) := do_21 8 (byt_at bX2_commonPart_0 (j := 9) rfl) (byt_at bX2_commonPart_0 (j := 10) rfl)
theorem dX2_commonPart_11 : decode cX2_commonPart 11 = .ok (.sipush 200, 3) := do_17 0 200 (byt_at bX2_commonPart_0 (j := 11) rfl) (byt_at bX2_commonPart_0 (j := 12) rfl) (byt_at bX2_commonPart_0 (j := 13) rfl) (by decide)
theorem bX2_commonPart_1 : ((bys cX2_commonPart).drop 16).take 16 = [31, 22, 6, 9, 148, 153, 0, 24, 22, 4, 22, 6, 113, 55, 9, 22] := by decide +kernel
theorem dX2_commonPart_14 : decode cX2_commonPart 14 = .ok (.if_icmp .ge 31, 3) := do_162 0 31 (byt_at bX2_commonPart_0 (j := 14) rfl) (byt_at bX2_commonPart_0 (j := 15) rfl) (byt_at bX2_commonPart_1 (j := 0) rfl) (by decide)
theorem dX2_commonPart_17 : decode cX2_commonPart 17 = .ok (.lload 6, 2) := do_22 6 (byt_at bX2_commonPart_1 (j := 1) rfl) (byt_at bX2_commonPart_1 (j := 2) rfl)
theorem dX2_commonPart_19 : decode cX2_commonPart 19 = .ok (.lconst 0, 1) := do_9 (byt_at bX2_commonPart_1 (j := 3) rfl)
theorem dX2_commonPart_20 : decode cX2_commonPart 20 = .ok (.lcmp, 1) := do_148 (byt_at bX2_commonPart_1 (j := 4) rfl)
theorem dX2_commonPart_21 : decode cX2_commonPart 21 = .ok (.ifCond .eq 24, 3) := do_153 0 24 (byt_at bX2_commonPart_1 (j := 5) rfl) (byt_at bX2_commonPart_1 (j := 6) rfl) (byt_at bX2_commonPart_1 (j := 7) rfl) (by decide)
theorem dX2_commonPart_24 : decode cX2_commonPart 24 = .ok (.lload 4, 2) := do_22 4 (byt_at bX2_commonPart_1 (j := 8) rfl) (byt_at bX2_commonPart_1 (j := 9) rfl)
theorem dX2_commonPart_26 : decode cX2_commonPart 26 = .ok (.lload 6, 2) := do_22 6 (byt_at bX2_commonPart_1 (j := 10) rfl) (byt_at bX2_commonPart_1 (j := 11) rfl)
theorem dX2_commonPart_28 : decode cX2_commonPart 28 = .ok (.lrem, 1) := do_113 (byt_at bX2_commonPart_1 (j := 12) rfl)
theorem dX2_commonPart_29 : decode cX2_commonPart 29 = .ok (.lstore 9, 2) := do_55 9 (byt_at bX2_commonPart_1 (j := 13) rfl) (byt_at bX2_commonPart_1 (j := 14) rfl)
theorem bX2_commonPart_2 : ((bys cX2_commonPart).drop 32).take 16 = [6, 55, 4, 22, 9, 55, 6, 132, 8, 1, 167, 255, 223, 22, 4, 173] := by decide +kernel
theorem dX2_commonPart_31 : decode cX2_commonPart 31 = .ok (.lload 6, 2) := do_22 6 (byt_at bX2_commonPart_1 (j := 15) rfl) (byt_at bX2_commonPart_2 (j := 0) rfl)
theorem dX2_commonPart_33 : decode cX2_commonPart 33 = .ok (.lstore 4, 2) := do_55 4 (byt_at bX2_commonPart_2 (j := 1) rfl) (byt_at bX2_commonPart_2 (j := 2) rfl)
theorem dX2_commonPart_35 : decode cX2_commonPart 35 = .ok (.lload 9, 2) := do_22 9 (byt_at bX2_commonPart_2 (j := 3) rfl) (byt_at bX2_commonPart_2 (j := 4) rfl)
theorem dX2_commonPart_37 : decode cX2_commonPart 37 = .ok (.lstore 6, 2) := do_55 6 (byt_at bX2_commonPart_2 (j := 5) rfl) (byt_at bX2_commonPart_2 (j := 6) rfl)
theorem dX2_commonPart_39 : decode cX2_commonPart 39 = .ok (.iinc 8 1, 3) := do_132 8 1 (byt_at bX2_commonPart_2 (j := 7) rfl) (byt_at bX2_commonPart_2 (j := 8) rfl) (byt_at bX2_commonPart_2 (j := 9) rfl) (by decide)
theorem dX2_commonPart_42 : decode cX2_commonPart 42 = .ok (.goto (-33), 3) := do_167 255 223 (byt_at bX2_commonPart_2 (j := 10) rfl) (byt_at bX2_commonPart_2 (j := 11) rfl) (byt_at bX2_commonPart_2 (j := 12) rfl) (by decide)
theorem dX2_commonPart_45 : decode cX2_commonPart 45 = .ok (.lload 4, 2) := do_22 4 (byt_at bX2_commonPart_2 (j := 13) rfl) (byt_at bX2_commonPart_2 (j := 14) rfl)
theorem dX2_commonPart_47 : decode cX2_commonPart 47 = .ok (.lreturn, 1) := do_173 (byt_at bX2_commonPart_2 (j := 15) rfl)
theorem kk_X2_copy_0 : Cond.fieldLink RX2 11 "PaidBySigns$Fraction" "upper" "J" ∈ wsX2_copy := List.mem_cons_of_mem _ (List.mem_append_left _ (List.mem_of_getElem? (i := 0) rfl))
theorem kk_X2_copy_1 : Cond.fieldLink RX2 17 "PaidBySigns$Fraction" "lower" "J" ∈ wsX2_copy := List.mem_cons_of_mem _ (List.mem_append_left _ (List.mem_of_getElem? (i := 1) rfl))
theorem kk_X2_become_0 : Cond.methodLink RX2 20 Lib.MathLoose.abs_long.x ∈ wsX2_become := List.mem_cons_of_mem _ (List.mem_append_left _ (List.mem_of_getElem? (i := 0) rfl))
theorem kk_X2_become_1 : Cond.static Lib.MathLoose.abs_long.x ∈ wsX2_become := List.mem_cons_of_mem _ (List.mem_append_left _ (List.mem_of_getElem? (i := 1) rfl))
theorem kk_X2_become_2 : Cond.initialized "java/lang/Math" ∈ wsX2_become := List.mem_cons_of_mem _ (List.mem_append_left _ (List.mem_of_getElem? (i := 2) rfl))
theorem kk_X2_become_3 : Cond.code Lib.MathLoose.abs_long.x Lib.MathLoose.abs_long.code 2 (some .long) ∈ wsX2_become := List.mem_cons_of_mem _ (List.mem_append_left _ (List.mem_of_getElem? (i := 3) rfl))
theorem kk_X2_become_4 : Cond.fieldLink RX2 11 "PaidBySigns$Fraction" "upper" "J" ∈ wsX2_become := List.mem_cons_of_mem _ (List.mem_append_left _ (List.mem_of_getElem? (i := 4) rfl))
theorem kk_X2_become_5 : Cond.fieldLink RX2 17 "PaidBySigns$Fraction" "lower" "J" ∈ wsX2_become := List.mem_cons_of_mem _ (List.mem_append_left _ (List.mem_of_getElem? (i := 5) rfl))
theorem kk_X2_add_0 : Cond.fieldLink RX2 11 "PaidBySigns$Fraction" "upper" "J" ∈ wsX2_add := List.mem_cons_of_mem _ (List.mem_append_left _ (List.mem_of_getElem? (i := 0) rfl))
theorem kk_X2_add_1 : Cond.fieldLink RX2 17 "PaidBySigns$Fraction" "lower" "J" ∈ wsX2_add := List.mem_cons_of_mem _ (List.mem_append_left _ (List.mem_of_getElem? (i := 1) rfl))
theorem kk_X2_isBelow_0 : Cond.fieldLink RX2 11 "PaidBySigns$Fraction" "upper" "J" ∈ wsX2_isBelow := List.mem_cons_of_mem _ (List.mem_append_left _ (List.mem_of_getElem? (i := 0) rfl))
theorem kk_X2_isBelow_1 : Cond.fieldLink RX2 17 "PaidBySigns$Fraction" "lower" "J" ∈ wsX2_isBelow := List.mem_cons_of_mem _ (List.mem_append_left _ (List.mem_of_getElem? (i := 1) rfl))
theorem iw_X2_copy_X2 : ∀ w ∈ wsX20, w ∈ wsX2_copy := fun _ h => List.mem_cons_of_mem _ (List.mem_append_right _ h)
theorem iw_X2_become_X2 : ∀ w ∈ wsX20, w ∈ wsX2_become := fun _ h => List.mem_cons_of_mem _ (List.mem_append_right _ h)
theorem iw_X2_add_X2 : ∀ w ∈ wsX20, w ∈ wsX2_add := fun _ h => List.mem_cons_of_mem _ (List.mem_append_right _ h)
theorem iw_X2_isBelow_X2 : ∀ w ∈ wsX20, w ∈ wsX2_isBelow := fun _ h => List.mem_cons_of_mem _ (List.mem_append_right _ h)
