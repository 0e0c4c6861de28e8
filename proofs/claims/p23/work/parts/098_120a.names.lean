abbrev cX3_worthAt : ByteArray := prog_5_method_5_code
def yX3_worthAt : MethodName := ⟨RX3, "worthAt", "(I[I)I"⟩
abbrev cX9_chance : ByteArray := prog_1_method_7_code
def yX9_chance : MethodName := ⟨RX9, "chance", "(II)I"⟩
abbrev cX9_feeling : ByteArray := prog_1_method_8_code
def yX9_feeling : MethodName := ⟨RX9, "feeling", "(I)I"⟩
abbrev cX9_wage : ByteArray := prog_1_method_9_code
def yX9_wage : MethodName := ⟨RX9, "wage", "(II)I"⟩
abbrev cX9_isSign : ByteArray := prog_1_method_39_code
def yX9_isSign : MethodName := ⟨RX9, "isSign", "(I)Z"⟩
def wsX3_worthAt : List Cond := .code yX3_worthAt cX3_worthAt 5 (some .int) :: ([.fieldLink RX3 39 "PaidBySigns$Hire" "whole" "I", .fieldLink RX3 15 "PaidBySigns$Hire" "costs" "[I", .fieldLink RX3 32 "PaidBySigns$Hire" "signs" "I", .fieldLink RX3 20 "PaidBySigns$Hire" "chances" "[[I", .methodLink RX3 63 yX3_feltOf, .instanceMethod yX3_feltOf, .selects RX3 yX3_feltOf yX3_feltOf, .initialized RX3, .code yX3_feltOf cX3_feltOf 6 (some .int), .fieldLink RX3 48 "PaidBySigns$Hire" "rates" "I", .fieldLink RX3 26 "PaidBySigns$Hire" "mark" "[I", .methodLink RX3 51 Lib.Math.min.name, .static Lib.Math.min.name, .initialized "java/lang/Math", .code Lib.Math.min.name Lib.Math.min.code 2 (some .int), .fieldLink RX3 23 "PaidBySigns$Hire" "rate" "[I"] ++ wsX30)
def wsX9_isSign : List Cond := .code yX9_isSign cX9_isSign 2 (some .boolean) :: ([.fieldLink RX9 19 "PaidBySigns" "hire" "LPaidBySigns$Hire;", .fieldLink RX9 124 "PaidBySigns$Hire" "signs" "I"] ++ wsX90 ++ wsX30)
def wsX9_chance : List Cond := .code yX9_chance cX9_chance 3 (some .int) :: ([.fieldLink RX9 19 "PaidBySigns" "hire" "LPaidBySigns$Hire;", .fieldLink RX9 147 "PaidBySigns$Hire" "chances" "[[I", .methodLink RX9 140 yX9_isWork, .instanceMethod yX9_isWork, .selects RX9 yX9_isWork yX9_isWork, .initialized RX9, .code yX9_isWork cX9_isWork 2 (some .boolean), .fieldLink RX9 115 "PaidBySigns$Hire" "works" "I", .methodLink RX9 144 yX9_isSign, .instanceMethod yX9_isSign, .selects RX9 yX9_isSign yX9_isSign, .code yX9_isSign cX9_isSign 2 (some .boolean), .fieldLink RX9 124 "PaidBySigns$Hire" "signs" "I"] ++ wsX90 ++ wsX30)
def wsX9_feeling : List Cond := .code yX9_feeling cX9_feeling 2 (some .int) :: ([.fieldLink RX9 19 "PaidBySigns" "hire" "LPaidBySigns$Hire;", .methodLink RX9 151 yX3_feltOf, .instanceMethod yX3_feltOf, .selects RX3 yX3_feltOf yX3_feltOf, .initialized RX3, .code yX3_feltOf cX3_feltOf 6 (some .int), .fieldLink RX3 48 "PaidBySigns$Hire" "rates" "I", .fieldLink RX3 26 "PaidBySigns$Hire" "mark" "[I", .methodLink RX3 51 Lib.Math.min.name, .static Lib.Math.min.name, .initialized "java/lang/Math", .code Lib.Math.min.name Lib.Math.min.code 2 (some .int), .fieldLink RX3 23 "PaidBySigns$Hire" "rate" "[I"] ++ wsX90 ++ wsX30)
def wsX9_wage : List Cond := .code yX9_wage cX9_wage 4 (some .int) :: ([.fieldLink RX9 19 "PaidBySigns" "hire" "LPaidBySigns$Hire;", .fieldLink RX9 101 "PaidBySigns$Hire" "least" "I", .fieldLink RX9 23 "PaidBySigns" "hand" "[I", .methodLink RX9 144 yX9_isSign, .instanceMethod yX9_isSign, .selects RX9 yX9_isSign yX9_isSign, .initialized RX9, .code yX9_isSign cX9_isSign 2 (some .boolean), .fieldLink RX9 124 "PaidBySigns$Hire" "signs" "I"] ++ wsX90 ++ wsX30)
set_option maxRecDepth 20000 in
theorem ggX3_worthAt_X3_feltOf : GoodIn wsX3_worthAt wsX3_feltOf := goodIn_sub (List.forall_mem_cons.mpr ⟨List.mem_cons_of_mem _ (List.mem_append_left _ (List.mem_of_getElem? (i := 8) rfl)), List.forall_mem_append.mpr ⟨List.forall_mem_cons.mpr ⟨List.mem_cons_of_mem _ (List.mem_append_left _ (List.mem_of_getElem? (i := 9) rfl)), List.forall_mem_cons.mpr ⟨List.mem_cons_of_mem _ (List.mem_append_left _ (List.mem_of_getElem? (i := 10) rfl)), List.forall_mem_cons.mpr ⟨List.mem_cons_of_mem _ (List.mem_append_left _ (List.mem_of_getElem? (i := 11) rfl)), List.forall_mem_cons.mpr ⟨List.mem_cons_of_mem _ (List.mem_append_left _ (List.mem_of_getElem? (i := 12) rfl)), List.forall_mem_cons.mpr ⟨List.mem_cons_of_mem _ (List.mem_append_left _ (List.mem_of_getElem? (i := 13) rfl)), List.forall_mem_cons.mpr ⟨List.mem_cons_of_mem _ (List.mem_append_left _ (List.mem_of_getElem? (i := 14) rfl)), List.forall_mem_cons.mpr ⟨List.mem_cons_of_mem _ (List.mem_append_left _ (List.mem_of_getElem? (i := 15) rfl)), fun _ h => absurd h List.not_mem_nil⟩⟩⟩⟩⟩⟩⟩, fun _ h => List.mem_cons_of_mem _ (List.mem_append_right _ h)⟩⟩) (by decide +kernel)
set_option maxRecDepth 20000 in
theorem gX3_worthAt_X3_feltOf : GoodIn wsX3_worthAt (wsV RX3 63 RX3 yX3_feltOf wsX3_feltOf) := goodIn_app (goodIn_sub (List.forall_mem_cons.mpr ⟨List.mem_cons_of_mem _ (List.mem_append_left _ (List.mem_of_getElem? (i := 4) rfl)), List.forall_mem_cons.mpr ⟨List.mem_cons_of_mem _ (List.mem_append_left _ (List.mem_of_getElem? (i := 5) rfl)), List.forall_mem_cons.mpr ⟨List.mem_cons_of_mem _ (List.mem_append_left _ (List.mem_of_getElem? (i := 6) rfl)), List.forall_mem_cons.mpr ⟨List.mem_cons_of_mem _ (List.mem_append_left _ (List.mem_of_getElem? (i := 7) rfl)), fun _ h => absurd h List.not_mem_nil⟩⟩⟩⟩) (by decide +kernel)) ggX3_worthAt_X3_feltOf
theorem bX3_worthAt_0 : ((bys cX3_worthAt).drop 0).take 16 = [42, 180, 0, 39, 116, 42, 180, 0, 15, 27, 46, 104, 62, 3, 54, 4] := by decide +kernel
theorem dX3_worthAt_0 : decode cX3_worthAt 0 = .ok (.aload_n 0, 1) := do_42 (byt_at bX3_worthAt_0 (j := 0) rfl)
theorem dX3_worthAt_1 : decode cX3_worthAt 1 = .ok (.getfield 39, 3) := do_180 0 39 (byt_at bX3_worthAt_0 (j := 1) rfl) (byt_at bX3_worthAt_0 (j := 2) rfl) (byt_at bX3_worthAt_0 (j := 3) rfl)
theorem dX3_worthAt_4 : decode cX3_worthAt 4 = .ok (.ineg, 1) := do_116 (byt_at bX3_worthAt_0 (j := 4) rfl)
theorem dX3_worthAt_5 : decode cX3_worthAt 5 = .ok (.aload_n 0, 1) := do_42 (byt_at bX3_worthAt_0 (j := 5) rfl)
theorem dX3_worthAt_6 : decode cX3_worthAt 6 = .ok (.getfield 15, 3) := do_180 0 15 (byt_at bX3_worthAt_0 (j := 6) rfl) (byt_at bX3_worthAt_0 (j := 7) rfl) (byt_at bX3_worthAt_0 (j := 8) rfl)
theorem dX3_worthAt_9 : decode cX3_worthAt 9 = .ok (.iload_n 1, 1) := do_27 (byt_at bX3_worthAt_0 (j := 9) rfl)
theorem dX3_worthAt_10 : decode cX3_worthAt 10 = .ok (.iaload, 1) := do_46 (byt_at bX3_worthAt_0 (j := 10) rfl)
theorem dX3_worthAt_11 : decode cX3_worthAt 11 = .ok (.imul, 1) := do_104 (byt_at bX3_worthAt_0 (j := 11) rfl)
theorem dX3_worthAt_12 : decode cX3_worthAt 12 = .ok (.istore_n 3, 1) := do_62 (byt_at bX3_worthAt_0 (j := 12) rfl)
theorem dX3_worthAt_13 : decode cX3_worthAt 13 = .ok (.iconst 0, 1) := do_3 (byt_at bX3_worthAt_0 (j := 13) rfl)
theorem dX3_worthAt_14 : decode cX3_worthAt 14 = .ok (.istore 4, 2) := do_54 4 (byt_at bX3_worthAt_0 (j := 14) rfl) (byt_at bX3_worthAt_0 (j := 15) rfl)
theorem bX3_worthAt_1 : ((bys cX3_worthAt).drop 16).take 16 = [21, 4, 42, 180, 0, 32, 162, 0, 30, 29, 42, 180, 0, 20, 27, 50] := by decide +kernel
theorem dX3_worthAt_16 : decode cX3_worthAt 16 = .ok (.iload 4, 2) := do_21 4 (byt_at bX3_worthAt_1 (j := 0) rfl) (byt_at bX3_worthAt_1 (j := 1) rfl)
theorem dX3_worthAt_18 : decode cX3_worthAt 18 = .ok (.aload_n 0, 1) := do_42 (byt_at bX3_worthAt_1 (j := 2) rfl)
theorem dX3_worthAt_19 : decode cX3_worthAt 19 = .ok (.getfield 32, 3) := do_180 0 32 (byt_at bX3_worthAt_1 (j := 3) rfl) (byt_at bX3_worthAt_1 (j := 4) rfl) (byt_at bX3_worthAt_1 (j := 5) rfl)
theorem dX3_worthAt_22 : decode cX3_worthAt 22 = .ok (.if_icmp .ge 30, 3) := do_162 0 30 (byt_at bX3_worthAt_1 (j := 6) rfl) (byt_at bX3_worthAt_1 (j := 7) rfl) (byt_at bX3_worthAt_1 (j := 8) rfl) (by decide)
theorem dX3_worthAt_25 : decode cX3_worthAt 25 = .ok (.iload_n 3, 1) := do_29 (byt_at bX3_worthAt_1 (j := 9) rfl)
theorem dX3_worthAt_26 : decode cX3_worthAt 26 = .ok (.aload_n 0, 1) := do_42 (byt_at bX3_worthAt_1 (j := 10) rfl)
theorem dX3_worthAt_27 : decode cX3_worthAt 27 = .ok (.getfield 20, 3) := do_180 0 20 (byt_at bX3_worthAt_1 (j := 11) rfl) (byt_at bX3_worthAt_1 (j := 12) rfl) (byt_at bX3_worthAt_1 (j := 13) rfl)
theorem dX3_worthAt_30 : decode cX3_worthAt 30 = .ok (.iload_n 1, 1) := do_27 (byt_at bX3_worthAt_1 (j := 14) rfl)
theorem dX3_worthAt_31 : decode cX3_worthAt 31 = .ok (.aaload, 1) := do_50 (byt_at bX3_worthAt_1 (j := 15) rfl)
theorem bX3_worthAt_2 : ((bys cX3_worthAt).drop 32).take 16 = [21, 4, 46, 42, 44, 21, 4, 46, 182, 0, 63, 104, 96, 62, 132, 4] := by decide +kernel
theorem dX3_worthAt_32 : decode cX3_worthAt 32 = .ok (.iload 4, 2) := do_21 4 (byt_at bX3_worthAt_2 (j := 0) rfl) (byt_at bX3_worthAt_2 (j := 1) rfl)
theorem dX3_worthAt_34 : decode cX3_worthAt 34 = .ok (.iaload, 1) := do_46 (byt_at bX3_worthAt_2 (j := 2) rfl)
theorem dX3_worthAt_35 : decode cX3_worthAt 35 = .ok (.aload_n 0, 1) := do_42 (byt_at bX3_worthAt_2 (j := 3) rfl)
theorem dX3_worthAt_36 : decode cX3_worthAt 36 = .ok (.aload_n 2, 1) := do_44 (byt_at bX3_worthAt_2 (j := 4) rfl)
theorem dX3_worthAt_37 : decode cX3_worthAt 37 = .ok (.iload 4, 2) := do_21 4 (byt_at bX3_worthAt_2 (j := 5) rfl) (byt_at bX3_worthAt_2 (j := 6) rfl)
theorem dX3_worthAt_39 : decode cX3_worthAt 39 = .ok (.iaload, 1) := do_46 (byt_at bX3_worthAt_2 (j := 7) rfl)
theorem dX3_worthAt_40 : decode cX3_worthAt 40 = .ok (.invokevirtual 63, 3) := do_182 0 63 (byt_at bX3_worthAt_2 (j := 8) rfl) (byt_at bX3_worthAt_2 (j := 9) rfl) (byt_at bX3_worthAt_2 (j := 10) rfl)
theorem dX3_worthAt_43 : decode cX3_worthAt 43 = .ok (.imul, 1) := do_104 (byt_at bX3_worthAt_2 (j := 11) rfl)
theorem dX3_worthAt_44 : decode cX3_worthAt 44 = .ok (.iadd, 1) := do_96 (byt_at bX3_worthAt_2 (j := 12) rfl)
theorem dX3_worthAt_45 : decode cX3_worthAt 45 = .ok (.istore_n 3, 1) := do_62 (byt_at bX3_worthAt_2 (j := 13) rfl)
theorem bX3_worthAt_3 : ((bys cX3_worthAt).drop 48).take 16 = [1, 167, 255, 223, 29, 172] := by decide +kernel
theorem dX3_worthAt_46 : decode cX3_worthAt 46 = .ok (.iinc 4 1, 3) := do_132 4 1 (byt_at bX3_worthAt_2 (j := 14) rfl) (byt_at bX3_worthAt_2 (j := 15) rfl) (byt_at bX3_worthAt_3 (j := 0) rfl) (by decide)
theorem dX3_worthAt_49 : decode cX3_worthAt 49 = .ok (.goto (-33), 3) := do_167 255 223 (byt_at bX3_worthAt_3 (j := 1) rfl) (byt_at bX3_worthAt_3 (j := 2) rfl) (byt_at bX3_worthAt_3 (j := 3) rfl) (by decide)
theorem dX3_worthAt_52 : decode cX3_worthAt 52 = .ok (.iload_n 3, 1) := do_29 (byt_at bX3_worthAt_3 (j := 4) rfl)
theorem dX3_worthAt_53 : decode cX3_worthAt 53 = .ok (.ireturn, 1) := do_172 (byt_at bX3_worthAt_3 (j := 5) rfl)
set_option maxRecDepth 20000 in
theorem ggX9_chance_X9_isWork : GoodIn wsX9_chance wsX9_isWork := goodIn_sub (List.forall_mem_cons.mpr ⟨List.mem_cons_of_mem _ (List.mem_append_left _ (List.mem_append_left _ (List.mem_of_getElem? (i := 6) rfl))), List.forall_mem_append.mpr ⟨List.forall_mem_append.mpr ⟨List.forall_mem_cons.mpr ⟨List.mem_cons_of_mem _ (List.mem_append_left _ (List.mem_append_left _ (List.mem_of_getElem? (i := 0) rfl))), List.forall_mem_cons.mpr ⟨List.mem_cons_of_mem _ (List.mem_append_left _ (List.mem_append_left _ (List.mem_of_getElem? (i := 7) rfl))), fun _ h => absurd h List.not_mem_nil⟩⟩, fun _ h => List.mem_cons_of_mem _ (List.mem_append_left _ (List.mem_append_right _ h))⟩, fun _ h => List.mem_cons_of_mem _ (List.mem_append_right _ h)⟩⟩) (by decide +kernel)
set_option maxRecDepth 20000 in
theorem gX9_chance_X9_isWork : GoodIn wsX9_chance (wsV RX9 140 RX9 yX9_isWork wsX9_isWork) := goodIn_app (goodIn_sub (List.forall_mem_cons.mpr ⟨List.mem_cons_of_mem _ (List.mem_append_left _ (List.mem_append_left _ (List.mem_of_getElem? (i := 2) rfl))), List.forall_mem_cons.mpr ⟨List.mem_cons_of_mem _ (List.mem_append_left _ (List.mem_append_left _ (List.mem_of_getElem? (i := 3) rfl))), List.forall_mem_cons.mpr ⟨List.mem_cons_of_mem _ (List.mem_append_left _ (List.mem_append_left _ (List.mem_of_getElem? (i := 4) rfl))), List.forall_mem_cons.mpr ⟨List.mem_cons_of_mem _ (List.mem_append_left _ (List.mem_append_left _ (List.mem_of_getElem? (i := 5) rfl))), fun _ h => absurd h List.not_mem_nil⟩⟩⟩⟩) (by decide +kernel)) ggX9_chance_X9_isWork
set_option maxRecDepth 20000 in
theorem ggX9_chance_X9_isSign : GoodIn wsX9_chance wsX9_isSign := goodIn_sub (List.forall_mem_cons.mpr ⟨List.mem_cons_of_mem _ (List.mem_append_left _ (List.mem_append_left _ (List.mem_of_getElem? (i := 11) rfl))), List.forall_mem_append.mpr ⟨List.forall_mem_append.mpr ⟨List.forall_mem_cons.mpr ⟨List.mem_cons_of_mem _ (List.mem_append_left _ (List.mem_append_left _ (List.mem_of_getElem? (i := 0) rfl))), List.forall_mem_cons.mpr ⟨List.mem_cons_of_mem _ (List.mem_append_left _ (List.mem_append_left _ (List.mem_of_getElem? (i := 12) rfl))), fun _ h => absurd h List.not_mem_nil⟩⟩, fun _ h => List.mem_cons_of_mem _ (List.mem_append_left _ (List.mem_append_right _ h))⟩, fun _ h => List.mem_cons_of_mem _ (List.mem_append_right _ h)⟩⟩) (by decide +kernel)
set_option maxRecDepth 20000 in
theorem gX9_chance_X9_isSign : GoodIn wsX9_chance (wsV RX9 144 RX9 yX9_isSign wsX9_isSign) := goodIn_app (goodIn_sub (List.forall_mem_cons.mpr ⟨List.mem_cons_of_mem _ (List.mem_append_left _ (List.mem_append_left _ (List.mem_of_getElem? (i := 8) rfl))), List.forall_mem_cons.mpr ⟨List.mem_cons_of_mem _ (List.mem_append_left _ (List.mem_append_left _ (List.mem_of_getElem? (i := 9) rfl))), List.forall_mem_cons.mpr ⟨List.mem_cons_of_mem _ (List.mem_append_left _ (List.mem_append_left _ (List.mem_of_getElem? (i := 10) rfl))), List.forall_mem_cons.mpr ⟨List.mem_cons_of_mem _ (List.mem_append_left _ (List.mem_append_left _ (List.mem_of_getElem? (i := 5) rfl))), fun _ h => absurd h List.not_mem_nil⟩⟩⟩⟩) (by decide +kernel)) ggX9_chance_X9_isSign
theorem bX9_chance_0 : ((bys cX9_chance).drop 0).take 16 = [42, 27, 182, 0, 140, 153, 0, 25, 42, 28, 182, 0, 144, 153, 0, 17] := by decide +kernel
theorem dX9_chance_0 : decode cX9_chance 0 = .ok (.aload_n 0, 1) := do_42 (byt_at bX9_chance_0 (j := 0) rfl)
theorem dX9_chance_1 : decode cX9_chance 1 = .ok (.iload_n 1, 1) := do_27 (byt_at bX9_chance_0 (j := 1) rfl)
theorem dX9_chance_2 : decode cX9_chance 2 = .ok (.invokevirtual 140, 3) := do_182 0 140 (byt_at bX9_chance_0 (j := 2) rfl) (byt_at bX9_chance_0 (j := 3) rfl) (byt_at bX9_chance_0 (j := 4) rfl)
theorem dX9_chance_5 : decode cX9_chance 5 = .ok (.ifCond .eq 25, 3) := do_153 0 25 (byt_at bX9_chance_0 (j := 5) rfl) (byt_at bX9_chance_0 (j := 6) rfl) (byt_at bX9_chance_0 (j := 7) rfl) (by decide)
theorem dX9_chance_8 : decode cX9_chance 8 = .ok (.aload_n 0, 1) := do_42 (byt_at bX9_chance_0 (j := 8) rfl)
theorem dX9_chance_9 : decode cX9_chance 9 = .ok (.iload_n 2, 1) := do_28 (byt_at bX9_chance_0 (j := 9) rfl)
theorem dX9_chance_10 : decode cX9_chance 10 = .ok (.invokevirtual 144, 3) := do_182 0 144 (byt_at bX9_chance_0 (j := 10) rfl) (byt_at bX9_chance_0 (j := 11) rfl) (byt_at bX9_chance_0 (j := 12) rfl)
theorem dX9_chance_13 : decode cX9_chance 13 = .ok (.ifCond .eq 17, 3) := do_153 0 17 (byt_at bX9_chance_0 (j := 13) rfl) (byt_at bX9_chance_0 (j := 14) rfl) (byt_at bX9_chance_0 (j := 15) rfl) (by decide)
theorem bX9_chance_1 : ((bys cX9_chance).drop 16).take 16 = [42, 180, 0, 19, 180, 0, 147, 27, 50, 28, 46, 167, 0, 5, 16, 254] := by decide +kernel
theorem dX9_chance_16 : decode cX9_chance 16 = .ok (.aload_n 0, 1) := do_42 (byt_at bX9_chance_1 (j := 0) rfl)
theorem dX9_chance_17 : decode cX9_chance 17 = .ok (.getfield 19, 3) := do_180 0 19 (byt_at bX9_chance_1 (j := 1) rfl) (byt_at bX9_chance_1 (j := 2) rfl) (byt_at bX9_chance_1 (j := 3) rfl)
theorem dX9_chance_20 : decode cX9_chance 20 = .ok (.getfield 147, 3) := do_180 0 147 (byt_at bX9_chance_1 (j := 4) rfl) (byt_at bX9_chance_1 (j := 5) rfl) (byt_at bX9_chance_1 (j := 6) rfl)
theorem dX9_chance_23 : decode cX9_chance 23 = .ok (.iload_n 1, 1) := do_27 (byt_at bX9_chance_1 (j := 7) rfl)
theorem dX9_chance_24 : decode cX9_chance 24 = .ok (.aaload, 1) := do_50 (byt_at bX9_chance_1 (j := 8) rfl)
theorem dX9_chance_25 : decode cX9_chance 25 = .ok (.iload_n 2, 1) := do_28 (byt_at bX9_chance_1 (j := 9) rfl)
theorem dX9_chance_26 : decode cX9_chance 26 = .ok (.iaload, 1) := do_46 (byt_at bX9_chance_1 (j := 10) rfl)
theorem dX9_chance_27 : decode cX9_chance 27 = .ok (.goto 5, 3) := do_167 0 5 (byt_at bX9_chance_1 (j := 11) rfl) (byt_at bX9_chance_1 (j := 12) rfl) (byt_at bX9_chance_1 (j := 13) rfl) (by decide)
theorem dX9_chance_30 : decode cX9_chance 30 = .ok (.bipush (-2), 2) := do_16 254 (byt_at bX9_chance_1 (j := 14) rfl) (byt_at bX9_chance_1 (j := 15) rfl) (by decide)
theorem bX9_chance_2 : ((bys cX9_chance).drop 32).take 16 = [172] := by decide +kernel
theorem dX9_chance_32 : decode cX9_chance 32 = .ok (.ireturn, 1) := do_172 (byt_at bX9_chance_2 (j := 0) rfl)
set_option maxRecDepth 20000 in
theorem ggX9_feeling_X3_feltOf : GoodIn wsX9_feeling wsX3_feltOf := goodIn_sub (List.forall_mem_cons.mpr ⟨List.mem_cons_of_mem _ (List.mem_append_left _ (List.mem_append_left _ (List.mem_of_getElem? (i := 5) rfl))), List.forall_mem_append.mpr ⟨List.forall_mem_cons.mpr ⟨List.mem_cons_of_mem _ (List.mem_append_left _ (List.mem_append_left _ (List.mem_of_getElem? (i := 6) rfl))), List.forall_mem_cons.mpr ⟨List.mem_cons_of_mem _ (List.mem_append_left _ (List.mem_append_left _ (List.mem_of_getElem? (i := 7) rfl))), List.forall_mem_cons.mpr ⟨List.mem_cons_of_mem _ (List.mem_append_left _ (List.mem_append_left _ (List.mem_of_getElem? (i := 8) rfl))), List.forall_mem_cons.mpr ⟨List.mem_cons_of_mem _ (List.mem_append_left _ (List.mem_append_left _ (List.mem_of_getElem? (i := 9) rfl))), List.forall_mem_cons.mpr ⟨List.mem_cons_of_mem _ (List.mem_append_left _ (List.mem_append_left _ (List.mem_of_getElem? (i := 10) rfl))), List.forall_mem_cons.mpr ⟨List.mem_cons_of_mem _ (List.mem_append_left _ (List.mem_append_left _ (List.mem_of_getElem? (i := 11) rfl))), List.forall_mem_cons.mpr ⟨List.mem_cons_of_mem _ (List.mem_append_left _ (List.mem_append_left _ (List.mem_of_getElem? (i := 12) rfl))), fun _ h => absurd h List.not_mem_nil⟩⟩⟩⟩⟩⟩⟩, fun _ h => List.mem_cons_of_mem _ (List.mem_append_right _ h)⟩⟩) (by decide +kernel)
set_option maxRecDepth 20000 in
theorem gX9_feeling_X3_feltOf : GoodIn wsX9_feeling (wsV RX9 151 RX3 yX3_feltOf wsX3_feltOf) := goodIn_app (goodIn_sub (List.forall_mem_cons.mpr ⟨List.mem_cons_of_mem _ (List.mem_append_left _ (List.mem_append_left _ (List.mem_of_getElem? (i := 1) rfl))), List.forall_mem_cons.mpr ⟨List.mem_cons_of_mem _ (List.mem_append_left _ (List.mem_append_left _ (List.mem_of_getElem? (i := 2) rfl))), List.forall_mem_cons.mpr ⟨List.mem_cons_of_mem _ (List.mem_append_left _ (List.mem_append_left _ (List.mem_of_getElem? (i := 3) rfl))), List.forall_mem_cons.mpr ⟨List.mem_cons_of_mem _ (List.mem_append_left _ (List.mem_append_left _ (List.mem_of_getElem? (i := 4) rfl))), fun _ h => absurd h List.not_mem_nil⟩⟩⟩⟩) (by decide +kernel)) ggX9_feeling_X3_feltOf
theorem bX9_feeling_0 : ((bys cX9_feeling).drop 0).take 16 = [27, 155, 0, 10, 27, 17, 39, 15, 164, 0, 8, 16, 254, 167, 0, 11] := by decide +kernel
theorem dX9_feeling_0 : decode cX9_feeling 0 = .ok (.iload_n 1, 1) := do_27 (byt_at bX9_feeling_0 (j := 0) rfl)
theorem dX9_feeling_1 : decode cX9_feeling 1 = .ok (.ifCond .lt 10, 3) := do_155 0 10 (byt_at bX9_feeling_0 (j := 1) rfl) (byt_at bX9_feeling_0 (j := 2) rfl) (byt_at bX9_feeling_0 (j := 3) rfl) (by decide)
theorem dX9_feeling_4 : decode cX9_feeling 4 = .ok (.iload_n 1, 1) := do_27 (byt_at bX9_feeling_0 (j := 4) rfl)
theorem dX9_feeling_5 : decode cX9_feeling 5 = .ok (.sipush 9999, 3) := do_17 39 15 (byt_at bX9_feeling_0 (j := 5) rfl) (byt_at bX9_feeling_0 (j := 6) rfl) (byt_at bX9_feeling_0 (j := 7) rfl) (by decide)
theorem dX9_feeling_8 : decode cX9_feeling 8 = .ok (.if_icmp .le 8, 3) := do_164 0 8 (byt_at bX9_feeling_0 (j := 8) rfl) (byt_at bX9_feeling_0 (j := 9) rfl) (byt_at bX9_feeling_0 (j := 10) rfl) (by decide)
theorem dX9_feeling_11 : decode cX9_feeling 11 = .ok (.bipush (-2), 2) := do_16 254 (byt_at bX9_feeling_0 (j := 11) rfl) (byt_at bX9_feeling_0 (j := 12) rfl) (by decide)
theorem dX9_feeling_13 : decode cX9_feeling 13 = .ok (.goto 11, 3) := do_167 0 11 (byt_at bX9_feeling_0 (j := 13) rfl) (byt_at bX9_feeling_0 (j := 14) rfl) (byt_at bX9_feeling_0 (j := 15) rfl) (by decide)
theorem bX9_feeling_1 : ((bys cX9_feeling).drop 16).take 16 = [42, 180, 0, 19, 27, 182, 0, 151, 172] := by decide +kernel
theorem dX9_feeling_16 : decode cX9_feeling 16 = .ok (.aload_n 0, 1) := do_42 (byt_at bX9_feeling_1 (j := 0) rfl)
theorem dX9_feeling_17 : decode cX9_feeling 17 = .ok (.getfield 19, 3) := do_180 0 19 (byt_at bX9_feeling_1 (j := 1) rfl) (byt_at bX9_feeling_1 (j := 2) rfl) (byt_at bX9_feeling_1 (j := 3) rfl)
theorem dX9_feeling_20 : decode cX9_feeling 20 = .ok (.iload_n 1, 1) := do_27 (byt_at bX9_feeling_1 (j := 4) rfl)
theorem dX9_feeling_21 : decode cX9_feeling 21 = .ok (.invokevirtual 151, 3) := do_182 0 151 (byt_at bX9_feeling_1 (j := 5) rfl) (byt_at bX9_feeling_1 (j := 6) rfl) (byt_at bX9_feeling_1 (j := 7) rfl)
theorem dX9_feeling_24 : decode cX9_feeling 24 = .ok (.ireturn, 1) := do_172 (byt_at bX9_feeling_1 (j := 8) rfl)
set_option maxRecDepth 20000 in
theorem ggX9_wage_X9_isSign : GoodIn wsX9_wage wsX9_isSign := goodIn_sub (List.forall_mem_cons.mpr ⟨List.mem_cons_of_mem _ (List.mem_append_left _ (List.mem_append_left _ (List.mem_of_getElem? (i := 7) rfl))), List.forall_mem_append.mpr ⟨List.forall_mem_append.mpr ⟨List.forall_mem_cons.mpr ⟨List.mem_cons_of_mem _ (List.mem_append_left _ (List.mem_append_left _ (List.mem_of_getElem? (i := 0) rfl))), List.forall_mem_cons.mpr ⟨List.mem_cons_of_mem _ (List.mem_append_left _ (List.mem_append_left _ (List.mem_of_getElem? (i := 8) rfl))), fun _ h => absurd h List.not_mem_nil⟩⟩, fun _ h => List.mem_cons_of_mem _ (List.mem_append_left _ (List.mem_append_right _ h))⟩, fun _ h => List.mem_cons_of_mem _ (List.mem_append_right _ h)⟩⟩) (by decide +kernel)
set_option maxRecDepth 20000 in
theorem gX9_wage_X9_isSign : GoodIn wsX9_wage (wsV RX9 144 RX9 yX9_isSign wsX9_isSign) := goodIn_app (goodIn_sub (List.forall_mem_cons.mpr ⟨List.mem_cons_of_mem _ (List.mem_append_left _ (List.mem_append_left _ (List.mem_of_getElem? (i := 3) rfl))), List.forall_mem_cons.mpr ⟨List.mem_cons_of_mem _ (List.mem_append_left _ (List.mem_append_left _ (List.mem_of_getElem? (i := 4) rfl))), List.forall_mem_cons.mpr ⟨List.mem_cons_of_mem _ (List.mem_append_left _ (List.mem_append_left _ (List.mem_of_getElem? (i := 5) rfl))), List.forall_mem_cons.mpr ⟨List.mem_cons_of_mem _ (List.mem_append_left _ (List.mem_append_left _ (List.mem_of_getElem? (i := 6) rfl))), fun _ h => absurd h List.not_mem_nil⟩⟩⟩⟩) (by decide +kernel)) ggX9_wage_X9_isSign
theorem bX9_wage_0 : ((bys cX9_wage).drop 0).take 16 = [42, 27, 182, 0, 144, 153, 0, 21, 28, 42, 180, 0, 19, 180, 0, 101] := by decide +kernel
theorem dX9_wage_0 : decode cX9_wage 0 = .ok (.aload_n 0, 1) := do_42 (byt_at bX9_wage_0 (j := 0) rfl)
theorem dX9_wage_1 : decode cX9_wage 1 = .ok (.iload_n 1, 1) := do_27 (byt_at bX9_wage_0 (j := 1) rfl)
theorem dX9_wage_2 : decode cX9_wage 2 = .ok (.invokevirtual 144, 3) := do_182 0 144 (byt_at bX9_wage_0 (j := 2) rfl) (byt_at bX9_wage_0 (j := 3) rfl) (byt_at bX9_wage_0 (j := 4) rfl)
theorem dX9_wage_5 : decode cX9_wage 5 = .ok (.ifCond .eq 21, 3) := do_153 0 21 (byt_at bX9_wage_0 (j := 5) rfl) (byt_at bX9_wage_0 (j := 6) rfl) (byt_at bX9_wage_0 (j := 7) rfl) (by decide)
theorem dX9_wage_8 : decode cX9_wage 8 = .ok (.iload_n 2, 1) := do_28 (byt_at bX9_wage_0 (j := 8) rfl)
theorem dX9_wage_9 : decode cX9_wage 9 = .ok (.aload_n 0, 1) := do_42 (byt_at bX9_wage_0 (j := 9) rfl)
theorem dX9_wage_10 : decode cX9_wage 10 = .ok (.getfield 19, 3) := do_180 0 19 (byt_at bX9_wage_0 (j := 10) rfl) (byt_at bX9_wage_0 (j := 11) rfl) (byt_at bX9_wage_0 (j := 12) rfl)
theorem dX9_wage_13 : decode cX9_wage 13 = .ok (.getfield 101, 3) := do_180 0 101 (byt_at bX9_wage_0 (j := 13) rfl) (byt_at bX9_wage_0 (j := 14) rfl) (byt_at bX9_wage_0 (j := 15) rfl)
theorem bX9_wage_1 : ((bys cX9_wage).drop 16).take 16 = [161, 0, 10, 28, 17, 39, 15, 164, 0, 6, 16, 254, 172, 42, 180, 0] := by decide +kernel
theorem dX9_wage_16 : decode cX9_wage 16 = .ok (.if_icmp .lt 10, 3) := do_161 0 10 (byt_at bX9_wage_1 (j := 0) rfl) (byt_at bX9_wage_1 (j := 1) rfl) (byt_at bX9_wage_1 (j := 2) rfl) (by decide)
theorem dX9_wage_19 : decode cX9_wage 19 = .ok (.iload_n 2, 1) := do_28 (byt_at bX9_wage_1 (j := 3) rfl)
theorem dX9_wage_20 : decode cX9_wage 20 = .ok (.sipush 9999, 3) := do_17 39 15 (byt_at bX9_wage_1 (j := 4) rfl) (byt_at bX9_wage_1 (j := 5) rfl) (byt_at bX9_wage_1 (j := 6) rfl) (by decide)
theorem dX9_wage_23 : decode cX9_wage 23 = .ok (.if_icmp .le 6, 3) := do_164 0 6 (byt_at bX9_wage_1 (j := 7) rfl) (byt_at bX9_wage_1 (j := 8) rfl) (byt_at bX9_wage_1 (j := 9) rfl) (by decide)
theorem dX9_wage_26 : decode cX9_wage 26 = .ok (.bipush (-2), 2) := do_16 254 (byt_at bX9_wage_1 (j := 10) rfl) (byt_at bX9_wage_1 (j := 11) rfl) (by decide)
theorem dX9_wage_28 : decode cX9_wage 28 = .ok (.ireturn, 1) := do_172 (byt_at bX9_wage_1 (j := 12) rfl)
theorem dX9_wage_29 : decode cX9_wage 29 = .ok (.aload_n 0, 1) := do_42 (byt_at bX9_wage_1 (j := 13) rfl)
theorem bX9_wage_2 : ((bys cX9_wage).drop 32).take 16 = [23, 27, 46, 62, 42, 180, 0, 23, 27, 28, 79, 29, 172] := by decide +kernel
theorem dX9_wage_30 : decode cX9_wage 30 = .ok (.getfield 23, 3) := do_180 0 23 (byt_at bX9_wage_1 (j := 14) rfl) (byt_at bX9_wage_1 (j := 15) rfl) (byt_at bX9_wage_2 (j := 0) rfl)
theorem dX9_wage_33 : decode cX9_wage 33 = .ok (.iload_n 1, 1) := do_27 (byt_at bX9_wage_2 (j := 1) rfl)
theorem dX9_wage_34 : decode cX9_wage 34 = .ok (.iaload, 1) := do_46 (byt_at bX9_wage_2 (j := 2) rfl)
theorem dX9_wage_35 : decode cX9_wage 35 = .ok (.istore_n 3, 1) := do_62 (byt_at bX9_wage_2 (j := 3) rfl)
theorem dX9_wage_36 : decode cX9_wage 36 = .ok (.aload_n 0, 1) := do_42 (byt_at bX9_wage_2 (j := 4) rfl)
theorem dX9_wage_37 : decode cX9_wage 37 = .ok (.getfield 23, 3) := do_180 0 23 (byt_at bX9_wage_2 (j := 5) rfl) (byt_at bX9_wage_2 (j := 6) rfl) (byt_at bX9_wage_2 (j := 7) rfl)
theorem dX9_wage_40 : decode cX9_wage 40 = .ok (.iload_n 1, 1) := do_27 (byt_at bX9_wage_2 (j := 8) rfl)
theorem dX9_wage_41 : decode cX9_wage 41 = .ok (.iload_n 2, 1) := do_28 (byt_at bX9_wage_2 (j := 9) rfl)
theorem dX9_wage_42 : decode cX9_wage 42 = .ok (.iastore, 1) := do_79 (byt_at bX9_wage_2 (j := 10) rfl)
theorem dX9_wage_43 : decode cX9_wage 43 = .ok (.iload_n 3, 1) := do_29 (byt_at bX9_wage_2 (j := 11) rfl)
theorem dX9_wage_44 : decode cX9_wage 44 = .ok (.ireturn, 1) := do_172 (byt_at bX9_wage_2 (j := 12) rfl)
theorem bX9_isSign_0 : ((bys cX9_isSign).drop 0).take 16 = [27, 155, 0, 18, 27, 42, 180, 0, 19, 180, 0, 124, 162, 0, 7, 4] := by decide +kernel
theorem dX9_isSign_0 : decode cX9_isSign 0 = .ok (.iload_n 1, 1) := do_27 (byt_at bX9_isSign_0 (j := 0) rfl)
theorem dX9_isSign_1 : decode cX9_isSign 1 = .ok (.ifCond .lt 18, 3) := do_155 0 18 (byt_at bX9_isSign_0 (j := 1) rfl) (byt_at bX9_isSign_0 (j := 2) rfl) (byt_at bX9_isSign_0 (j := 3) rfl) (by decide)
theorem dX9_isSign_4 : decode cX9_isSign 4 = .ok (.iload_n 1, 1) := do_27 (byt_at bX9_isSign_0 (j := 4) rfl)
theorem dX9_isSign_5 : decode cX9_isSign 5 = .ok (.aload_n 0, 1) := do_42 (byt_at bX9_isSign_0 (j := 5) rfl)
theorem dX9_isSign_6 : decode cX9_isSign 6 = .ok (.getfield 19, 3) := do_180 0 19 (byt_at bX9_isSign_0 (j := 6) rfl) (byt_at bX9_isSign_0 (j := 7) rfl) (byt_at bX9_isSign_0 (j := 8) rfl)
theorem dX9_isSign_9 : decode cX9_isSign 9 = .ok (.getfield 124, 3) := do_180 0 124 (byt_at bX9_isSign_0 (j := 9) rfl) (byt_at bX9_isSign_0 (j := 10) rfl) (byt_at bX9_isSign_0 (j := 11) rfl)
theorem dX9_isSign_12 : decode cX9_isSign 12 = .ok (.if_icmp .ge 7, 3) := do_162 0 7 (byt_at bX9_isSign_0 (j := 12) rfl) (byt_at bX9_isSign_0 (j := 13) rfl) (byt_at bX9_isSign_0 (j := 14) rfl) (by decide)
theorem dX9_isSign_15 : decode cX9_isSign 15 = .ok (.iconst 1, 1) := do_4 (byt_at bX9_isSign_0 (j := 15) rfl)
theorem bX9_isSign_1 : ((bys cX9_isSign).drop 16).take 16 = [167, 0, 4, 3, 172] := by decide +kernel
theorem dX9_isSign_16 : decode cX9_isSign 16 = .ok (.goto 4, 3) := do_167 0 4 (byt_at bX9_isSign_1 (j := 0) rfl) (byt_at bX9_isSign_1 (j := 1) rfl) (byt_at bX9_isSign_1 (j := 2) rfl) (by decide)
theorem dX9_isSign_19 : decode cX9_isSign 19 = .ok (.iconst 0, 1) := do_3 (byt_at bX9_isSign_1 (j := 3) rfl)
theorem dX9_isSign_20 : decode cX9_isSign 20 = .ok (.ireturn, 1) := do_172 (byt_at bX9_isSign_1 (j := 4) rfl)
theorem kk_X3_worthAt_0 : Cond.fieldLink RX3 39 "PaidBySigns$Hire" "whole" "I" ∈ wsX3_worthAt := List.mem_cons_of_mem _ (List.mem_append_left _ (List.mem_of_getElem? (i := 0) rfl))
theorem kk_X3_worthAt_1 : Cond.fieldLink RX3 15 "PaidBySigns$Hire" "costs" "[I" ∈ wsX3_worthAt := List.mem_cons_of_mem _ (List.mem_append_left _ (List.mem_of_getElem? (i := 1) rfl))
theorem kk_X3_worthAt_2 : Cond.fieldLink RX3 32 "PaidBySigns$Hire" "signs" "I" ∈ wsX3_worthAt := List.mem_cons_of_mem _ (List.mem_append_left _ (List.mem_of_getElem? (i := 2) rfl))
theorem kk_X3_worthAt_3 : Cond.fieldLink RX3 20 "PaidBySigns$Hire" "chances" "[[I" ∈ wsX3_worthAt := List.mem_cons_of_mem _ (List.mem_append_left _ (List.mem_of_getElem? (i := 3) rfl))
theorem kk_X9_isSign_0 : Cond.fieldLink RX9 19 "PaidBySigns" "hire" "LPaidBySigns$Hire;" ∈ wsX9_isSign := List.mem_cons_of_mem _ (List.mem_append_left _ (List.mem_append_left _ (List.mem_of_getElem? (i := 0) rfl)))
theorem kk_X9_isSign_1 : Cond.fieldLink RX9 124 "PaidBySigns$Hire" "signs" "I" ∈ wsX9_isSign := List.mem_cons_of_mem _ (List.mem_append_left _ (List.mem_append_left _ (List.mem_of_getElem? (i := 1) rfl)))
theorem kk_X9_chance_0 : Cond.fieldLink RX9 19 "PaidBySigns" "hire" "LPaidBySigns$Hire;" ∈ wsX9_chance := List.mem_cons_of_mem _ (List.mem_append_left _ (List.mem_append_left _ (List.mem_of_getElem? (i := 0) rfl)))
theorem kk_X9_chance_1 : Cond.fieldLink RX9 147 "PaidBySigns$Hire" "chances" "[[I" ∈ wsX9_chance := List.mem_cons_of_mem _ (List.mem_append_left _ (List.mem_append_left _ (List.mem_of_getElem? (i := 1) rfl)))
theorem kk_X9_feeling_0 : Cond.fieldLink RX9 19 "PaidBySigns" "hire" "LPaidBySigns$Hire;" ∈ wsX9_feeling := List.mem_cons_of_mem _ (List.mem_append_left _ (List.mem_append_left _ (List.mem_of_getElem? (i := 0) rfl)))
theorem kk_X9_wage_0 : Cond.fieldLink RX9 19 "PaidBySigns" "hire" "LPaidBySigns$Hire;" ∈ wsX9_wage := List.mem_cons_of_mem _ (List.mem_append_left _ (List.mem_append_left _ (List.mem_of_getElem? (i := 0) rfl)))
theorem kk_X9_wage_1 : Cond.fieldLink RX9 101 "PaidBySigns$Hire" "least" "I" ∈ wsX9_wage := List.mem_cons_of_mem _ (List.mem_append_left _ (List.mem_append_left _ (List.mem_of_getElem? (i := 1) rfl)))
theorem kk_X9_wage_2 : Cond.fieldLink RX9 23 "PaidBySigns" "hand" "[I" ∈ wsX9_wage := List.mem_cons_of_mem _ (List.mem_append_left _ (List.mem_append_left _ (List.mem_of_getElem? (i := 2) rfl)))
theorem iw_X3_worthAt_X3 : ∀ w ∈ wsX30, w ∈ wsX3_worthAt := fun _ h => List.mem_cons_of_mem _ (List.mem_append_right _ h)
theorem iw_X9_isSign_X9 : ∀ w ∈ wsX90, w ∈ wsX9_isSign := fun _ h => List.mem_cons_of_mem _ (List.mem_append_left _ (List.mem_append_right _ h))
theorem iw_X9_isSign_X3 : ∀ w ∈ wsX30, w ∈ wsX9_isSign := fun _ h => List.mem_cons_of_mem _ (List.mem_append_right _ h)
theorem iw_X9_chance_X9 : ∀ w ∈ wsX90, w ∈ wsX9_chance := fun _ h => List.mem_cons_of_mem _ (List.mem_append_left _ (List.mem_append_right _ h))
theorem iw_X9_chance_X3 : ∀ w ∈ wsX30, w ∈ wsX9_chance := fun _ h => List.mem_cons_of_mem _ (List.mem_append_right _ h)
theorem iw_X9_feeling_X9 : ∀ w ∈ wsX90, w ∈ wsX9_feeling := fun _ h => List.mem_cons_of_mem _ (List.mem_append_left _ (List.mem_append_right _ h))
theorem iw_X9_wage_X9 : ∀ w ∈ wsX90, w ∈ wsX9_wage := fun _ h => List.mem_cons_of_mem _ (List.mem_append_left _ (List.mem_append_right _ h))
theorem iw_X9_wage_X3 : ∀ w ∈ wsX30, w ∈ wsX9_wage := fun _ h => List.mem_cons_of_mem _ (List.mem_append_right _ h)
