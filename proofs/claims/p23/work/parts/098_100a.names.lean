def tyX7 : Nat → FieldType := fun k => match k with
  | 0 => .int
  | 1 => .int
  | 2 => .int
  | 3 => .object "PaidBySigns$Hire"
  | 4 => .array .byte
  | 5 => .int
  | 6 => .int
  | 7 => .int
  | 8 => .int
  | 9 => .array .int
  | 10 => .array .int
  | 11 => .boolean
  | 12 => .boolean
  | _ => .boolean
abbrev wsX70 : List Cond := u_ws RX7 TX7 14
theorem nmX7 : ∀ a, a < 14 → ∀ b, b < 14 → a ≠ b → (TX7 a).2.1 ≠ (TX7 b).2.1 := by decide +kernel
theorem tyX7_ok : ∀ k, k < 14 → parseFieldDescriptor (TX7 k).2.2.1 = some (tyX7 k) := by decide +kernel
abbrev cX7_fail : ByteArray := prog_9_method_4_code
def yX7_fail : MethodName := ⟨RX7, "fail", "(I)Z"⟩
abbrev cX7_isNumber : ByteArray := prog_9_method_15_code
def yX7_isNumber : MethodName := ⟨RX7, "isNumber", "(II)Z"⟩
abbrev cX7_advance : ByteArray := prog_9_method_21_code
def yX7_advance : MethodName := ⟨RX7, "advance", "()V"⟩
abbrev cX7_takeRun : ByteArray := prog_9_method_22_code
def yX7_takeRun : MethodName := ⟨RX7, "takeRun", "()V"⟩
abbrev cX7_kindOf : ByteArray := prog_9_method_23_code
def yX7_kindOf : MethodName := ⟨RX7, "kindOf", "(B)I"⟩
def wsX7_kindOf : List Cond := .code yX7_kindOf cX7_kindOf 1 (some .int) :: ([])
def wsX7_takeRun : List Cond := .code yX7_takeRun cX7_takeRun 2 none :: ([.fieldLink RX7 32 "PaidBySigns$Reader" "next" "I", .fieldLink RX7 9 "PaidBySigns$Reader" "length" "I", .fieldLink RX7 28 "PaidBySigns$Reader" "text" "[B", .fieldLink RX7 35 "PaidBySigns$Reader" "token" "I", .fieldLink RX7 38 "PaidBySigns$Reader" "start" "I", .methodLink RX7 180 yX7_kindOf, .static yX7_kindOf, .initialized RX7, .code yX7_kindOf cX7_kindOf 1 (some .int)] ++ wsX70)
def wsX7_advance : List Cond := .code yX7_advance cX7_advance 1 none :: ([.fieldLink RX7 32 "PaidBySigns$Reader" "next" "I", .fieldLink RX7 9 "PaidBySigns$Reader" "length" "I", .fieldLink RX7 28 "PaidBySigns$Reader" "text" "[B", .fieldLink RX7 38 "PaidBySigns$Reader" "start" "I", .fieldLink RX7 35 "PaidBySigns$Reader" "token" "I", .methodLink RX7 180 yX7_kindOf, .static yX7_kindOf, .initialized RX7, .code yX7_kindOf cX7_kindOf 1 (some .int), .methodLink RX7 184 yX7_takeRun, .instanceMethod yX7_takeRun, .selects RX7 yX7_takeRun yX7_takeRun, .code yX7_takeRun cX7_takeRun 2 none] ++ wsX70)
def wsX7_fail : List Cond := .code yX7_fail cX7_fail 2 (some .boolean) :: ([.fieldLink RX7 15 "PaidBySigns$Reader" "faultKind" "I", .fieldLink RX7 38 "PaidBySigns$Reader" "start" "I", .fieldLink RX7 18 "PaidBySigns$Reader" "faultPlace" "I"] ++ wsX70)
def wsX7_isNumber : List Cond := .code yX7_isNumber cX7_isNumber 4 (some .boolean) :: ([.fieldLink RX7 35 "PaidBySigns$Reader" "token" "I", .fieldLink RX7 41 "PaidBySigns$Reader" "value" "I", .fieldLink RX7 38 "PaidBySigns$Reader" "start" "I", .fieldLink RX7 32 "PaidBySigns$Reader" "next" "I", .fieldLink RX7 28 "PaidBySigns$Reader" "text" "[B", .methodLink RX7 100 yX7_fail, .instanceMethod yX7_fail, .selects RX7 yX7_fail yX7_fail, .initialized RX7, .code yX7_fail cX7_fail 2 (some .boolean), .fieldLink RX7 15 "PaidBySigns$Reader" "faultKind" "I", .fieldLink RX7 18 "PaidBySigns$Reader" "faultPlace" "I"] ++ wsX70)
theorem bX7_fail_0 : ((bys cX7_fail).drop 0).take 16 = [42, 27, 181, 0, 15, 42, 42, 180, 0, 38, 181, 0, 18, 3, 172] := by decide +kernel
theorem dX7_fail_0 : decode cX7_fail 0 = .ok (.aload_n 0, 1) := do_42 (byt_at bX7_fail_0 (j := 0) rfl)
theorem dX7_fail_1 : decode cX7_fail 1 = .ok (.iload_n 1, 1) := do_27 (byt_at bX7_fail_0 (j := 1) rfl)
theorem dX7_fail_2 : decode cX7_fail 2 = .ok (.putfield 15, 3) := do_181 0 15 (byt_at bX7_fail_0 (j := 2) rfl) (byt_at bX7_fail_0 (j := 3) rfl) (byt_at bX7_fail_0 (j := 4) rfl)
theorem dX7_fail_5 : decode cX7_fail 5 = .ok (.aload_n 0, 1) := do_42 (byt_at bX7_fail_0 (j := 5) rfl)
theorem dX7_fail_6 : decode cX7_fail 6 = .ok (.aload_n 0, 1) := do_42 (byt_at bX7_fail_0 (j := 6) rfl)
theorem dX7_fail_7 : decode cX7_fail 7 = .ok (.getfield 38, 3) := do_180 0 38 (byt_at bX7_fail_0 (j := 7) rfl) (byt_at bX7_fail_0 (j := 8) rfl) (byt_at bX7_fail_0 (j := 9) rfl)
theorem dX7_fail_10 : decode cX7_fail 10 = .ok (.putfield 18, 3) := do_181 0 18 (byt_at bX7_fail_0 (j := 10) rfl) (byt_at bX7_fail_0 (j := 11) rfl) (byt_at bX7_fail_0 (j := 12) rfl)
theorem dX7_fail_13 : decode cX7_fail 13 = .ok (.iconst 0, 1) := do_3 (byt_at bX7_fail_0 (j := 13) rfl)
theorem dX7_fail_14 : decode cX7_fail 14 = .ok (.ireturn, 1) := do_172 (byt_at bX7_fail_0 (j := 14) rfl)
set_option maxRecDepth 20000 in
theorem ggX7_isNumber_X7_fail : GoodIn wsX7_isNumber wsX7_fail := goodIn_sub (List.forall_mem_cons.mpr ⟨List.mem_cons_of_mem _ (List.mem_append_left _ (List.mem_of_getElem? (i := 9) rfl)), List.forall_mem_append.mpr ⟨List.forall_mem_cons.mpr ⟨List.mem_cons_of_mem _ (List.mem_append_left _ (List.mem_of_getElem? (i := 10) rfl)), List.forall_mem_cons.mpr ⟨List.mem_cons_of_mem _ (List.mem_append_left _ (List.mem_of_getElem? (i := 2) rfl)), List.forall_mem_cons.mpr ⟨List.mem_cons_of_mem _ (List.mem_append_left _ (List.mem_of_getElem? (i := 11) rfl)), fun _ h => absurd h List.not_mem_nil⟩⟩⟩, fun _ h => List.mem_cons_of_mem _ (List.mem_append_right _ h)⟩⟩) (by decide +kernel)
set_option maxRecDepth 20000 in
theorem gX7_isNumber_X7_fail : GoodIn wsX7_isNumber (wsV RX7 100 RX7 yX7_fail wsX7_fail) := goodIn_app (goodIn_sub (List.forall_mem_cons.mpr ⟨List.mem_cons_of_mem _ (List.mem_append_left _ (List.mem_of_getElem? (i := 5) rfl)), List.forall_mem_cons.mpr ⟨List.mem_cons_of_mem _ (List.mem_append_left _ (List.mem_of_getElem? (i := 6) rfl)), List.forall_mem_cons.mpr ⟨List.mem_cons_of_mem _ (List.mem_append_left _ (List.mem_of_getElem? (i := 7) rfl)), List.forall_mem_cons.mpr ⟨List.mem_cons_of_mem _ (List.mem_append_left _ (List.mem_of_getElem? (i := 8) rfl)), fun _ h => absurd h List.not_mem_nil⟩⟩⟩⟩) (by decide +kernel)) ggX7_isNumber_X7_fail
theorem bX7_isNumber_0 : ((bys cX7_isNumber).drop 0).take 16 = [42, 180, 0, 35, 5, 159, 0, 9, 42, 4, 182, 0, 100, 172, 42, 3] := by decide +kernel
theorem dX7_isNumber_0 : decode cX7_isNumber 0 = .ok (.aload_n 0, 1) := do_42 (byt_at bX7_isNumber_0 (j := 0) rfl)
theorem dX7_isNumber_1 : decode cX7_isNumber 1 = .ok (.getfield 35, 3) := do_180 0 35 (byt_at bX7_isNumber_0 (j := 1) rfl) (byt_at bX7_isNumber_0 (j := 2) rfl) (byt_at bX7_isNumber_0 (j := 3) rfl)
theorem dX7_isNumber_4 : decode cX7_isNumber 4 = .ok (.iconst 2, 1) := do_5 (byt_at bX7_isNumber_0 (j := 4) rfl)
theorem dX7_isNumber_5 : decode cX7_isNumber 5 = .ok (.if_icmp .eq 9, 3) := do_159 0 9 (byt_at bX7_isNumber_0 (j := 5) rfl) (byt_at bX7_isNumber_0 (j := 6) rfl) (byt_at bX7_isNumber_0 (j := 7) rfl) (by decide)
theorem dX7_isNumber_8 : decode cX7_isNumber 8 = .ok (.aload_n 0, 1) := do_42 (byt_at bX7_isNumber_0 (j := 8) rfl)
theorem dX7_isNumber_9 : decode cX7_isNumber 9 = .ok (.iconst 1, 1) := do_4 (byt_at bX7_isNumber_0 (j := 9) rfl)
theorem dX7_isNumber_10 : decode cX7_isNumber 10 = .ok (.invokevirtual 100, 3) := do_182 0 100 (byt_at bX7_isNumber_0 (j := 10) rfl) (byt_at bX7_isNumber_0 (j := 11) rfl) (byt_at bX7_isNumber_0 (j := 12) rfl)
theorem dX7_isNumber_13 : decode cX7_isNumber 13 = .ok (.ireturn, 1) := do_172 (byt_at bX7_isNumber_0 (j := 13) rfl)
theorem dX7_isNumber_14 : decode cX7_isNumber 14 = .ok (.aload_n 0, 1) := do_42 (byt_at bX7_isNumber_0 (j := 14) rfl)
theorem dX7_isNumber_15 : decode cX7_isNumber 15 = .ok (.iconst 0, 1) := do_3 (byt_at bX7_isNumber_0 (j := 15) rfl)
theorem bX7_isNumber_1 : ((bys cX7_isNumber).drop 16).take 16 = [181, 0, 41, 42, 180, 0, 38, 62, 29, 42, 180, 0, 32, 162, 0, 30] := by decide +kernel
theorem dX7_isNumber_16 : decode cX7_isNumber 16 = .ok (.putfield 41, 3) := do_181 0 41 (byt_at bX7_isNumber_1 (j := 0) rfl) (byt_at bX7_isNumber_1 (j := 1) rfl) (byt_at bX7_isNumber_1 (j := 2) rfl)
theorem dX7_isNumber_19 : decode cX7_isNumber 19 = .ok (.aload_n 0, 1) := do_42 (byt_at bX7_isNumber_1 (j := 3) rfl)
theorem dX7_isNumber_20 : decode cX7_isNumber 20 = .ok (.getfield 38, 3) := do_180 0 38 (byt_at bX7_isNumber_1 (j := 4) rfl) (byt_at bX7_isNumber_1 (j := 5) rfl) (byt_at bX7_isNumber_1 (j := 6) rfl)
theorem dX7_isNumber_23 : decode cX7_isNumber 23 = .ok (.istore_n 3, 1) := do_62 (byt_at bX7_isNumber_1 (j := 7) rfl)
theorem dX7_isNumber_24 : decode cX7_isNumber 24 = .ok (.iload_n 3, 1) := do_29 (byt_at bX7_isNumber_1 (j := 8) rfl)
theorem dX7_isNumber_25 : decode cX7_isNumber 25 = .ok (.aload_n 0, 1) := do_42 (byt_at bX7_isNumber_1 (j := 9) rfl)
theorem dX7_isNumber_26 : decode cX7_isNumber 26 = .ok (.getfield 32, 3) := do_180 0 32 (byt_at bX7_isNumber_1 (j := 10) rfl) (byt_at bX7_isNumber_1 (j := 11) rfl) (byt_at bX7_isNumber_1 (j := 12) rfl)
theorem dX7_isNumber_29 : decode cX7_isNumber 29 = .ok (.if_icmp .ge 30, 3) := do_162 0 30 (byt_at bX7_isNumber_1 (j := 13) rfl) (byt_at bX7_isNumber_1 (j := 14) rfl) (byt_at bX7_isNumber_1 (j := 15) rfl) (by decide)
theorem bX7_isNumber_2 : ((bys cX7_isNumber).drop 32).take 16 = [42, 42, 180, 0, 41, 16, 10, 104, 42, 180, 0, 28, 29, 51, 96, 16] := by decide +kernel
theorem dX7_isNumber_32 : decode cX7_isNumber 32 = .ok (.aload_n 0, 1) := do_42 (byt_at bX7_isNumber_2 (j := 0) rfl)
theorem dX7_isNumber_33 : decode cX7_isNumber 33 = .ok (.aload_n 0, 1) := do_42 (byt_at bX7_isNumber_2 (j := 1) rfl)
theorem dX7_isNumber_34 : decode cX7_isNumber 34 = .ok (.getfield 41, 3) := do_180 0 41 (byt_at bX7_isNumber_2 (j := 2) rfl) (byt_at bX7_isNumber_2 (j := 3) rfl) (byt_at bX7_isNumber_2 (j := 4) rfl)
theorem dX7_isNumber_37 : decode cX7_isNumber 37 = .ok (.bipush 10, 2) := do_16 10 (byt_at bX7_isNumber_2 (j := 5) rfl) (byt_at bX7_isNumber_2 (j := 6) rfl) (by decide)
theorem dX7_isNumber_39 : decode cX7_isNumber 39 = .ok (.imul, 1) := do_104 (byt_at bX7_isNumber_2 (j := 7) rfl)
theorem dX7_isNumber_40 : decode cX7_isNumber 40 = .ok (.aload_n 0, 1) := do_42 (byt_at bX7_isNumber_2 (j := 8) rfl)
theorem dX7_isNumber_41 : decode cX7_isNumber 41 = .ok (.getfield 28, 3) := do_180 0 28 (byt_at bX7_isNumber_2 (j := 9) rfl) (byt_at bX7_isNumber_2 (j := 10) rfl) (byt_at bX7_isNumber_2 (j := 11) rfl)
theorem dX7_isNumber_44 : decode cX7_isNumber 44 = .ok (.iload_n 3, 1) := do_29 (byt_at bX7_isNumber_2 (j := 12) rfl)
theorem dX7_isNumber_45 : decode cX7_isNumber 45 = .ok (.baload, 1) := do_51 (byt_at bX7_isNumber_2 (j := 13) rfl)
theorem dX7_isNumber_46 : decode cX7_isNumber 46 = .ok (.iadd, 1) := do_96 (byt_at bX7_isNumber_2 (j := 14) rfl)
theorem bX7_isNumber_3 : ((bys cX7_isNumber).drop 48).take 16 = [48, 100, 181, 0, 41, 132, 3, 1, 167, 255, 224, 42, 180, 0, 41, 27] := by decide +kernel
theorem dX7_isNumber_47 : decode cX7_isNumber 47 = .ok (.bipush 48, 2) := do_16 48 (byt_at bX7_isNumber_2 (j := 15) rfl) (byt_at bX7_isNumber_3 (j := 0) rfl) (by decide)
theorem dX7_isNumber_49 : decode cX7_isNumber 49 = .ok (.isub, 1) := do_100 (byt_at bX7_isNumber_3 (j := 1) rfl)
theorem dX7_isNumber_50 : decode cX7_isNumber 50 = .ok (.putfield 41, 3) := do_181 0 41 (byt_at bX7_isNumber_3 (j := 2) rfl) (byt_at bX7_isNumber_3 (j := 3) rfl) (byt_at bX7_isNumber_3 (j := 4) rfl)
theorem dX7_isNumber_53 : decode cX7_isNumber 53 = .ok (.iinc 3 1, 3) := do_132 3 1 (byt_at bX7_isNumber_3 (j := 5) rfl) (byt_at bX7_isNumber_3 (j := 6) rfl) (byt_at bX7_isNumber_3 (j := 7) rfl) (by decide)
theorem dX7_isNumber_56 : decode cX7_isNumber 56 = .ok (.goto (-32), 3) := do_167 255 224 (byt_at bX7_isNumber_3 (j := 8) rfl) (byt_at bX7_isNumber_3 (j := 9) rfl) (byt_at bX7_isNumber_3 (j := 10) rfl) (by decide)
theorem dX7_isNumber_59 : decode cX7_isNumber 59 = .ok (.aload_n 0, 1) := do_42 (byt_at bX7_isNumber_3 (j := 11) rfl)
theorem dX7_isNumber_60 : decode cX7_isNumber 60 = .ok (.getfield 41, 3) := do_180 0 41 (byt_at bX7_isNumber_3 (j := 12) rfl) (byt_at bX7_isNumber_3 (j := 13) rfl) (byt_at bX7_isNumber_3 (j := 14) rfl)
theorem dX7_isNumber_63 : decode cX7_isNumber 63 = .ok (.iload_n 1, 1) := do_27 (byt_at bX7_isNumber_3 (j := 15) rfl)
theorem bX7_isNumber_4 : ((bys cX7_isNumber).drop 64).take 16 = [161, 0, 11, 42, 180, 0, 41, 28, 164, 0, 11, 42, 5, 182, 0, 100] := by decide +kernel
theorem dX7_isNumber_64 : decode cX7_isNumber 64 = .ok (.if_icmp .lt 11, 3) := do_161 0 11 (byt_at bX7_isNumber_4 (j := 0) rfl) (byt_at bX7_isNumber_4 (j := 1) rfl) (byt_at bX7_isNumber_4 (j := 2) rfl) (by decide)
theorem dX7_isNumber_67 : decode cX7_isNumber 67 = .ok (.aload_n 0, 1) := do_42 (byt_at bX7_isNumber_4 (j := 3) rfl)
theorem dX7_isNumber_68 : decode cX7_isNumber 68 = .ok (.getfield 41, 3) := do_180 0 41 (byt_at bX7_isNumber_4 (j := 4) rfl) (byt_at bX7_isNumber_4 (j := 5) rfl) (byt_at bX7_isNumber_4 (j := 6) rfl)
theorem dX7_isNumber_71 : decode cX7_isNumber 71 = .ok (.iload_n 2, 1) := do_28 (byt_at bX7_isNumber_4 (j := 7) rfl)
theorem dX7_isNumber_72 : decode cX7_isNumber 72 = .ok (.if_icmp .le 11, 3) := do_164 0 11 (byt_at bX7_isNumber_4 (j := 8) rfl) (byt_at bX7_isNumber_4 (j := 9) rfl) (byt_at bX7_isNumber_4 (j := 10) rfl) (by decide)
theorem dX7_isNumber_75 : decode cX7_isNumber 75 = .ok (.aload_n 0, 1) := do_42 (byt_at bX7_isNumber_4 (j := 11) rfl)
theorem dX7_isNumber_76 : decode cX7_isNumber 76 = .ok (.iconst 2, 1) := do_5 (byt_at bX7_isNumber_4 (j := 12) rfl)
theorem dX7_isNumber_77 : decode cX7_isNumber 77 = .ok (.invokevirtual 100, 3) := do_182 0 100 (byt_at bX7_isNumber_4 (j := 13) rfl) (byt_at bX7_isNumber_4 (j := 14) rfl) (byt_at bX7_isNumber_4 (j := 15) rfl)
theorem bX7_isNumber_5 : ((bys cX7_isNumber).drop 80).take 16 = [153, 0, 7, 4, 167, 0, 4, 3, 172] := by decide +kernel
theorem dX7_isNumber_80 : decode cX7_isNumber 80 = .ok (.ifCond .eq 7, 3) := do_153 0 7 (byt_at bX7_isNumber_5 (j := 0) rfl) (byt_at bX7_isNumber_5 (j := 1) rfl) (byt_at bX7_isNumber_5 (j := 2) rfl) (by decide)
theorem dX7_isNumber_83 : decode cX7_isNumber 83 = .ok (.iconst 1, 1) := do_4 (byt_at bX7_isNumber_5 (j := 3) rfl)
theorem dX7_isNumber_84 : decode cX7_isNumber 84 = .ok (.goto 4, 3) := do_167 0 4 (byt_at bX7_isNumber_5 (j := 4) rfl) (byt_at bX7_isNumber_5 (j := 5) rfl) (byt_at bX7_isNumber_5 (j := 6) rfl) (by decide)
theorem dX7_isNumber_87 : decode cX7_isNumber 87 = .ok (.iconst 0, 1) := do_3 (byt_at bX7_isNumber_5 (j := 7) rfl)
theorem dX7_isNumber_88 : decode cX7_isNumber 88 = .ok (.ireturn, 1) := do_172 (byt_at bX7_isNumber_5 (j := 8) rfl)
set_option maxRecDepth 20000 in
theorem ggX7_advance_X7_kindOf : GoodIn wsX7_advance wsX7_kindOf := goodIn_sub (List.forall_mem_cons.mpr ⟨List.mem_cons_of_mem _ (List.mem_append_left _ (List.mem_of_getElem? (i := 8) rfl)), fun _ h => absurd h List.not_mem_nil⟩) (by decide +kernel)
set_option maxRecDepth 20000 in
theorem gX7_advance_X7_kindOf : GoodIn wsX7_advance (va_wsS RX7 180 yX7_kindOf wsX7_kindOf) := goodIn_app (goodIn_sub (List.forall_mem_cons.mpr ⟨List.mem_cons_of_mem _ (List.mem_append_left _ (List.mem_of_getElem? (i := 5) rfl)), List.forall_mem_cons.mpr ⟨List.mem_cons_of_mem _ (List.mem_append_left _ (List.mem_of_getElem? (i := 6) rfl)), List.forall_mem_cons.mpr ⟨List.mem_cons_of_mem _ (List.mem_append_left _ (List.mem_of_getElem? (i := 7) rfl)), fun _ h => absurd h List.not_mem_nil⟩⟩⟩) (by decide +kernel)) ggX7_advance_X7_kindOf
set_option maxRecDepth 20000 in
theorem ggX7_advance_X7_takeRun : GoodIn wsX7_advance wsX7_takeRun := goodIn_sub (List.forall_mem_cons.mpr ⟨List.mem_cons_of_mem _ (List.mem_append_left _ (List.mem_of_getElem? (i := 12) rfl)), List.forall_mem_append.mpr ⟨List.forall_mem_cons.mpr ⟨List.mem_cons_of_mem _ (List.mem_append_left _ (List.mem_of_getElem? (i := 0) rfl)), List.forall_mem_cons.mpr ⟨List.mem_cons_of_mem _ (List.mem_append_left _ (List.mem_of_getElem? (i := 1) rfl)), List.forall_mem_cons.mpr ⟨List.mem_cons_of_mem _ (List.mem_append_left _ (List.mem_of_getElem? (i := 2) rfl)), List.forall_mem_cons.mpr ⟨List.mem_cons_of_mem _ (List.mem_append_left _ (List.mem_of_getElem? (i := 4) rfl)), List.forall_mem_cons.mpr ⟨List.mem_cons_of_mem _ (List.mem_append_left _ (List.mem_of_getElem? (i := 3) rfl)), List.forall_mem_cons.mpr ⟨List.mem_cons_of_mem _ (List.mem_append_left _ (List.mem_of_getElem? (i := 5) rfl)), List.forall_mem_cons.mpr ⟨List.mem_cons_of_mem _ (List.mem_append_left _ (List.mem_of_getElem? (i := 6) rfl)), List.forall_mem_cons.mpr ⟨List.mem_cons_of_mem _ (List.mem_append_left _ (List.mem_of_getElem? (i := 7) rfl)), List.forall_mem_cons.mpr ⟨List.mem_cons_of_mem _ (List.mem_append_left _ (List.mem_of_getElem? (i := 8) rfl)), fun _ h => absurd h List.not_mem_nil⟩⟩⟩⟩⟩⟩⟩⟩⟩, fun _ h => List.mem_cons_of_mem _ (List.mem_append_right _ h)⟩⟩) (by decide +kernel)
set_option maxRecDepth 20000 in
theorem gX7_advance_X7_takeRun : GoodIn wsX7_advance (wsV RX7 184 RX7 yX7_takeRun wsX7_takeRun) := goodIn_app (goodIn_sub (List.forall_mem_cons.mpr ⟨List.mem_cons_of_mem _ (List.mem_append_left _ (List.mem_of_getElem? (i := 9) rfl)), List.forall_mem_cons.mpr ⟨List.mem_cons_of_mem _ (List.mem_append_left _ (List.mem_of_getElem? (i := 10) rfl)), List.forall_mem_cons.mpr ⟨List.mem_cons_of_mem _ (List.mem_append_left _ (List.mem_of_getElem? (i := 11) rfl)), List.forall_mem_cons.mpr ⟨List.mem_cons_of_mem _ (List.mem_append_left _ (List.mem_of_getElem? (i := 7) rfl)), fun _ h => absurd h List.not_mem_nil⟩⟩⟩⟩) (by decide +kernel)) ggX7_advance_X7_takeRun
theorem bX7_advance_0 : ((bys cX7_advance).drop 0).take 16 = [42, 180, 0, 32, 42, 180, 0, 9, 162, 0, 32, 42, 180, 0, 28, 42] := by decide +kernel
theorem dX7_advance_0 : decode cX7_advance 0 = .ok (.aload_n 0, 1) := do_42 (byt_at bX7_advance_0 (j := 0) rfl)
theorem dX7_advance_1 : decode cX7_advance 1 = .ok (.getfield 32, 3) := do_180 0 32 (byt_at bX7_advance_0 (j := 1) rfl) (byt_at bX7_advance_0 (j := 2) rfl) (byt_at bX7_advance_0 (j := 3) rfl)
theorem dX7_advance_4 : decode cX7_advance 4 = .ok (.aload_n 0, 1) := do_42 (byt_at bX7_advance_0 (j := 4) rfl)
theorem dX7_advance_5 : decode cX7_advance 5 = .ok (.getfield 9, 3) := do_180 0 9 (byt_at bX7_advance_0 (j := 5) rfl) (byt_at bX7_advance_0 (j := 6) rfl) (byt_at bX7_advance_0 (j := 7) rfl)
theorem dX7_advance_8 : decode cX7_advance 8 = .ok (.if_icmp .ge 32, 3) := do_162 0 32 (byt_at bX7_advance_0 (j := 8) rfl) (byt_at bX7_advance_0 (j := 9) rfl) (byt_at bX7_advance_0 (j := 10) rfl) (by decide)
theorem dX7_advance_11 : decode cX7_advance 11 = .ok (.aload_n 0, 1) := do_42 (byt_at bX7_advance_0 (j := 11) rfl)
theorem dX7_advance_12 : decode cX7_advance 12 = .ok (.getfield 28, 3) := do_180 0 28 (byt_at bX7_advance_0 (j := 12) rfl) (byt_at bX7_advance_0 (j := 13) rfl) (byt_at bX7_advance_0 (j := 14) rfl)
theorem dX7_advance_15 : decode cX7_advance 15 = .ok (.aload_n 0, 1) := do_42 (byt_at bX7_advance_0 (j := 15) rfl)
theorem bX7_advance_1 : ((bys cX7_advance).drop 16).take 16 = [180, 0, 32, 51, 184, 0, 180, 8, 160, 0, 16, 42, 89, 180, 0, 32] := by decide +kernel
theorem dX7_advance_16 : decode cX7_advance 16 = .ok (.getfield 32, 3) := do_180 0 32 (byt_at bX7_advance_1 (j := 0) rfl) (byt_at bX7_advance_1 (j := 1) rfl) (byt_at bX7_advance_1 (j := 2) rfl)
theorem dX7_advance_19 : decode cX7_advance 19 = .ok (.baload, 1) := do_51 (byt_at bX7_advance_1 (j := 3) rfl)
theorem dX7_advance_20 : decode cX7_advance 20 = .ok (.invokestatic 180, 3) := do_184 0 180 (byt_at bX7_advance_1 (j := 4) rfl) (byt_at bX7_advance_1 (j := 5) rfl) (byt_at bX7_advance_1 (j := 6) rfl)
theorem dX7_advance_23 : decode cX7_advance 23 = .ok (.iconst 5, 1) := do_8 (byt_at bX7_advance_1 (j := 7) rfl)
theorem dX7_advance_24 : decode cX7_advance 24 = .ok (.if_icmp .ne 16, 3) := do_160 0 16 (byt_at bX7_advance_1 (j := 8) rfl) (byt_at bX7_advance_1 (j := 9) rfl) (byt_at bX7_advance_1 (j := 10) rfl) (by decide)
theorem dX7_advance_27 : decode cX7_advance 27 = .ok (.aload_n 0, 1) := do_42 (byt_at bX7_advance_1 (j := 11) rfl)
theorem dX7_advance_28 : decode cX7_advance 28 = .ok (.dup, 1) := do_89 (byt_at bX7_advance_1 (j := 12) rfl)
theorem dX7_advance_29 : decode cX7_advance 29 = .ok (.getfield 32, 3) := do_180 0 32 (byt_at bX7_advance_1 (j := 13) rfl) (byt_at bX7_advance_1 (j := 14) rfl) (byt_at bX7_advance_1 (j := 15) rfl)
theorem bX7_advance_2 : ((bys cX7_advance).drop 32).take 16 = [4, 96, 181, 0, 32, 167, 255, 219, 42, 42, 180, 0, 32, 181, 0, 38] := by decide +kernel
theorem dX7_advance_32 : decode cX7_advance 32 = .ok (.iconst 1, 1) := do_4 (byt_at bX7_advance_2 (j := 0) rfl)
theorem dX7_advance_33 : decode cX7_advance 33 = .ok (.iadd, 1) := do_96 (byt_at bX7_advance_2 (j := 1) rfl)
theorem dX7_advance_34 : decode cX7_advance 34 = .ok (.putfield 32, 3) := do_181 0 32 (byt_at bX7_advance_2 (j := 2) rfl) (byt_at bX7_advance_2 (j := 3) rfl) (byt_at bX7_advance_2 (j := 4) rfl)
theorem dX7_advance_37 : decode cX7_advance 37 = .ok (.goto (-37), 3) := do_167 255 219 (byt_at bX7_advance_2 (j := 5) rfl) (byt_at bX7_advance_2 (j := 6) rfl) (byt_at bX7_advance_2 (j := 7) rfl) (by decide)
theorem dX7_advance_40 : decode cX7_advance 40 = .ok (.aload_n 0, 1) := do_42 (byt_at bX7_advance_2 (j := 8) rfl)
theorem dX7_advance_41 : decode cX7_advance 41 = .ok (.aload_n 0, 1) := do_42 (byt_at bX7_advance_2 (j := 9) rfl)
theorem dX7_advance_42 : decode cX7_advance 42 = .ok (.getfield 32, 3) := do_180 0 32 (byt_at bX7_advance_2 (j := 10) rfl) (byt_at bX7_advance_2 (j := 11) rfl) (byt_at bX7_advance_2 (j := 12) rfl)
theorem dX7_advance_45 : decode cX7_advance 45 = .ok (.putfield 38, 3) := do_181 0 38 (byt_at bX7_advance_2 (j := 13) rfl) (byt_at bX7_advance_2 (j := 14) rfl) (byt_at bX7_advance_2 (j := 15) rfl)
theorem bX7_advance_3 : ((bys cX7_advance).drop 48).take 16 = [42, 180, 0, 32, 42, 180, 0, 9, 161, 0, 9, 42, 3, 181, 0, 35] := by decide +kernel
theorem dX7_advance_48 : decode cX7_advance 48 = .ok (.aload_n 0, 1) := do_42 (byt_at bX7_advance_3 (j := 0) rfl)
theorem dX7_advance_49 : decode cX7_advance 49 = .ok (.getfield 32, 3) := do_180 0 32 (byt_at bX7_advance_3 (j := 1) rfl) (byt_at bX7_advance_3 (j := 2) rfl) (byt_at bX7_advance_3 (j := 3) rfl)
theorem dX7_advance_52 : decode cX7_advance 52 = .ok (.aload_n 0, 1) := do_42 (byt_at bX7_advance_3 (j := 4) rfl)
theorem dX7_advance_53 : decode cX7_advance 53 = .ok (.getfield 9, 3) := do_180 0 9 (byt_at bX7_advance_3 (j := 5) rfl) (byt_at bX7_advance_3 (j := 6) rfl) (byt_at bX7_advance_3 (j := 7) rfl)
theorem dX7_advance_56 : decode cX7_advance 56 = .ok (.if_icmp .lt 9, 3) := do_161 0 9 (byt_at bX7_advance_3 (j := 8) rfl) (byt_at bX7_advance_3 (j := 9) rfl) (byt_at bX7_advance_3 (j := 10) rfl) (by decide)
theorem dX7_advance_59 : decode cX7_advance 59 = .ok (.aload_n 0, 1) := do_42 (byt_at bX7_advance_3 (j := 11) rfl)
theorem dX7_advance_60 : decode cX7_advance 60 = .ok (.iconst 0, 1) := do_3 (byt_at bX7_advance_3 (j := 12) rfl)
theorem dX7_advance_61 : decode cX7_advance 61 = .ok (.putfield 35, 3) := do_181 0 35 (byt_at bX7_advance_3 (j := 13) rfl) (byt_at bX7_advance_3 (j := 14) rfl) (byt_at bX7_advance_3 (j := 15) rfl)
theorem bX7_advance_4 : ((bys cX7_advance).drop 64).take 16 = [177, 42, 42, 180, 0, 28, 42, 180, 0, 32, 51, 184, 0, 180, 181, 0] := by decide +kernel
theorem dX7_advance_64 : decode cX7_advance 64 = .ok (.return_, 1) := do_177 (byt_at bX7_advance_4 (j := 0) rfl)
theorem dX7_advance_65 : decode cX7_advance 65 = .ok (.aload_n 0, 1) := do_42 (byt_at bX7_advance_4 (j := 1) rfl)
theorem dX7_advance_66 : decode cX7_advance 66 = .ok (.aload_n 0, 1) := do_42 (byt_at bX7_advance_4 (j := 2) rfl)
theorem dX7_advance_67 : decode cX7_advance 67 = .ok (.getfield 28, 3) := do_180 0 28 (byt_at bX7_advance_4 (j := 3) rfl) (byt_at bX7_advance_4 (j := 4) rfl) (byt_at bX7_advance_4 (j := 5) rfl)
theorem dX7_advance_70 : decode cX7_advance 70 = .ok (.aload_n 0, 1) := do_42 (byt_at bX7_advance_4 (j := 6) rfl)
theorem dX7_advance_71 : decode cX7_advance 71 = .ok (.getfield 32, 3) := do_180 0 32 (byt_at bX7_advance_4 (j := 7) rfl) (byt_at bX7_advance_4 (j := 8) rfl) (byt_at bX7_advance_4 (j := 9) rfl)
theorem dX7_advance_74 : decode cX7_advance 74 = .ok (.baload, 1) := do_51 (byt_at bX7_advance_4 (j := 10) rfl)
theorem dX7_advance_75 : decode cX7_advance 75 = .ok (.invokestatic 180, 3) := do_184 0 180 (byt_at bX7_advance_4 (j := 11) rfl) (byt_at bX7_advance_4 (j := 12) rfl) (byt_at bX7_advance_4 (j := 13) rfl)
theorem bX7_advance_5 : ((bys cX7_advance).drop 80).take 16 = [35, 42, 89, 180, 0, 32, 4, 96, 181, 0, 32, 42, 180, 0, 35, 4] := by decide +kernel
theorem dX7_advance_78 : decode cX7_advance 78 = .ok (.putfield 35, 3) := do_181 0 35 (byt_at bX7_advance_4 (j := 14) rfl) (byt_at bX7_advance_4 (j := 15) rfl) (byt_at bX7_advance_5 (j := 0) rfl)
theorem dX7_advance_81 : decode cX7_advance 81 = .ok (.aload_n 0, 1) := do_42 (byt_at bX7_advance_5 (j := 1) rfl)
theorem dX7_advance_82 : decode cX7_advance 82 = .ok (.dup, 1) := do_89 (byt_at bX7_advance_5 (j := 2) rfl)
theorem dX7_advance_83 : decode cX7_advance 83 = .ok (.getfield 32, 3) := do_180 0 32 (byt_at bX7_advance_5 (j := 3) rfl) (byt_at bX7_advance_5 (j := 4) rfl) (byt_at bX7_advance_5 (j := 5) rfl)
theorem dX7_advance_86 : decode cX7_advance 86 = .ok (.iconst 1, 1) := do_4 (byt_at bX7_advance_5 (j := 6) rfl)
theorem dX7_advance_87 : decode cX7_advance 87 = .ok (.iadd, 1) := do_96 (byt_at bX7_advance_5 (j := 7) rfl)
theorem dX7_advance_88 : decode cX7_advance 88 = .ok (.putfield 32, 3) := do_181 0 32 (byt_at bX7_advance_5 (j := 8) rfl) (byt_at bX7_advance_5 (j := 9) rfl) (byt_at bX7_advance_5 (j := 10) rfl)
theorem dX7_advance_91 : decode cX7_advance 91 = .ok (.aload_n 0, 1) := do_42 (byt_at bX7_advance_5 (j := 11) rfl)
theorem dX7_advance_92 : decode cX7_advance 92 = .ok (.getfield 35, 3) := do_180 0 35 (byt_at bX7_advance_5 (j := 12) rfl) (byt_at bX7_advance_5 (j := 13) rfl) (byt_at bX7_advance_5 (j := 14) rfl)
theorem dX7_advance_95 : decode cX7_advance 95 = .ok (.iconst 1, 1) := do_4 (byt_at bX7_advance_5 (j := 15) rfl)
theorem bX7_advance_6 : ((bys cX7_advance).drop 96).take 16 = [159, 0, 11, 42, 180, 0, 35, 5, 160, 0, 7, 42, 182, 0, 184, 177] := by decide +kernel
theorem dX7_advance_96 : decode cX7_advance 96 = .ok (.if_icmp .eq 11, 3) := do_159 0 11 (byt_at bX7_advance_6 (j := 0) rfl) (byt_at bX7_advance_6 (j := 1) rfl) (byt_at bX7_advance_6 (j := 2) rfl) (by decide)
theorem dX7_advance_99 : decode cX7_advance 99 = .ok (.aload_n 0, 1) := do_42 (byt_at bX7_advance_6 (j := 3) rfl)
theorem dX7_advance_100 : decode cX7_advance 100 = .ok (.getfield 35, 3) := do_180 0 35 (byt_at bX7_advance_6 (j := 4) rfl) (byt_at bX7_advance_6 (j := 5) rfl) (byt_at bX7_advance_6 (j := 6) rfl)
theorem dX7_advance_103 : decode cX7_advance 103 = .ok (.iconst 2, 1) := do_5 (byt_at bX7_advance_6 (j := 7) rfl)
theorem dX7_advance_104 : decode cX7_advance 104 = .ok (.if_icmp .ne 7, 3) := do_160 0 7 (byt_at bX7_advance_6 (j := 8) rfl) (byt_at bX7_advance_6 (j := 9) rfl) (byt_at bX7_advance_6 (j := 10) rfl) (by decide)
theorem dX7_advance_107 : decode cX7_advance 107 = .ok (.aload_n 0, 1) := do_42 (byt_at bX7_advance_6 (j := 11) rfl)
theorem dX7_advance_108 : decode cX7_advance 108 = .ok (.invokevirtual 184, 3) := do_182 0 184 (byt_at bX7_advance_6 (j := 12) rfl) (byt_at bX7_advance_6 (j := 13) rfl) (byt_at bX7_advance_6 (j := 14) rfl)
theorem dX7_advance_111 : decode cX7_advance 111 = .ok (.return_, 1) := do_177 (byt_at bX7_advance_6 (j := 15) rfl)
set_option maxRecDepth 20000 in
theorem ggX7_takeRun_X7_kindOf : GoodIn wsX7_takeRun wsX7_kindOf := goodIn_sub (List.forall_mem_cons.mpr ⟨List.mem_cons_of_mem _ (List.mem_append_left _ (List.mem_of_getElem? (i := 8) rfl)), fun _ h => absurd h List.not_mem_nil⟩) (by decide +kernel)
set_option maxRecDepth 20000 in
theorem gX7_takeRun_X7_kindOf : GoodIn wsX7_takeRun (va_wsS RX7 180 yX7_kindOf wsX7_kindOf) := goodIn_app (goodIn_sub (List.forall_mem_cons.mpr ⟨List.mem_cons_of_mem _ (List.mem_append_left _ (List.mem_of_getElem? (i := 5) rfl)), List.forall_mem_cons.mpr ⟨List.mem_cons_of_mem _ (List.mem_append_left _ (List.mem_of_getElem? (i := 6) rfl)), List.forall_mem_cons.mpr ⟨List.mem_cons_of_mem _ (List.mem_append_left _ (List.mem_of_getElem? (i := 7) rfl)), fun _ h => absurd h List.not_mem_nil⟩⟩⟩) (by decide +kernel)) ggX7_takeRun_X7_kindOf
theorem bX7_takeRun_0 : ((bys cX7_takeRun).drop 0).take 16 = [42, 180, 0, 32, 42, 180, 0, 9, 162, 0, 35, 42, 180, 0, 28, 42] := by decide +kernel
theorem dX7_takeRun_0 : decode cX7_takeRun 0 = .ok (.aload_n 0, 1) := do_42 (byt_at bX7_takeRun_0 (j := 0) rfl)
theorem dX7_takeRun_1 : decode cX7_takeRun 1 = .ok (.getfield 32, 3) := do_180 0 32 (byt_at bX7_takeRun_0 (j := 1) rfl) (byt_at bX7_takeRun_0 (j := 2) rfl) (byt_at bX7_takeRun_0 (j := 3) rfl)
theorem dX7_takeRun_4 : decode cX7_takeRun 4 = .ok (.aload_n 0, 1) := do_42 (byt_at bX7_takeRun_0 (j := 4) rfl)
theorem dX7_takeRun_5 : decode cX7_takeRun 5 = .ok (.getfield 9, 3) := do_180 0 9 (byt_at bX7_takeRun_0 (j := 5) rfl) (byt_at bX7_takeRun_0 (j := 6) rfl) (byt_at bX7_takeRun_0 (j := 7) rfl)
theorem dX7_takeRun_8 : decode cX7_takeRun 8 = .ok (.if_icmp .ge 35, 3) := do_162 0 35 (byt_at bX7_takeRun_0 (j := 8) rfl) (byt_at bX7_takeRun_0 (j := 9) rfl) (byt_at bX7_takeRun_0 (j := 10) rfl) (by decide)
theorem dX7_takeRun_11 : decode cX7_takeRun 11 = .ok (.aload_n 0, 1) := do_42 (byt_at bX7_takeRun_0 (j := 11) rfl)
theorem dX7_takeRun_12 : decode cX7_takeRun 12 = .ok (.getfield 28, 3) := do_180 0 28 (byt_at bX7_takeRun_0 (j := 12) rfl) (byt_at bX7_takeRun_0 (j := 13) rfl) (byt_at bX7_takeRun_0 (j := 14) rfl)
theorem dX7_takeRun_15 : decode cX7_takeRun 15 = .ok (.aload_n 0, 1) := do_42 (byt_at bX7_takeRun_0 (j := 15) rfl)
theorem bX7_takeRun_1 : ((bys cX7_takeRun).drop 16).take 16 = [180, 0, 32, 51, 184, 0, 180, 42, 180, 0, 35, 160, 0, 16, 42, 89] := by decide +kernel
theorem dX7_takeRun_16 : decode cX7_takeRun 16 = .ok (.getfield 32, 3) := do_180 0 32 (byt_at bX7_takeRun_1 (j := 0) rfl) (byt_at bX7_takeRun_1 (j := 1) rfl) (byt_at bX7_takeRun_1 (j := 2) rfl)
theorem dX7_takeRun_19 : decode cX7_takeRun 19 = .ok (.baload, 1) := do_51 (byt_at bX7_takeRun_1 (j := 3) rfl)
theorem dX7_takeRun_20 : decode cX7_takeRun 20 = .ok (.invokestatic 180, 3) := do_184 0 180 (byt_at bX7_takeRun_1 (j := 4) rfl) (byt_at bX7_takeRun_1 (j := 5) rfl) (byt_at bX7_takeRun_1 (j := 6) rfl)
theorem dX7_takeRun_23 : decode cX7_takeRun 23 = .ok (.aload_n 0, 1) := do_42 (byt_at bX7_takeRun_1 (j := 7) rfl)
theorem dX7_takeRun_24 : decode cX7_takeRun 24 = .ok (.getfield 35, 3) := do_180 0 35 (byt_at bX7_takeRun_1 (j := 8) rfl) (byt_at bX7_takeRun_1 (j := 9) rfl) (byt_at bX7_takeRun_1 (j := 10) rfl)
theorem dX7_takeRun_27 : decode cX7_takeRun 27 = .ok (.if_icmp .ne 16, 3) := do_160 0 16 (byt_at bX7_takeRun_1 (j := 11) rfl) (byt_at bX7_takeRun_1 (j := 12) rfl) (byt_at bX7_takeRun_1 (j := 13) rfl) (by decide)
theorem dX7_takeRun_30 : decode cX7_takeRun 30 = .ok (.aload_n 0, 1) := do_42 (byt_at bX7_takeRun_1 (j := 14) rfl)
theorem dX7_takeRun_31 : decode cX7_takeRun 31 = .ok (.dup, 1) := do_89 (byt_at bX7_takeRun_1 (j := 15) rfl)
theorem bX7_takeRun_2 : ((bys cX7_takeRun).drop 32).take 16 = [180, 0, 32, 4, 96, 181, 0, 32, 167, 255, 216, 42, 180, 0, 35, 4] := by decide +kernel
theorem dX7_takeRun_32 : decode cX7_takeRun 32 = .ok (.getfield 32, 3) := do_180 0 32 (byt_at bX7_takeRun_2 (j := 0) rfl) (byt_at bX7_takeRun_2 (j := 1) rfl) (byt_at bX7_takeRun_2 (j := 2) rfl)
theorem dX7_takeRun_35 : decode cX7_takeRun 35 = .ok (.iconst 1, 1) := do_4 (byt_at bX7_takeRun_2 (j := 3) rfl)
theorem dX7_takeRun_36 : decode cX7_takeRun 36 = .ok (.iadd, 1) := do_96 (byt_at bX7_takeRun_2 (j := 4) rfl)
theorem dX7_takeRun_37 : decode cX7_takeRun 37 = .ok (.putfield 32, 3) := do_181 0 32 (byt_at bX7_takeRun_2 (j := 5) rfl) (byt_at bX7_takeRun_2 (j := 6) rfl) (byt_at bX7_takeRun_2 (j := 7) rfl)
theorem dX7_takeRun_40 : decode cX7_takeRun 40 = .ok (.goto (-40), 3) := do_167 255 216 (byt_at bX7_takeRun_2 (j := 8) rfl) (byt_at bX7_takeRun_2 (j := 9) rfl) (byt_at bX7_takeRun_2 (j := 10) rfl) (by decide)
theorem dX7_takeRun_43 : decode cX7_takeRun 43 = .ok (.aload_n 0, 1) := do_42 (byt_at bX7_takeRun_2 (j := 11) rfl)
theorem dX7_takeRun_44 : decode cX7_takeRun 44 = .ok (.getfield 35, 3) := do_180 0 35 (byt_at bX7_takeRun_2 (j := 12) rfl) (byt_at bX7_takeRun_2 (j := 13) rfl) (byt_at bX7_takeRun_2 (j := 14) rfl)
theorem dX7_takeRun_47 : decode cX7_takeRun 47 = .ok (.iconst 1, 1) := do_4 (byt_at bX7_takeRun_2 (j := 15) rfl)
theorem bX7_takeRun_3 : ((bys cX7_takeRun).drop 48).take 16 = [160, 0, 8, 16, 8, 167, 0, 4, 7, 60, 42, 180, 0, 32, 42, 180] := by decide +kernel
theorem dX7_takeRun_48 : decode cX7_takeRun 48 = .ok (.if_icmp .ne 8, 3) := do_160 0 8 (byt_at bX7_takeRun_3 (j := 0) rfl) (byt_at bX7_takeRun_3 (j := 1) rfl) (byt_at bX7_takeRun_3 (j := 2) rfl) (by decide)
theorem dX7_takeRun_51 : decode cX7_takeRun 51 = .ok (.bipush 8, 2) := do_16 8 (byt_at bX7_takeRun_3 (j := 3) rfl) (byt_at bX7_takeRun_3 (j := 4) rfl) (by decide)
theorem dX7_takeRun_53 : decode cX7_takeRun 53 = .ok (.goto 4, 3) := do_167 0 4 (byt_at bX7_takeRun_3 (j := 5) rfl) (byt_at bX7_takeRun_3 (j := 6) rfl) (byt_at bX7_takeRun_3 (j := 7) rfl) (by decide)
theorem dX7_takeRun_56 : decode cX7_takeRun 56 = .ok (.iconst 4, 1) := do_7 (byt_at bX7_takeRun_3 (j := 8) rfl)
theorem dX7_takeRun_57 : decode cX7_takeRun 57 = .ok (.istore_n 1, 1) := do_60 (byt_at bX7_takeRun_3 (j := 9) rfl)
theorem dX7_takeRun_58 : decode cX7_takeRun 58 = .ok (.aload_n 0, 1) := do_42 (byt_at bX7_takeRun_3 (j := 10) rfl)
theorem dX7_takeRun_59 : decode cX7_takeRun 59 = .ok (.getfield 32, 3) := do_180 0 32 (byt_at bX7_takeRun_3 (j := 11) rfl) (byt_at bX7_takeRun_3 (j := 12) rfl) (byt_at bX7_takeRun_3 (j := 13) rfl)
theorem dX7_takeRun_62 : decode cX7_takeRun 62 = .ok (.aload_n 0, 1) := do_42 (byt_at bX7_takeRun_3 (j := 14) rfl)
theorem bX7_takeRun_4 : ((bys cX7_takeRun).drop 64).take 16 = [0, 38, 100, 27, 164, 0, 8, 42, 7, 181, 0, 35, 177] := by decide +kernel
theorem dX7_takeRun_63 : decode cX7_takeRun 63 = .ok (.getfield 38, 3) := do_180 0 38 (byt_at bX7_takeRun_3 (j := 15) rfl) (byt_at bX7_takeRun_4 (j := 0) rfl) (byt_at bX7_takeRun_4 (j := 1) rfl)
theorem dX7_takeRun_66 : decode cX7_takeRun 66 = .ok (.isub, 1) := do_100 (byt_at bX7_takeRun_4 (j := 2) rfl)
theorem dX7_takeRun_67 : decode cX7_takeRun 67 = .ok (.iload_n 1, 1) := do_27 (byt_at bX7_takeRun_4 (j := 3) rfl)
theorem dX7_takeRun_68 : decode cX7_takeRun 68 = .ok (.if_icmp .le 8, 3) := do_164 0 8 (byt_at bX7_takeRun_4 (j := 4) rfl) (byt_at bX7_takeRun_4 (j := 5) rfl) (byt_at bX7_takeRun_4 (j := 6) rfl) (by decide)
theorem dX7_takeRun_71 : decode cX7_takeRun 71 = .ok (.aload_n 0, 1) := do_42 (byt_at bX7_takeRun_4 (j := 7) rfl)
theorem dX7_takeRun_72 : decode cX7_takeRun 72 = .ok (.iconst 4, 1) := do_7 (byt_at bX7_takeRun_4 (j := 8) rfl)
theorem dX7_takeRun_73 : decode cX7_takeRun 73 = .ok (.putfield 35, 3) := do_181 0 35 (byt_at bX7_takeRun_4 (j := 9) rfl) (byt_at bX7_takeRun_4 (j := 10) rfl) (byt_at bX7_takeRun_4 (j := 11) rfl)
theorem dX7_takeRun_76 : decode cX7_takeRun 76 = .ok (.return_, 1) := do_177 (byt_at bX7_takeRun_4 (j := 12) rfl)
theorem bX7_kindOf_0 : ((bys cX7_kindOf).drop 0).take 16 = [26, 16, 97, 161, 0, 11, 26, 16, 122, 163, 0, 5, 4, 172, 26, 16] := by decide +kernel
theorem dX7_kindOf_0 : decode cX7_kindOf 0 = .ok (.iload_n 0, 1) := do_26 (byt_at bX7_kindOf_0 (j := 0) rfl)
theorem dX7_kindOf_1 : decode cX7_kindOf 1 = .ok (.bipush 97, 2) := do_16 97 (byt_at bX7_kindOf_0 (j := 1) rfl) (byt_at bX7_kindOf_0 (j := 2) rfl) (by decide)
theorem dX7_kindOf_3 : decode cX7_kindOf 3 = .ok (.if_icmp .lt 11, 3) := do_161 0 11 (byt_at bX7_kindOf_0 (j := 3) rfl) (byt_at bX7_kindOf_0 (j := 4) rfl) (byt_at bX7_kindOf_0 (j := 5) rfl) (by decide)
theorem dX7_kindOf_6 : decode cX7_kindOf 6 = .ok (.iload_n 0, 1) := do_26 (byt_at bX7_kindOf_0 (j := 6) rfl)
theorem dX7_kindOf_7 : decode cX7_kindOf 7 = .ok (.bipush 122, 2) := do_16 122 (byt_at bX7_kindOf_0 (j := 7) rfl) (byt_at bX7_kindOf_0 (j := 8) rfl) (by decide)
theorem dX7_kindOf_9 : decode cX7_kindOf 9 = .ok (.if_icmp .gt 5, 3) := do_163 0 5 (byt_at bX7_kindOf_0 (j := 9) rfl) (byt_at bX7_kindOf_0 (j := 10) rfl) (byt_at bX7_kindOf_0 (j := 11) rfl) (by decide)
theorem dX7_kindOf_12 : decode cX7_kindOf 12 = .ok (.iconst 1, 1) := do_4 (byt_at bX7_kindOf_0 (j := 12) rfl)
theorem dX7_kindOf_13 : decode cX7_kindOf 13 = .ok (.ireturn, 1) := do_172 (byt_at bX7_kindOf_0 (j := 13) rfl)
theorem dX7_kindOf_14 : decode cX7_kindOf 14 = .ok (.iload_n 0, 1) := do_26 (byt_at bX7_kindOf_0 (j := 14) rfl)
theorem bX7_kindOf_1 : ((bys cX7_kindOf).drop 16).take 16 = [48, 161, 0, 11, 26, 16, 57, 163, 0, 5, 5, 172, 26, 16, 32, 159] := by decide +kernel
theorem dX7_kindOf_15 : decode cX7_kindOf 15 = .ok (.bipush 48, 2) := do_16 48 (byt_at bX7_kindOf_0 (j := 15) rfl) (byt_at bX7_kindOf_1 (j := 0) rfl) (by decide)
theorem dX7_kindOf_17 : decode cX7_kindOf 17 = .ok (.if_icmp .lt 11, 3) := do_161 0 11 (byt_at bX7_kindOf_1 (j := 1) rfl) (byt_at bX7_kindOf_1 (j := 2) rfl) (byt_at bX7_kindOf_1 (j := 3) rfl) (by decide)
theorem dX7_kindOf_20 : decode cX7_kindOf 20 = .ok (.iload_n 0, 1) := do_26 (byt_at bX7_kindOf_1 (j := 4) rfl)
theorem dX7_kindOf_21 : decode cX7_kindOf 21 = .ok (.bipush 57, 2) := do_16 57 (byt_at bX7_kindOf_1 (j := 5) rfl) (byt_at bX7_kindOf_1 (j := 6) rfl) (by decide)
theorem dX7_kindOf_23 : decode cX7_kindOf 23 = .ok (.if_icmp .gt 5, 3) := do_163 0 5 (byt_at bX7_kindOf_1 (j := 7) rfl) (byt_at bX7_kindOf_1 (j := 8) rfl) (byt_at bX7_kindOf_1 (j := 9) rfl) (by decide)
theorem dX7_kindOf_26 : decode cX7_kindOf 26 = .ok (.iconst 2, 1) := do_5 (byt_at bX7_kindOf_1 (j := 10) rfl)
theorem dX7_kindOf_27 : decode cX7_kindOf 27 = .ok (.ireturn, 1) := do_172 (byt_at bX7_kindOf_1 (j := 11) rfl)
theorem dX7_kindOf_28 : decode cX7_kindOf 28 = .ok (.iload_n 0, 1) := do_26 (byt_at bX7_kindOf_1 (j := 12) rfl)
theorem dX7_kindOf_29 : decode cX7_kindOf 29 = .ok (.bipush 32, 2) := do_16 32 (byt_at bX7_kindOf_1 (j := 13) rfl) (byt_at bX7_kindOf_1 (j := 14) rfl) (by decide)
theorem bX7_kindOf_2 : ((bys cX7_kindOf).drop 32).take 16 = [0, 9, 26, 16, 10, 160, 0, 5, 8, 172, 26, 16, 59, 160, 0, 7] := by decide +kernel
theorem dX7_kindOf_31 : decode cX7_kindOf 31 = .ok (.if_icmp .eq 9, 3) := do_159 0 9 (byt_at bX7_kindOf_1 (j := 15) rfl) (byt_at bX7_kindOf_2 (j := 0) rfl) (byt_at bX7_kindOf_2 (j := 1) rfl) (by decide)
theorem dX7_kindOf_34 : decode cX7_kindOf 34 = .ok (.iload_n 0, 1) := do_26 (byt_at bX7_kindOf_2 (j := 2) rfl)
theorem dX7_kindOf_35 : decode cX7_kindOf 35 = .ok (.bipush 10, 2) := do_16 10 (byt_at bX7_kindOf_2 (j := 3) rfl) (byt_at bX7_kindOf_2 (j := 4) rfl) (by decide)
theorem dX7_kindOf_37 : decode cX7_kindOf 37 = .ok (.if_icmp .ne 5, 3) := do_160 0 5 (byt_at bX7_kindOf_2 (j := 5) rfl) (byt_at bX7_kindOf_2 (j := 6) rfl) (byt_at bX7_kindOf_2 (j := 7) rfl) (by decide)
theorem dX7_kindOf_40 : decode cX7_kindOf 40 = .ok (.iconst 5, 1) := do_8 (byt_at bX7_kindOf_2 (j := 8) rfl)
theorem dX7_kindOf_41 : decode cX7_kindOf 41 = .ok (.ireturn, 1) := do_172 (byt_at bX7_kindOf_2 (j := 9) rfl)
theorem dX7_kindOf_42 : decode cX7_kindOf 42 = .ok (.iload_n 0, 1) := do_26 (byt_at bX7_kindOf_2 (j := 10) rfl)
theorem dX7_kindOf_43 : decode cX7_kindOf 43 = .ok (.bipush 59, 2) := do_16 59 (byt_at bX7_kindOf_2 (j := 11) rfl) (byt_at bX7_kindOf_2 (j := 12) rfl) (by decide)
theorem dX7_kindOf_45 : decode cX7_kindOf 45 = .ok (.if_icmp .ne 7, 3) := do_160 0 7 (byt_at bX7_kindOf_2 (j := 13) rfl) (byt_at bX7_kindOf_2 (j := 14) rfl) (byt_at bX7_kindOf_2 (j := 15) rfl) (by decide)
theorem bX7_kindOf_3 : ((bys cX7_kindOf).drop 48).take 16 = [6, 167, 0, 4, 7, 172] := by decide +kernel
theorem dX7_kindOf_48 : decode cX7_kindOf 48 = .ok (.iconst 3, 1) := do_6 (byt_at bX7_kindOf_3 (j := 0) rfl)
theorem dX7_kindOf_49 : decode cX7_kindOf 49 = .ok (.goto 4, 3) := do_167 0 4 (byt_at bX7_kindOf_3 (j := 1) rfl) (byt_at bX7_kindOf_3 (j := 2) rfl) (byt_at bX7_kindOf_3 (j := 3) rfl) (by decide)
theorem dX7_kindOf_52 : decode cX7_kindOf 52 = .ok (.iconst 4, 1) := do_7 (byt_at bX7_kindOf_3 (j := 4) rfl)
theorem dX7_kindOf_53 : decode cX7_kindOf 53 = .ok (.ireturn, 1) := do_172 (byt_at bX7_kindOf_3 (j := 5) rfl)
theorem kk_X7_takeRun_0 : Cond.fieldLink RX7 32 "PaidBySigns$Reader" "next" "I" ∈ wsX7_takeRun := List.mem_cons_of_mem _ (List.mem_append_left _ (List.mem_of_getElem? (i := 0) rfl))
theorem kk_X7_takeRun_1 : Cond.fieldLink RX7 9 "PaidBySigns$Reader" "length" "I" ∈ wsX7_takeRun := List.mem_cons_of_mem _ (List.mem_append_left _ (List.mem_of_getElem? (i := 1) rfl))
theorem kk_X7_takeRun_2 : Cond.fieldLink RX7 35 "PaidBySigns$Reader" "token" "I" ∈ wsX7_takeRun := List.mem_cons_of_mem _ (List.mem_append_left _ (List.mem_of_getElem? (i := 3) rfl))
theorem kk_X7_takeRun_3 : Cond.fieldLink RX7 38 "PaidBySigns$Reader" "start" "I" ∈ wsX7_takeRun := List.mem_cons_of_mem _ (List.mem_append_left _ (List.mem_of_getElem? (i := 4) rfl))
theorem kk_X7_takeRun_4 : Cond.fieldLink RX7 28 "PaidBySigns$Reader" "text" "[B" ∈ wsX7_takeRun := List.mem_cons_of_mem _ (List.mem_append_left _ (List.mem_of_getElem? (i := 2) rfl))
theorem kk_X7_advance_0 : Cond.fieldLink RX7 32 "PaidBySigns$Reader" "next" "I" ∈ wsX7_advance := List.mem_cons_of_mem _ (List.mem_append_left _ (List.mem_of_getElem? (i := 0) rfl))
theorem kk_X7_advance_1 : Cond.fieldLink RX7 9 "PaidBySigns$Reader" "length" "I" ∈ wsX7_advance := List.mem_cons_of_mem _ (List.mem_append_left _ (List.mem_of_getElem? (i := 1) rfl))
theorem kk_X7_advance_2 : Cond.fieldLink RX7 38 "PaidBySigns$Reader" "start" "I" ∈ wsX7_advance := List.mem_cons_of_mem _ (List.mem_append_left _ (List.mem_of_getElem? (i := 3) rfl))
theorem kk_X7_advance_3 : Cond.fieldLink RX7 28 "PaidBySigns$Reader" "text" "[B" ∈ wsX7_advance := List.mem_cons_of_mem _ (List.mem_append_left _ (List.mem_of_getElem? (i := 2) rfl))
theorem kk_X7_advance_4 : Cond.fieldLink RX7 35 "PaidBySigns$Reader" "token" "I" ∈ wsX7_advance := List.mem_cons_of_mem _ (List.mem_append_left _ (List.mem_of_getElem? (i := 4) rfl))
theorem kk_X7_fail_0 : Cond.fieldLink RX7 15 "PaidBySigns$Reader" "faultKind" "I" ∈ wsX7_fail := List.mem_cons_of_mem _ (List.mem_append_left _ (List.mem_of_getElem? (i := 0) rfl))
theorem kk_X7_fail_1 : Cond.fieldLink RX7 38 "PaidBySigns$Reader" "start" "I" ∈ wsX7_fail := List.mem_cons_of_mem _ (List.mem_append_left _ (List.mem_of_getElem? (i := 1) rfl))
theorem kk_X7_fail_2 : Cond.fieldLink RX7 18 "PaidBySigns$Reader" "faultPlace" "I" ∈ wsX7_fail := List.mem_cons_of_mem _ (List.mem_append_left _ (List.mem_of_getElem? (i := 2) rfl))
theorem kk_X7_isNumber_0 : Cond.fieldLink RX7 35 "PaidBySigns$Reader" "token" "I" ∈ wsX7_isNumber := List.mem_cons_of_mem _ (List.mem_append_left _ (List.mem_of_getElem? (i := 0) rfl))
theorem kk_X7_isNumber_1 : Cond.fieldLink RX7 41 "PaidBySigns$Reader" "value" "I" ∈ wsX7_isNumber := List.mem_cons_of_mem _ (List.mem_append_left _ (List.mem_of_getElem? (i := 1) rfl))
theorem kk_X7_isNumber_2 : Cond.fieldLink RX7 38 "PaidBySigns$Reader" "start" "I" ∈ wsX7_isNumber := List.mem_cons_of_mem _ (List.mem_append_left _ (List.mem_of_getElem? (i := 2) rfl))
theorem kk_X7_isNumber_3 : Cond.fieldLink RX7 32 "PaidBySigns$Reader" "next" "I" ∈ wsX7_isNumber := List.mem_cons_of_mem _ (List.mem_append_left _ (List.mem_of_getElem? (i := 3) rfl))
theorem kk_X7_isNumber_4 : Cond.fieldLink RX7 28 "PaidBySigns$Reader" "text" "[B" ∈ wsX7_isNumber := List.mem_cons_of_mem _ (List.mem_append_left _ (List.mem_of_getElem? (i := 4) rfl))
theorem iw_X7_takeRun_X7 : ∀ w ∈ wsX70, w ∈ wsX7_takeRun := fun _ h => List.mem_cons_of_mem _ (List.mem_append_right _ h)
theorem iw_X7_advance_X7 : ∀ w ∈ wsX70, w ∈ wsX7_advance := fun _ h => List.mem_cons_of_mem _ (List.mem_append_right _ h)
theorem iw_X7_fail_X7 : ∀ w ∈ wsX70, w ∈ wsX7_fail := fun _ h => List.mem_cons_of_mem _ (List.mem_append_right _ h)
theorem iw_X7_isNumber_X7 : ∀ w ∈ wsX70, w ∈ wsX7_isNumber := fun _ h => List.mem_cons_of_mem _ (List.mem_append_right _ h)
