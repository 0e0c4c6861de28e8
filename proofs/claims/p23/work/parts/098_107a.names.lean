abbrev cX0_find : ByteArray := prog_2_method_2_code
def yX0_find : MethodName := ⟨RX0, "find", "(LPaidBySigns$Hire;II)Z"⟩
abbrev cX0_fillLine : ByteArray := prog_2_method_4_code
def yX0_fillLine : MethodName := ⟨RX0, "fillLine", "(LPaidBySigns$Hire;II)V"⟩
def tyX1 : Nat → FieldType := fun k => match k with
  | 0 => .int
  | 1 => .int
  | 2 => .int
  | 3 => .array .int
  | 4 => .array .int
  | 5 => .array .int
  | 6 => .array .int
  | 7 => .array .int
  | _ => .array .int
abbrev wsX10 : List Cond := u_ws RX1 TX1 9
theorem nmX1 : ∀ a, a < 9 → ∀ b, b < 9 → a ≠ b → (TX1 a).2.1 ≠ (TX1 b).2.1 := by decide +kernel
theorem tyX1_ok : ∀ k, k < 9 → parseFieldDescriptor (TX1 k).2.2.1 = some (tyX1 k) := by decide +kernel
abbrev cX1_forget : ByteArray := prog_3_method_2_code
def yX1_forget : MethodName := ⟨RX1, "forget", "()V"⟩
abbrev cX1_canTell : ByteArray := prog_3_method_3_code
def yX1_canTell : MethodName := ⟨RX1, "canTell", "(I)Z"⟩
abbrev cX1_canCorrect : ByteArray := prog_3_method_4_code
def yX1_canCorrect : MethodName := ⟨RX1, "canCorrect", "(II)Z"⟩
def wsX0_fillLine_r1 : List Cond := [Cond.fieldLink RX0 34 "PaidBySigns$CoinSearch" "left" "[[I", Cond.fieldLink RX0 83 "PaidBySigns$Hire" "whole" "I", Cond.fieldLink RX0 31 "PaidBySigns$CoinSearch" "rest" "[[I", Cond.fieldLink RX0 45 "PaidBySigns$CoinSearch" "signs" "I", Cond.fieldLink RX0 28 "PaidBySigns$CoinSearch" "share" "[[I", Cond.fieldLink RX0 69 "PaidBySigns$Hire" "chances" "[[I", Cond.methodLink RX0 89 Lib.Math.max.name, Cond.static Lib.Math.max.name, Cond.initialized "java/lang/Math", Cond.code Lib.Math.max.name Lib.Math.max.code 2 (some .int), Cond.fieldLink RX0 20 "PaidBySigns$CoinSearch" "felt" "[I", Cond.fieldLink RX0 58 "PaidBySigns$CoinSearch" "most" "I", Cond.methodLink RX0 86 yX3_lackOf, Cond.instanceMethod yX3_lackOf, Cond.selects RX3 yX3_lackOf yX3_lackOf, Cond.initialized RX3, Cond.code yX3_lackOf cX3_lackOf 3 (some .int), Cond.fieldLink RX3 15 "PaidBySigns$Hire" "costs" "[I", Cond.fieldLink RX3 42 "PaidBySigns$Hire" "otherwise" "I", Cond.fieldLink RX3 45 "PaidBySigns$Hire" "least" "I", Cond.methodLink RX3 63 yX3_feltOf, Cond.instanceMethod yX3_feltOf, Cond.selects RX3 yX3_feltOf yX3_feltOf, Cond.code yX3_feltOf cX3_feltOf 6 (some .int)]
def wsX0_fillLine_r2 : List Cond := [Cond.fieldLink RX3 48 "PaidBySigns$Hire" "rates" "I", Cond.fieldLink RX3 26 "PaidBySigns$Hire" "mark" "[I", Cond.methodLink RX3 51 Lib.Math.min.name, Cond.static Lib.Math.min.name, Cond.code Lib.Math.min.name Lib.Math.min.code 2 (some .int), Cond.fieldLink RX3 23 "PaidBySigns$Hire" "rate" "[I"]
def wsX0_fillLine : List Cond := .code yX0_fillLine cX0_fillLine 5 none :: ((wsX0_fillLine_r1 ++ wsX0_fillLine_r2) ++ wsX00 ++ wsX30)
def wsX0_find_r1 : List Cond := [Cond.fieldLink RX0 40 "PaidBySigns$Hire" "signs" "I", Cond.fieldLink RX0 45 "PaidBySigns$CoinSearch" "signs" "I", Cond.fieldLink RX0 46 "PaidBySigns$Hire" "works" "I", Cond.fieldLink RX0 49 "PaidBySigns$CoinSearch" "lines" "I", Cond.methodLink RX0 52 Lib.Math.min.name, Cond.static Lib.Math.min.name, Cond.initialized "java/lang/Math", Cond.code Lib.Math.min.name Lib.Math.min.code 2 (some .int), Cond.fieldLink RX0 58 "PaidBySigns$CoinSearch" "most" "I", Cond.constant RX0 15 (1000000), Cond.fieldLink RX0 16 "PaidBySigns$CoinSearch" "bestCost" "I", Cond.fieldLink RX0 23 "PaidBySigns$CoinSearch" "own" "[I", Cond.fieldLink RX0 69 "PaidBySigns$Hire" "chances" "[[I", Cond.methodLink RX0 61 yX0_fillFelt, Cond.instanceMethod yX0_fillFelt, Cond.selects RX0 yX0_fillFelt yX0_fillFelt, Cond.initialized RX0, Cond.code yX0_fillFelt cX0_fillFelt 4 none, Cond.fieldLink RX0 76 "PaidBySigns$Hire" "least" "I", Cond.fieldLink RX0 20 "PaidBySigns$CoinSearch" "felt" "[I", Cond.methodLink RX0 79 yX3_feltOf, Cond.instanceMethod yX3_feltOf, Cond.selects RX3 yX3_feltOf yX3_feltOf, Cond.initialized RX3]
def wsX0_find_r2 : List Cond := [Cond.code yX3_feltOf cX3_feltOf 6 (some .int), Cond.fieldLink RX3 48 "PaidBySigns$Hire" "rates" "I", Cond.fieldLink RX3 26 "PaidBySigns$Hire" "mark" "[I", Cond.methodLink RX3 51 Lib.Math.min.name, Cond.fieldLink RX3 23 "PaidBySigns$Hire" "rate" "[I", Cond.methodLink RX0 65 yX0_fillLine, Cond.instanceMethod yX0_fillLine, Cond.selects RX0 yX0_fillLine yX0_fillLine, Cond.code yX0_fillLine cX0_fillLine 5 none, Cond.fieldLink RX0 34 "PaidBySigns$CoinSearch" "left" "[[I", Cond.fieldLink RX0 83 "PaidBySigns$Hire" "whole" "I", Cond.fieldLink RX0 31 "PaidBySigns$CoinSearch" "rest" "[[I", Cond.fieldLink RX0 28 "PaidBySigns$CoinSearch" "share" "[[I", Cond.methodLink RX0 89 Lib.Math.max.name, Cond.static Lib.Math.max.name, Cond.code Lib.Math.max.name Lib.Math.max.code 2 (some .int), Cond.methodLink RX0 86 yX3_lackOf, Cond.instanceMethod yX3_lackOf, Cond.selects RX3 yX3_lackOf yX3_lackOf, Cond.code yX3_lackOf cX3_lackOf 3 (some .int), Cond.fieldLink RX3 15 "PaidBySigns$Hire" "costs" "[I", Cond.fieldLink RX3 42 "PaidBySigns$Hire" "otherwise" "I", Cond.fieldLink RX3 45 "PaidBySigns$Hire" "least" "I", Cond.methodLink RX3 63 yX3_feltOf]
def wsX0_find_r3 : List Cond := [Cond.methodLink RX0 72 yX0_place, Cond.instanceMethod yX0_place, Cond.selects RX0 yX0_place yX0_place, Cond.code yX0_place cX0_place 7 none, Cond.fieldLink RX0 37 "PaidBySigns$CoinSearch" "tried" "[I", Cond.fieldLink RX0 9 "PaidBySigns$CoinSearch" "chosen" "[I", Cond.methodLink RX0 92 arraycopyName, Cond.native arraycopyName, Cond.static arraycopyName, Cond.initialized "java/lang/System", Cond.methodLink RX0 98 yX0_lastCoin, Cond.instanceMethod yX0_lastCoin, Cond.selects RX0 yX0_lastCoin yX0_lastCoin, Cond.code yX0_lastCoin cX0_lastCoin 4 (some .int), Cond.methodLink RX0 108 yX0_isShort, Cond.instanceMethod yX0_isShort, Cond.selects RX0 yX0_isShort yX0_isShort, Cond.code yX0_isShort cX0_isShort 4 (some .boolean), Cond.methodLink RX0 101 yX0_firstCoin, Cond.instanceMethod yX0_firstCoin, Cond.selects RX0 yX0_firstCoin yX0_firstCoin, Cond.code yX0_firstCoin cX0_firstCoin 4 (some .int), Cond.methodLink RX0 104 yX0_canBeCheaper, Cond.instanceMethod yX0_canBeCheaper]
def wsX0_find_r4 : List Cond := [Cond.selects RX0 yX0_canBeCheaper yX0_canBeCheaper, Cond.code yX0_canBeCheaper cX0_canBeCheaper 9 (some .boolean)]
def wsX0_find : List Cond := .code yX0_find cX0_find 5 (some .boolean) :: ((wsX0_find_r1 ++ (wsX0_find_r2 ++ (wsX0_find_r3 ++ wsX0_find_r4))) ++ wsX30 ++ wsX00)
def wsX1_forget : List Cond := .code yX1_forget cX1_forget 1 none :: ([.fieldLink RX1 9 "PaidBySigns$Diary" "seen" "I", .fieldLink RX1 15 "PaidBySigns$Diary" "rights" "I", .fieldLink RX1 18 "PaidBySigns$Diary" "latestStep" "I"] ++ wsX10)
def wsX1_canTell : List Cond := .code yX1_canTell cX1_canTell 2 (some .boolean) :: ([.fieldLink RX1 18 "PaidBySigns$Diary" "latestStep" "I"] ++ wsX10)
def wsX1_canCorrect : List Cond := .code yX1_canCorrect cX1_canCorrect 3 (some .boolean) :: ([.fieldLink RX1 9 "PaidBySigns$Diary" "seen" "I", .fieldLink RX1 21 "PaidBySigns$Diary" "seenStep" "[I"] ++ wsX10)
theorem pm_X0_find_r1 : ∀ w ∈ wsX0_find_r1, w ∈ wsX0_find := fun _ h => List.mem_cons_of_mem _ (List.mem_append_left _ (List.mem_append_left _ (List.mem_append_left _ h)))
theorem pm_X0_find_r2 : ∀ w ∈ wsX0_find_r2, w ∈ wsX0_find := fun _ h => List.mem_cons_of_mem _ (List.mem_append_left _ (List.mem_append_left _ (List.mem_append_right _ (List.mem_append_left _ h))))
theorem pm_X0_find_r3 : ∀ w ∈ wsX0_find_r3, w ∈ wsX0_find := fun _ h => List.mem_cons_of_mem _ (List.mem_append_left _ (List.mem_append_left _ (List.mem_append_right _ (List.mem_append_right _ (List.mem_append_left _ h)))))
theorem pm_X0_find_r4 : ∀ w ∈ wsX0_find_r4, w ∈ wsX0_find := fun _ h => List.mem_cons_of_mem _ (List.mem_append_left _ (List.mem_append_left _ (List.mem_append_right _ (List.mem_append_right _ (List.mem_append_right _ (h))))))
theorem pw_X0_find_X3 : ∀ w ∈ wsX30, w ∈ wsX0_find := fun _ h => List.mem_cons_of_mem _ (List.mem_append_left _ (List.mem_append_right _ h))
theorem pw_X0_find_X0 : ∀ w ∈ wsX00, w ∈ wsX0_find := fun _ h => List.mem_cons_of_mem _ (List.mem_append_right _ h)
set_option maxRecDepth 20000 in
theorem ggX0_find_X0_fillFelt : GoodIn wsX0_find wsX0_fillFelt := goodIn_sub (List.forall_mem_cons.mpr ⟨pm_X0_find_r1 _ (List.mem_of_getElem? (i := 17) rfl), List.forall_mem_append.mpr ⟨List.forall_mem_append.mpr ⟨List.forall_mem_cons.mpr ⟨pm_X0_find_r1 _ (List.mem_of_getElem? (i := 18) rfl), List.forall_mem_cons.mpr ⟨pm_X0_find_r1 _ (List.mem_of_getElem? (i := 19) rfl), List.forall_mem_cons.mpr ⟨pm_X0_find_r1 _ (List.mem_of_getElem? (i := 20) rfl), List.forall_mem_cons.mpr ⟨pm_X0_find_r1 _ (List.mem_of_getElem? (i := 21) rfl), List.forall_mem_cons.mpr ⟨pm_X0_find_r1 _ (List.mem_of_getElem? (i := 22) rfl), List.forall_mem_cons.mpr ⟨pm_X0_find_r1 _ (List.mem_of_getElem? (i := 23) rfl), List.forall_mem_cons.mpr ⟨pm_X0_find_r2 _ (List.mem_of_getElem? (i := 0) rfl), List.forall_mem_cons.mpr ⟨pm_X0_find_r2 _ (List.mem_of_getElem? (i := 1) rfl), List.forall_mem_cons.mpr ⟨pm_X0_find_r2 _ (List.mem_of_getElem? (i := 2) rfl), List.forall_mem_cons.mpr ⟨pm_X0_find_r2 _ (List.mem_of_getElem? (i := 3) rfl), List.forall_mem_cons.mpr ⟨pm_X0_find_r1 _ (List.mem_of_getElem? (i := 5) rfl), List.forall_mem_cons.mpr ⟨pm_X0_find_r1 _ (List.mem_of_getElem? (i := 6) rfl), List.forall_mem_cons.mpr ⟨pm_X0_find_r1 _ (List.mem_of_getElem? (i := 7) rfl), List.forall_mem_cons.mpr ⟨pm_X0_find_r2 _ (List.mem_of_getElem? (i := 4) rfl), fun _ h => absurd h List.not_mem_nil⟩⟩⟩⟩⟩⟩⟩⟩⟩⟩⟩⟩⟩⟩, pw_X0_find_X3⟩, pw_X0_find_X0⟩⟩) (by decide +kernel)
set_option maxRecDepth 20000 in
theorem gX0_find_X0_fillFelt : GoodIn wsX0_find (wsV RX0 61 RX0 yX0_fillFelt wsX0_fillFelt) := goodIn_app (goodIn_sub (List.forall_mem_cons.mpr ⟨pm_X0_find_r1 _ (List.mem_of_getElem? (i := 13) rfl), List.forall_mem_cons.mpr ⟨pm_X0_find_r1 _ (List.mem_of_getElem? (i := 14) rfl), List.forall_mem_cons.mpr ⟨pm_X0_find_r1 _ (List.mem_of_getElem? (i := 15) rfl), List.forall_mem_cons.mpr ⟨pm_X0_find_r1 _ (List.mem_of_getElem? (i := 16) rfl), fun _ h => absurd h List.not_mem_nil⟩⟩⟩⟩) (by decide +kernel)) ggX0_find_X0_fillFelt
set_option maxRecDepth 20000 in
theorem pq_X0_find_X0_fillLine_r1 : ∀ w ∈ wsX0_fillLine_r1, w ∈ wsX0_find := List.forall_mem_cons.mpr ⟨pm_X0_find_r2 _ (List.mem_of_getElem? (i := 9) rfl), List.forall_mem_cons.mpr ⟨pm_X0_find_r2 _ (List.mem_of_getElem? (i := 10) rfl), List.forall_mem_cons.mpr ⟨pm_X0_find_r2 _ (List.mem_of_getElem? (i := 11) rfl), List.forall_mem_cons.mpr ⟨pm_X0_find_r1 _ (List.mem_of_getElem? (i := 1) rfl), List.forall_mem_cons.mpr ⟨pm_X0_find_r2 _ (List.mem_of_getElem? (i := 12) rfl), List.forall_mem_cons.mpr ⟨pm_X0_find_r1 _ (List.mem_of_getElem? (i := 12) rfl), List.forall_mem_cons.mpr ⟨pm_X0_find_r2 _ (List.mem_of_getElem? (i := 13) rfl), List.forall_mem_cons.mpr ⟨pm_X0_find_r2 _ (List.mem_of_getElem? (i := 14) rfl), List.forall_mem_cons.mpr ⟨pm_X0_find_r1 _ (List.mem_of_getElem? (i := 6) rfl), List.forall_mem_cons.mpr ⟨pm_X0_find_r2 _ (List.mem_of_getElem? (i := 15) rfl), List.forall_mem_cons.mpr ⟨pm_X0_find_r1 _ (List.mem_of_getElem? (i := 19) rfl), List.forall_mem_cons.mpr ⟨pm_X0_find_r1 _ (List.mem_of_getElem? (i := 8) rfl), List.forall_mem_cons.mpr ⟨pm_X0_find_r2 _ (List.mem_of_getElem? (i := 16) rfl), List.forall_mem_cons.mpr ⟨pm_X0_find_r2 _ (List.mem_of_getElem? (i := 17) rfl), List.forall_mem_cons.mpr ⟨pm_X0_find_r2 _ (List.mem_of_getElem? (i := 18) rfl), List.forall_mem_cons.mpr ⟨pm_X0_find_r1 _ (List.mem_of_getElem? (i := 23) rfl), List.forall_mem_cons.mpr ⟨pm_X0_find_r2 _ (List.mem_of_getElem? (i := 19) rfl), List.forall_mem_cons.mpr ⟨pm_X0_find_r2 _ (List.mem_of_getElem? (i := 20) rfl), List.forall_mem_cons.mpr ⟨pm_X0_find_r2 _ (List.mem_of_getElem? (i := 21) rfl), List.forall_mem_cons.mpr ⟨pm_X0_find_r2 _ (List.mem_of_getElem? (i := 22) rfl), List.forall_mem_cons.mpr ⟨pm_X0_find_r2 _ (List.mem_of_getElem? (i := 23) rfl), List.forall_mem_cons.mpr ⟨pm_X0_find_r1 _ (List.mem_of_getElem? (i := 21) rfl), List.forall_mem_cons.mpr ⟨pm_X0_find_r1 _ (List.mem_of_getElem? (i := 22) rfl), List.forall_mem_cons.mpr ⟨pm_X0_find_r2 _ (List.mem_of_getElem? (i := 0) rfl), fun _ h => absurd h List.not_mem_nil⟩⟩⟩⟩⟩⟩⟩⟩⟩⟩⟩⟩⟩⟩⟩⟩⟩⟩⟩⟩⟩⟩⟩⟩
set_option maxRecDepth 20000 in
theorem pq_X0_find_X0_fillLine_r2 : ∀ w ∈ wsX0_fillLine_r2, w ∈ wsX0_find := List.forall_mem_cons.mpr ⟨pm_X0_find_r2 _ (List.mem_of_getElem? (i := 1) rfl), List.forall_mem_cons.mpr ⟨pm_X0_find_r2 _ (List.mem_of_getElem? (i := 2) rfl), List.forall_mem_cons.mpr ⟨pm_X0_find_r2 _ (List.mem_of_getElem? (i := 3) rfl), List.forall_mem_cons.mpr ⟨pm_X0_find_r1 _ (List.mem_of_getElem? (i := 5) rfl), List.forall_mem_cons.mpr ⟨pm_X0_find_r1 _ (List.mem_of_getElem? (i := 7) rfl), List.forall_mem_cons.mpr ⟨pm_X0_find_r2 _ (List.mem_of_getElem? (i := 4) rfl), fun _ h => absurd h List.not_mem_nil⟩⟩⟩⟩⟩⟩
set_option maxRecDepth 20000 in
theorem ggX0_find_X0_fillLine : GoodIn wsX0_find wsX0_fillLine := goodIn_sub (List.forall_mem_cons.mpr ⟨pm_X0_find_r2 _ (List.mem_of_getElem? (i := 8) rfl), List.forall_mem_append.mpr ⟨List.forall_mem_append.mpr ⟨List.forall_mem_append.mpr ⟨pq_X0_find_X0_fillLine_r1, pq_X0_find_X0_fillLine_r2⟩, pw_X0_find_X0⟩, pw_X0_find_X3⟩⟩) (by decide +kernel)
set_option maxRecDepth 20000 in
theorem gX0_find_X0_fillLine : GoodIn wsX0_find (wsV RX0 65 RX0 yX0_fillLine wsX0_fillLine) := goodIn_app (goodIn_sub (List.forall_mem_cons.mpr ⟨pm_X0_find_r2 _ (List.mem_of_getElem? (i := 5) rfl), List.forall_mem_cons.mpr ⟨pm_X0_find_r2 _ (List.mem_of_getElem? (i := 6) rfl), List.forall_mem_cons.mpr ⟨pm_X0_find_r2 _ (List.mem_of_getElem? (i := 7) rfl), List.forall_mem_cons.mpr ⟨pm_X0_find_r1 _ (List.mem_of_getElem? (i := 16) rfl), fun _ h => absurd h List.not_mem_nil⟩⟩⟩⟩) (by decide +kernel)) ggX0_find_X0_fillLine
set_option maxRecDepth 20000 in
theorem pq_X0_find_X0_place_r1 : ∀ w ∈ wsX0_place_r1, w ∈ wsX0_find := List.forall_mem_cons.mpr ⟨pm_X0_find_r1 _ (List.mem_of_getElem? (i := 1) rfl), List.forall_mem_cons.mpr ⟨pm_X0_find_r1 _ (List.mem_of_getElem? (i := 10) rfl), List.forall_mem_cons.mpr ⟨pm_X0_find_r3 _ (List.mem_of_getElem? (i := 4) rfl), List.forall_mem_cons.mpr ⟨pm_X0_find_r3 _ (List.mem_of_getElem? (i := 5) rfl), List.forall_mem_cons.mpr ⟨pm_X0_find_r3 _ (List.mem_of_getElem? (i := 6) rfl), List.forall_mem_cons.mpr ⟨pm_X0_find_r3 _ (List.mem_of_getElem? (i := 7) rfl), List.forall_mem_cons.mpr ⟨pm_X0_find_r3 _ (List.mem_of_getElem? (i := 8) rfl), List.forall_mem_cons.mpr ⟨pm_X0_find_r3 _ (List.mem_of_getElem? (i := 9) rfl), List.forall_mem_cons.mpr ⟨pm_X0_find_r1 _ (List.mem_of_getElem? (i := 11) rfl), List.forall_mem_cons.mpr ⟨pm_X0_find_r1 _ (List.mem_of_getElem? (i := 3) rfl), List.forall_mem_cons.mpr ⟨pm_X0_find_r2 _ (List.mem_of_getElem? (i := 9) rfl), List.forall_mem_cons.mpr ⟨pm_X0_find_r2 _ (List.mem_of_getElem? (i := 12) rfl), List.forall_mem_cons.mpr ⟨pm_X0_find_r1 _ (List.mem_of_getElem? (i := 19) rfl), List.forall_mem_cons.mpr ⟨pm_X0_find_r3 _ (List.mem_of_getElem? (i := 10) rfl), List.forall_mem_cons.mpr ⟨pm_X0_find_r3 _ (List.mem_of_getElem? (i := 11) rfl), List.forall_mem_cons.mpr ⟨pm_X0_find_r3 _ (List.mem_of_getElem? (i := 12) rfl), List.forall_mem_cons.mpr ⟨pm_X0_find_r1 _ (List.mem_of_getElem? (i := 16) rfl), List.forall_mem_cons.mpr ⟨pm_X0_find_r3 _ (List.mem_of_getElem? (i := 13) rfl), List.forall_mem_cons.mpr ⟨pm_X0_find_r1 _ (List.mem_of_getElem? (i := 8) rfl), List.forall_mem_cons.mpr ⟨pm_X0_find_r3 _ (List.mem_of_getElem? (i := 14) rfl), List.forall_mem_cons.mpr ⟨pm_X0_find_r3 _ (List.mem_of_getElem? (i := 15) rfl), List.forall_mem_cons.mpr ⟨pm_X0_find_r3 _ (List.mem_of_getElem? (i := 16) rfl), List.forall_mem_cons.mpr ⟨pm_X0_find_r3 _ (List.mem_of_getElem? (i := 17) rfl), List.forall_mem_cons.mpr ⟨pm_X0_find_r2 _ (List.mem_of_getElem? (i := 11) rfl), fun _ h => absurd h List.not_mem_nil⟩⟩⟩⟩⟩⟩⟩⟩⟩⟩⟩⟩⟩⟩⟩⟩⟩⟩⟩⟩⟩⟩⟩⟩
set_option maxRecDepth 20000 in
theorem pq_X0_find_X0_place_r2 : ∀ w ∈ wsX0_place_r2, w ∈ wsX0_find := List.forall_mem_cons.mpr ⟨pm_X0_find_r3 _ (List.mem_of_getElem? (i := 18) rfl), List.forall_mem_cons.mpr ⟨pm_X0_find_r3 _ (List.mem_of_getElem? (i := 19) rfl), List.forall_mem_cons.mpr ⟨pm_X0_find_r3 _ (List.mem_of_getElem? (i := 20) rfl), List.forall_mem_cons.mpr ⟨pm_X0_find_r3 _ (List.mem_of_getElem? (i := 21) rfl), List.forall_mem_cons.mpr ⟨pm_X0_find_r3 _ (List.mem_of_getElem? (i := 22) rfl), List.forall_mem_cons.mpr ⟨pm_X0_find_r3 _ (List.mem_of_getElem? (i := 23) rfl), List.forall_mem_cons.mpr ⟨pm_X0_find_r4 _ (List.mem_of_getElem? (i := 0) rfl), List.forall_mem_cons.mpr ⟨pm_X0_find_r4 _ (List.mem_of_getElem? (i := 1) rfl), List.forall_mem_cons.mpr ⟨pm_X0_find_r3 _ (List.mem_of_getElem? (i := 0) rfl), List.forall_mem_cons.mpr ⟨pm_X0_find_r3 _ (List.mem_of_getElem? (i := 1) rfl), List.forall_mem_cons.mpr ⟨pm_X0_find_r3 _ (List.mem_of_getElem? (i := 2) rfl), fun _ h => absurd h List.not_mem_nil⟩⟩⟩⟩⟩⟩⟩⟩⟩⟩⟩
set_option maxRecDepth 20000 in
theorem ggX0_find_X0_place : GoodIn wsX0_find wsX0_place := goodIn_sub (List.forall_mem_cons.mpr ⟨pm_X0_find_r3 _ (List.mem_of_getElem? (i := 3) rfl), List.forall_mem_append.mpr ⟨List.forall_mem_append.mpr ⟨pq_X0_find_X0_place_r1, pq_X0_find_X0_place_r2⟩, pw_X0_find_X0⟩⟩) (by decide +kernel)
set_option maxRecDepth 20000 in
theorem gX0_find_X0_place : GoodIn wsX0_find (wsV RX0 72 RX0 yX0_place wsX0_place) := goodIn_app (goodIn_sub (List.forall_mem_cons.mpr ⟨pm_X0_find_r3 _ (List.mem_of_getElem? (i := 0) rfl), List.forall_mem_cons.mpr ⟨pm_X0_find_r3 _ (List.mem_of_getElem? (i := 1) rfl), List.forall_mem_cons.mpr ⟨pm_X0_find_r3 _ (List.mem_of_getElem? (i := 2) rfl), List.forall_mem_cons.mpr ⟨pm_X0_find_r1 _ (List.mem_of_getElem? (i := 16) rfl), fun _ h => absurd h List.not_mem_nil⟩⟩⟩⟩) (by decide +kernel)) ggX0_find_X0_place
theorem bX0_find_0 : ((bys cX0_find).drop 0).take 16 = [42, 43, 180, 0, 40, 181, 0, 45, 42, 43, 180, 0, 46, 181, 0, 49] := by decide +kernel
theorem dX0_find_0 : decode cX0_find 0 = .ok (.aload_n 0, 1) := do_42 (byt_at bX0_find_0 (j := 0) rfl)
theorem dX0_find_1 : decode cX0_find 1 = .ok (.aload_n 1, 1) := do_43 (byt_at bX0_find_0 (j := 1) rfl)
theorem dX0_find_2 : decode cX0_find 2 = .ok (.getfield 40, 3) := do_180 0 40 (byt_at bX0_find_0 (j := 2) rfl) (byt_at bX0_find_0 (j := 3) rfl) (byt_at bX0_find_0 (j := 4) rfl)
theorem dX0_find_5 : decode cX0_find 5 = .ok (.putfield 45, 3) := do_181 0 45 (byt_at bX0_find_0 (j := 5) rfl) (byt_at bX0_find_0 (j := 6) rfl) (byt_at bX0_find_0 (j := 7) rfl)
theorem dX0_find_8 : decode cX0_find 8 = .ok (.aload_n 0, 1) := do_42 (byt_at bX0_find_0 (j := 8) rfl)
theorem dX0_find_9 : decode cX0_find 9 = .ok (.aload_n 1, 1) := do_43 (byt_at bX0_find_0 (j := 9) rfl)
theorem dX0_find_10 : decode cX0_find 10 = .ok (.getfield 46, 3) := do_180 0 46 (byt_at bX0_find_0 (j := 10) rfl) (byt_at bX0_find_0 (j := 11) rfl) (byt_at bX0_find_0 (j := 12) rfl)
theorem dX0_find_13 : decode cX0_find 13 = .ok (.putfield 49, 3) := do_181 0 49 (byt_at bX0_find_0 (j := 13) rfl) (byt_at bX0_find_0 (j := 14) rfl) (byt_at bX0_find_0 (j := 15) rfl)
theorem bX0_find_1 : ((bys cX0_find).drop 16).take 16 = [42, 29, 16, 20, 184, 0, 52, 181, 0, 58, 42, 18, 15, 181, 0, 16] := by decide +kernel
theorem dX0_find_16 : decode cX0_find 16 = .ok (.aload_n 0, 1) := do_42 (byt_at bX0_find_1 (j := 0) rfl)
theorem dX0_find_17 : decode cX0_find 17 = .ok (.iload_n 3, 1) := do_29 (byt_at bX0_find_1 (j := 1) rfl)
theorem dX0_find_18 : decode cX0_find 18 = .ok (.bipush 20, 2) := do_16 20 (byt_at bX0_find_1 (j := 2) rfl) (byt_at bX0_find_1 (j := 3) rfl) (by decide)
theorem dX0_find_20 : decode cX0_find 20 = .ok (.invokestatic 52, 3) := do_184 0 52 (byt_at bX0_find_1 (j := 4) rfl) (byt_at bX0_find_1 (j := 5) rfl) (byt_at bX0_find_1 (j := 6) rfl)
theorem dX0_find_23 : decode cX0_find 23 = .ok (.putfield 58, 3) := do_181 0 58 (byt_at bX0_find_1 (j := 7) rfl) (byt_at bX0_find_1 (j := 8) rfl) (byt_at bX0_find_1 (j := 9) rfl)
theorem dX0_find_26 : decode cX0_find 26 = .ok (.aload_n 0, 1) := do_42 (byt_at bX0_find_1 (j := 10) rfl)
theorem dX0_find_27 : decode cX0_find 27 = .ok (.ldc 15, 2) := do_18 15 (byt_at bX0_find_1 (j := 11) rfl) (byt_at bX0_find_1 (j := 12) rfl)
theorem dX0_find_29 : decode cX0_find 29 = .ok (.putfield 16, 3) := do_181 0 16 (byt_at bX0_find_1 (j := 13) rfl) (byt_at bX0_find_1 (j := 14) rfl) (byt_at bX0_find_1 (j := 15) rfl)
theorem bX0_find_2 : ((bys cX0_find).drop 32).take 16 = [42, 43, 182, 0, 61, 3, 54, 4, 21, 4, 42, 180, 0, 49, 162, 0] := by decide +kernel
theorem dX0_find_32 : decode cX0_find 32 = .ok (.aload_n 0, 1) := do_42 (byt_at bX0_find_2 (j := 0) rfl)
theorem dX0_find_33 : decode cX0_find 33 = .ok (.aload_n 1, 1) := do_43 (byt_at bX0_find_2 (j := 1) rfl)
theorem dX0_find_34 : decode cX0_find 34 = .ok (.invokevirtual 61, 3) := do_182 0 61 (byt_at bX0_find_2 (j := 2) rfl) (byt_at bX0_find_2 (j := 3) rfl) (byt_at bX0_find_2 (j := 4) rfl)
theorem dX0_find_37 : decode cX0_find 37 = .ok (.iconst 0, 1) := do_3 (byt_at bX0_find_2 (j := 5) rfl)
theorem dX0_find_38 : decode cX0_find 38 = .ok (.istore 4, 2) := do_54 4 (byt_at bX0_find_2 (j := 6) rfl) (byt_at bX0_find_2 (j := 7) rfl)
theorem dX0_find_40 : decode cX0_find 40 = .ok (.iload 4, 2) := do_21 4 (byt_at bX0_find_2 (j := 8) rfl) (byt_at bX0_find_2 (j := 9) rfl)
theorem dX0_find_42 : decode cX0_find 42 = .ok (.aload_n 0, 1) := do_42 (byt_at bX0_find_2 (j := 10) rfl)
theorem dX0_find_43 : decode cX0_find 43 = .ok (.getfield 49, 3) := do_180 0 49 (byt_at bX0_find_2 (j := 11) rfl) (byt_at bX0_find_2 (j := 12) rfl) (byt_at bX0_find_2 (j := 13) rfl)
theorem bX0_find_3 : ((bys cX0_find).drop 48).take 16 = [17, 42, 43, 28, 21, 4, 182, 0, 65, 132, 4, 1, 167, 255, 236, 3] := by decide +kernel
theorem dX0_find_46 : decode cX0_find 46 = .ok (.if_icmp .ge 17, 3) := do_162 0 17 (byt_at bX0_find_2 (j := 14) rfl) (byt_at bX0_find_2 (j := 15) rfl) (byt_at bX0_find_3 (j := 0) rfl) (by decide)
theorem dX0_find_49 : decode cX0_find 49 = .ok (.aload_n 0, 1) := do_42 (byt_at bX0_find_3 (j := 1) rfl)
theorem dX0_find_50 : decode cX0_find 50 = .ok (.aload_n 1, 1) := do_43 (byt_at bX0_find_3 (j := 2) rfl)
theorem dX0_find_51 : decode cX0_find 51 = .ok (.iload_n 2, 1) := do_28 (byt_at bX0_find_3 (j := 3) rfl)
theorem dX0_find_52 : decode cX0_find 52 = .ok (.iload 4, 2) := do_21 4 (byt_at bX0_find_3 (j := 4) rfl) (byt_at bX0_find_3 (j := 5) rfl)
theorem dX0_find_54 : decode cX0_find 54 = .ok (.invokevirtual 65, 3) := do_182 0 65 (byt_at bX0_find_3 (j := 6) rfl) (byt_at bX0_find_3 (j := 7) rfl) (byt_at bX0_find_3 (j := 8) rfl)
theorem dX0_find_57 : decode cX0_find 57 = .ok (.iinc 4 1, 3) := do_132 4 1 (byt_at bX0_find_3 (j := 9) rfl) (byt_at bX0_find_3 (j := 10) rfl) (byt_at bX0_find_3 (j := 11) rfl) (by decide)
theorem dX0_find_60 : decode cX0_find 60 = .ok (.goto (-20), 3) := do_167 255 236 (byt_at bX0_find_3 (j := 12) rfl) (byt_at bX0_find_3 (j := 13) rfl) (byt_at bX0_find_3 (j := 14) rfl) (by decide)
theorem dX0_find_63 : decode cX0_find 63 = .ok (.iconst 0, 1) := do_3 (byt_at bX0_find_3 (j := 15) rfl)
theorem bX0_find_4 : ((bys cX0_find).drop 64).take 16 = [54, 4, 21, 4, 42, 180, 0, 45, 162, 0, 25, 42, 180, 0, 23, 21] := by decide +kernel
theorem dX0_find_64 : decode cX0_find 64 = .ok (.istore 4, 2) := do_54 4 (byt_at bX0_find_4 (j := 0) rfl) (byt_at bX0_find_4 (j := 1) rfl)
theorem dX0_find_66 : decode cX0_find 66 = .ok (.iload 4, 2) := do_21 4 (byt_at bX0_find_4 (j := 2) rfl) (byt_at bX0_find_4 (j := 3) rfl)
theorem dX0_find_68 : decode cX0_find 68 = .ok (.aload_n 0, 1) := do_42 (byt_at bX0_find_4 (j := 4) rfl)
theorem dX0_find_69 : decode cX0_find 69 = .ok (.getfield 45, 3) := do_180 0 45 (byt_at bX0_find_4 (j := 5) rfl) (byt_at bX0_find_4 (j := 6) rfl) (byt_at bX0_find_4 (j := 7) rfl)
theorem dX0_find_72 : decode cX0_find 72 = .ok (.if_icmp .ge 25, 3) := do_162 0 25 (byt_at bX0_find_4 (j := 8) rfl) (byt_at bX0_find_4 (j := 9) rfl) (byt_at bX0_find_4 (j := 10) rfl) (by decide)
theorem dX0_find_75 : decode cX0_find 75 = .ok (.aload_n 0, 1) := do_42 (byt_at bX0_find_4 (j := 11) rfl)
theorem dX0_find_76 : decode cX0_find 76 = .ok (.getfield 23, 3) := do_180 0 23 (byt_at bX0_find_4 (j := 12) rfl) (byt_at bX0_find_4 (j := 13) rfl) (byt_at bX0_find_4 (j := 14) rfl)
theorem bX0_find_5 : ((bys cX0_find).drop 80).take 16 = [4, 43, 180, 0, 69, 28, 50, 21, 4, 46, 79, 132, 4, 1, 167, 255] := by decide +kernel
theorem dX0_find_79 : decode cX0_find 79 = .ok (.iload 4, 2) := do_21 4 (byt_at bX0_find_4 (j := 15) rfl) (byt_at bX0_find_5 (j := 0) rfl)
theorem dX0_find_81 : decode cX0_find 81 = .ok (.aload_n 1, 1) := do_43 (byt_at bX0_find_5 (j := 1) rfl)
theorem dX0_find_82 : decode cX0_find 82 = .ok (.getfield 69, 3) := do_180 0 69 (byt_at bX0_find_5 (j := 2) rfl) (byt_at bX0_find_5 (j := 3) rfl) (byt_at bX0_find_5 (j := 4) rfl)
theorem dX0_find_85 : decode cX0_find 85 = .ok (.iload_n 2, 1) := do_28 (byt_at bX0_find_5 (j := 5) rfl)
theorem dX0_find_86 : decode cX0_find 86 = .ok (.aaload, 1) := do_50 (byt_at bX0_find_5 (j := 6) rfl)
theorem dX0_find_87 : decode cX0_find 87 = .ok (.iload 4, 2) := do_21 4 (byt_at bX0_find_5 (j := 7) rfl) (byt_at bX0_find_5 (j := 8) rfl)
theorem dX0_find_89 : decode cX0_find 89 = .ok (.iaload, 1) := do_46 (byt_at bX0_find_5 (j := 9) rfl)
theorem dX0_find_90 : decode cX0_find 90 = .ok (.iastore, 1) := do_79 (byt_at bX0_find_5 (j := 10) rfl)
theorem dX0_find_91 : decode cX0_find 91 = .ok (.iinc 4 1, 3) := do_132 4 1 (byt_at bX0_find_5 (j := 11) rfl) (byt_at bX0_find_5 (j := 12) rfl) (byt_at bX0_find_5 (j := 13) rfl) (by decide)
theorem bX0_find_6 : ((bys cX0_find).drop 96).take 16 = [228, 42, 3, 3, 182, 0, 72, 42, 180, 0, 16, 18, 15, 159, 0, 7] := by decide +kernel
theorem dX0_find_94 : decode cX0_find 94 = .ok (.goto (-28), 3) := do_167 255 228 (byt_at bX0_find_5 (j := 14) rfl) (byt_at bX0_find_5 (j := 15) rfl) (byt_at bX0_find_6 (j := 0) rfl) (by decide)
theorem dX0_find_97 : decode cX0_find 97 = .ok (.aload_n 0, 1) := do_42 (byt_at bX0_find_6 (j := 1) rfl)
theorem dX0_find_98 : decode cX0_find 98 = .ok (.iconst 0, 1) := do_3 (byt_at bX0_find_6 (j := 2) rfl)
theorem dX0_find_99 : decode cX0_find 99 = .ok (.iconst 0, 1) := do_3 (byt_at bX0_find_6 (j := 3) rfl)
theorem dX0_find_100 : decode cX0_find 100 = .ok (.invokevirtual 72, 3) := do_182 0 72 (byt_at bX0_find_6 (j := 4) rfl) (byt_at bX0_find_6 (j := 5) rfl) (byt_at bX0_find_6 (j := 6) rfl)
theorem dX0_find_103 : decode cX0_find 103 = .ok (.aload_n 0, 1) := do_42 (byt_at bX0_find_6 (j := 7) rfl)
theorem dX0_find_104 : decode cX0_find 104 = .ok (.getfield 16, 3) := do_180 0 16 (byt_at bX0_find_6 (j := 8) rfl) (byt_at bX0_find_6 (j := 9) rfl) (byt_at bX0_find_6 (j := 10) rfl)
theorem dX0_find_107 : decode cX0_find 107 = .ok (.ldc 15, 2) := do_18 15 (byt_at bX0_find_6 (j := 11) rfl) (byt_at bX0_find_6 (j := 12) rfl)
theorem dX0_find_109 : decode cX0_find 109 = .ok (.if_icmp .eq 7, 3) := do_159 0 7 (byt_at bX0_find_6 (j := 13) rfl) (byt_at bX0_find_6 (j := 14) rfl) (byt_at bX0_find_6 (j := 15) rfl) (by decide)
theorem bX0_find_7 : ((bys cX0_find).drop 112).take 16 = [4, 167, 0, 4, 3, 172] := by decide +kernel
theorem dX0_find_112 : decode cX0_find 112 = .ok (.iconst 1, 1) := do_4 (byt_at bX0_find_7 (j := 0) rfl)
theorem dX0_find_113 : decode cX0_find 113 = .ok (.goto 4, 3) := do_167 0 4 (byt_at bX0_find_7 (j := 1) rfl) (byt_at bX0_find_7 (j := 2) rfl) (byt_at bX0_find_7 (j := 3) rfl) (by decide)
theorem dX0_find_116 : decode cX0_find 116 = .ok (.iconst 0, 1) := do_3 (byt_at bX0_find_7 (j := 4) rfl)
theorem dX0_find_117 : decode cX0_find 117 = .ok (.ireturn, 1) := do_172 (byt_at bX0_find_7 (j := 5) rfl)
theorem pm_X0_fillLine_r1 : ∀ w ∈ wsX0_fillLine_r1, w ∈ wsX0_fillLine := fun _ h => List.mem_cons_of_mem _ (List.mem_append_left _ (List.mem_append_left _ (List.mem_append_left _ h)))
theorem pm_X0_fillLine_r2 : ∀ w ∈ wsX0_fillLine_r2, w ∈ wsX0_fillLine := fun _ h => List.mem_cons_of_mem _ (List.mem_append_left _ (List.mem_append_left _ (List.mem_append_right _ (h))))
theorem pw_X0_fillLine_X0 : ∀ w ∈ wsX00, w ∈ wsX0_fillLine := fun _ h => List.mem_cons_of_mem _ (List.mem_append_left _ (List.mem_append_right _ h))
theorem pw_X0_fillLine_X3 : ∀ w ∈ wsX30, w ∈ wsX0_fillLine := fun _ h => List.mem_cons_of_mem _ (List.mem_append_right _ h)
set_option maxRecDepth 20000 in
theorem ggX0_fillLine_X3_lackOf : GoodIn wsX0_fillLine wsX3_lackOf := goodIn_sub (List.forall_mem_cons.mpr ⟨pm_X0_fillLine_r1 _ (List.mem_of_getElem? (i := 16) rfl), List.forall_mem_append.mpr ⟨List.forall_mem_cons.mpr ⟨pm_X0_fillLine_r1 _ (List.mem_of_getElem? (i := 17) rfl), List.forall_mem_cons.mpr ⟨pm_X0_fillLine_r1 _ (List.mem_of_getElem? (i := 18) rfl), List.forall_mem_cons.mpr ⟨pm_X0_fillLine_r1 _ (List.mem_of_getElem? (i := 19) rfl), List.forall_mem_cons.mpr ⟨pm_X0_fillLine_r1 _ (List.mem_of_getElem? (i := 20) rfl), List.forall_mem_cons.mpr ⟨pm_X0_fillLine_r1 _ (List.mem_of_getElem? (i := 21) rfl), List.forall_mem_cons.mpr ⟨pm_X0_fillLine_r1 _ (List.mem_of_getElem? (i := 22) rfl), List.forall_mem_cons.mpr ⟨pm_X0_fillLine_r1 _ (List.mem_of_getElem? (i := 15) rfl), List.forall_mem_cons.mpr ⟨pm_X0_fillLine_r1 _ (List.mem_of_getElem? (i := 23) rfl), List.forall_mem_cons.mpr ⟨pm_X0_fillLine_r2 _ (List.mem_of_getElem? (i := 0) rfl), List.forall_mem_cons.mpr ⟨pm_X0_fillLine_r2 _ (List.mem_of_getElem? (i := 1) rfl), List.forall_mem_cons.mpr ⟨pm_X0_fillLine_r2 _ (List.mem_of_getElem? (i := 2) rfl), List.forall_mem_cons.mpr ⟨pm_X0_fillLine_r2 _ (List.mem_of_getElem? (i := 3) rfl), List.forall_mem_cons.mpr ⟨pm_X0_fillLine_r1 _ (List.mem_of_getElem? (i := 8) rfl), List.forall_mem_cons.mpr ⟨pm_X0_fillLine_r2 _ (List.mem_of_getElem? (i := 4) rfl), List.forall_mem_cons.mpr ⟨pm_X0_fillLine_r2 _ (List.mem_of_getElem? (i := 5) rfl), fun _ h => absurd h List.not_mem_nil⟩⟩⟩⟩⟩⟩⟩⟩⟩⟩⟩⟩⟩⟩⟩, pw_X0_fillLine_X3⟩⟩) (by decide +kernel)
set_option maxRecDepth 20000 in
theorem gX0_fillLine_X3_lackOf : GoodIn wsX0_fillLine (wsV RX0 86 RX3 yX3_lackOf wsX3_lackOf) := goodIn_app (goodIn_sub (List.forall_mem_cons.mpr ⟨pm_X0_fillLine_r1 _ (List.mem_of_getElem? (i := 12) rfl), List.forall_mem_cons.mpr ⟨pm_X0_fillLine_r1 _ (List.mem_of_getElem? (i := 13) rfl), List.forall_mem_cons.mpr ⟨pm_X0_fillLine_r1 _ (List.mem_of_getElem? (i := 14) rfl), List.forall_mem_cons.mpr ⟨pm_X0_fillLine_r1 _ (List.mem_of_getElem? (i := 15) rfl), fun _ h => absurd h List.not_mem_nil⟩⟩⟩⟩) (by decide +kernel)) ggX0_fillLine_X3_lackOf
theorem bX0_fillLine_0 : ((bys cX0_fillLine).drop 0).take 16 = [42, 180, 0, 34, 3, 50, 29, 43, 180, 0, 83, 43, 28, 29, 182, 0] := by decide +kernel
theorem dX0_fillLine_0 : decode cX0_fillLine 0 = .ok (.aload_n 0, 1) := do_42 (byt_at bX0_fillLine_0 (j := 0) rfl)
theorem dX0_fillLine_1 : decode cX0_fillLine 1 = .ok (.getfield 34, 3) := do_180 0 34 (byt_at bX0_fillLine_0 (j := 1) rfl) (byt_at bX0_fillLine_0 (j := 2) rfl) (byt_at bX0_fillLine_0 (j := 3) rfl)
theorem dX0_fillLine_4 : decode cX0_fillLine 4 = .ok (.iconst 0, 1) := do_3 (byt_at bX0_fillLine_0 (j := 4) rfl)
theorem dX0_fillLine_5 : decode cX0_fillLine 5 = .ok (.aaload, 1) := do_50 (byt_at bX0_fillLine_0 (j := 5) rfl)
theorem dX0_fillLine_6 : decode cX0_fillLine 6 = .ok (.iload_n 3, 1) := do_29 (byt_at bX0_fillLine_0 (j := 6) rfl)
theorem dX0_fillLine_7 : decode cX0_fillLine 7 = .ok (.aload_n 1, 1) := do_43 (byt_at bX0_fillLine_0 (j := 7) rfl)
theorem dX0_fillLine_8 : decode cX0_fillLine 8 = .ok (.getfield 83, 3) := do_180 0 83 (byt_at bX0_fillLine_0 (j := 8) rfl) (byt_at bX0_fillLine_0 (j := 9) rfl) (byt_at bX0_fillLine_0 (j := 10) rfl)
theorem dX0_fillLine_11 : decode cX0_fillLine 11 = .ok (.aload_n 1, 1) := do_43 (byt_at bX0_fillLine_0 (j := 11) rfl)
theorem dX0_fillLine_12 : decode cX0_fillLine 12 = .ok (.iload_n 2, 1) := do_28 (byt_at bX0_fillLine_0 (j := 12) rfl)
theorem dX0_fillLine_13 : decode cX0_fillLine 13 = .ok (.iload_n 3, 1) := do_29 (byt_at bX0_fillLine_0 (j := 13) rfl)
theorem bX0_fillLine_1 : ((bys cX0_fillLine).drop 16).take 16 = [86, 104, 79, 42, 180, 0, 31, 29, 50, 42, 180, 0, 45, 3, 79, 42] := by decide +kernel
theorem dX0_fillLine_14 : decode cX0_fillLine 14 = .ok (.invokevirtual 86, 3) := do_182 0 86 (byt_at bX0_fillLine_0 (j := 14) rfl) (byt_at bX0_fillLine_0 (j := 15) rfl) (byt_at bX0_fillLine_1 (j := 0) rfl)
theorem dX0_fillLine_17 : decode cX0_fillLine 17 = .ok (.imul, 1) := do_104 (byt_at bX0_fillLine_1 (j := 1) rfl)
theorem dX0_fillLine_18 : decode cX0_fillLine 18 = .ok (.iastore, 1) := do_79 (byt_at bX0_fillLine_1 (j := 2) rfl)
theorem dX0_fillLine_19 : decode cX0_fillLine 19 = .ok (.aload_n 0, 1) := do_42 (byt_at bX0_fillLine_1 (j := 3) rfl)
theorem dX0_fillLine_20 : decode cX0_fillLine 20 = .ok (.getfield 31, 3) := do_180 0 31 (byt_at bX0_fillLine_1 (j := 4) rfl) (byt_at bX0_fillLine_1 (j := 5) rfl) (byt_at bX0_fillLine_1 (j := 6) rfl)
theorem dX0_fillLine_23 : decode cX0_fillLine 23 = .ok (.iload_n 3, 1) := do_29 (byt_at bX0_fillLine_1 (j := 7) rfl)
theorem dX0_fillLine_24 : decode cX0_fillLine 24 = .ok (.aaload, 1) := do_50 (byt_at bX0_fillLine_1 (j := 8) rfl)
theorem dX0_fillLine_25 : decode cX0_fillLine 25 = .ok (.aload_n 0, 1) := do_42 (byt_at bX0_fillLine_1 (j := 9) rfl)
theorem dX0_fillLine_26 : decode cX0_fillLine 26 = .ok (.getfield 45, 3) := do_180 0 45 (byt_at bX0_fillLine_1 (j := 10) rfl) (byt_at bX0_fillLine_1 (j := 11) rfl) (byt_at bX0_fillLine_1 (j := 12) rfl)
theorem dX0_fillLine_29 : decode cX0_fillLine 29 = .ok (.iconst 0, 1) := do_3 (byt_at bX0_fillLine_1 (j := 13) rfl)
theorem dX0_fillLine_30 : decode cX0_fillLine 30 = .ok (.iastore, 1) := do_79 (byt_at bX0_fillLine_1 (j := 14) rfl)
theorem dX0_fillLine_31 : decode cX0_fillLine 31 = .ok (.aload_n 0, 1) := do_42 (byt_at bX0_fillLine_1 (j := 15) rfl)
theorem bX0_fillLine_2 : ((bys cX0_fillLine).drop 32).take 16 = [180, 0, 45, 4, 100, 54, 4, 21, 4, 155, 0, 90, 42, 180, 0, 28] := by decide +kernel
theorem dX0_fillLine_32 : decode cX0_fillLine 32 = .ok (.getfield 45, 3) := do_180 0 45 (byt_at bX0_fillLine_2 (j := 0) rfl) (byt_at bX0_fillLine_2 (j := 1) rfl) (byt_at bX0_fillLine_2 (j := 2) rfl)
theorem dX0_fillLine_35 : decode cX0_fillLine 35 = .ok (.iconst 1, 1) := do_4 (byt_at bX0_fillLine_2 (j := 3) rfl)
theorem dX0_fillLine_36 : decode cX0_fillLine 36 = .ok (.isub, 1) := do_100 (byt_at bX0_fillLine_2 (j := 4) rfl)
theorem dX0_fillLine_37 : decode cX0_fillLine 37 = .ok (.istore 4, 2) := do_54 4 (byt_at bX0_fillLine_2 (j := 5) rfl) (byt_at bX0_fillLine_2 (j := 6) rfl)
theorem dX0_fillLine_39 : decode cX0_fillLine 39 = .ok (.iload 4, 2) := do_21 4 (byt_at bX0_fillLine_2 (j := 7) rfl) (byt_at bX0_fillLine_2 (j := 8) rfl)
theorem dX0_fillLine_41 : decode cX0_fillLine 41 = .ok (.ifCond .lt 90, 3) := do_155 0 90 (byt_at bX0_fillLine_2 (j := 9) rfl) (byt_at bX0_fillLine_2 (j := 10) rfl) (byt_at bX0_fillLine_2 (j := 11) rfl) (by decide)
theorem dX0_fillLine_44 : decode cX0_fillLine 44 = .ok (.aload_n 0, 1) := do_42 (byt_at bX0_fillLine_2 (j := 12) rfl)
theorem dX0_fillLine_45 : decode cX0_fillLine 45 = .ok (.getfield 28, 3) := do_180 0 28 (byt_at bX0_fillLine_2 (j := 13) rfl) (byt_at bX0_fillLine_2 (j := 14) rfl) (byt_at bX0_fillLine_2 (j := 15) rfl)
theorem bX0_fillLine_3 : ((bys cX0_fillLine).drop 48).take 16 = [29, 50, 21, 4, 43, 180, 0, 69, 28, 50, 21, 4, 46, 29, 28, 160] := by decide +kernel
theorem dX0_fillLine_48 : decode cX0_fillLine 48 = .ok (.iload_n 3, 1) := do_29 (byt_at bX0_fillLine_3 (j := 0) rfl)
theorem dX0_fillLine_49 : decode cX0_fillLine 49 = .ok (.aaload, 1) := do_50 (byt_at bX0_fillLine_3 (j := 1) rfl)
theorem dX0_fillLine_50 : decode cX0_fillLine 50 = .ok (.iload 4, 2) := do_21 4 (byt_at bX0_fillLine_3 (j := 2) rfl) (byt_at bX0_fillLine_3 (j := 3) rfl)
theorem dX0_fillLine_52 : decode cX0_fillLine 52 = .ok (.aload_n 1, 1) := do_43 (byt_at bX0_fillLine_3 (j := 4) rfl)
theorem dX0_fillLine_53 : decode cX0_fillLine 53 = .ok (.getfield 69, 3) := do_180 0 69 (byt_at bX0_fillLine_3 (j := 5) rfl) (byt_at bX0_fillLine_3 (j := 6) rfl) (byt_at bX0_fillLine_3 (j := 7) rfl)
theorem dX0_fillLine_56 : decode cX0_fillLine 56 = .ok (.iload_n 2, 1) := do_28 (byt_at bX0_fillLine_3 (j := 8) rfl)
theorem dX0_fillLine_57 : decode cX0_fillLine 57 = .ok (.aaload, 1) := do_50 (byt_at bX0_fillLine_3 (j := 9) rfl)
theorem dX0_fillLine_58 : decode cX0_fillLine 58 = .ok (.iload 4, 2) := do_21 4 (byt_at bX0_fillLine_3 (j := 10) rfl) (byt_at bX0_fillLine_3 (j := 11) rfl)
theorem dX0_fillLine_60 : decode cX0_fillLine 60 = .ok (.iaload, 1) := do_46 (byt_at bX0_fillLine_3 (j := 12) rfl)
theorem dX0_fillLine_61 : decode cX0_fillLine 61 = .ok (.iload_n 3, 1) := do_29 (byt_at bX0_fillLine_3 (j := 13) rfl)
theorem dX0_fillLine_62 : decode cX0_fillLine 62 = .ok (.iload_n 2, 1) := do_28 (byt_at bX0_fillLine_3 (j := 14) rfl)
theorem bX0_fillLine_4 : ((bys cX0_fillLine).drop 64).take 16 = [0, 7, 3, 167, 0, 12, 43, 180, 0, 69, 29, 50, 21, 4, 46, 100] := by decide +kernel
theorem dX0_fillLine_63 : decode cX0_fillLine 63 = .ok (.if_icmp .ne 7, 3) := do_160 0 7 (byt_at bX0_fillLine_3 (j := 15) rfl) (byt_at bX0_fillLine_4 (j := 0) rfl) (byt_at bX0_fillLine_4 (j := 1) rfl) (by decide)
theorem dX0_fillLine_66 : decode cX0_fillLine 66 = .ok (.iconst 0, 1) := do_3 (byt_at bX0_fillLine_4 (j := 2) rfl)
theorem dX0_fillLine_67 : decode cX0_fillLine 67 = .ok (.goto 12, 3) := do_167 0 12 (byt_at bX0_fillLine_4 (j := 3) rfl) (byt_at bX0_fillLine_4 (j := 4) rfl) (byt_at bX0_fillLine_4 (j := 5) rfl) (by decide)
theorem dX0_fillLine_70 : decode cX0_fillLine 70 = .ok (.aload_n 1, 1) := do_43 (byt_at bX0_fillLine_4 (j := 6) rfl)
theorem dX0_fillLine_71 : decode cX0_fillLine 71 = .ok (.getfield 69, 3) := do_180 0 69 (byt_at bX0_fillLine_4 (j := 7) rfl) (byt_at bX0_fillLine_4 (j := 8) rfl) (byt_at bX0_fillLine_4 (j := 9) rfl)
theorem dX0_fillLine_74 : decode cX0_fillLine 74 = .ok (.iload_n 3, 1) := do_29 (byt_at bX0_fillLine_4 (j := 10) rfl)
theorem dX0_fillLine_75 : decode cX0_fillLine 75 = .ok (.aaload, 1) := do_50 (byt_at bX0_fillLine_4 (j := 11) rfl)
theorem dX0_fillLine_76 : decode cX0_fillLine 76 = .ok (.iload 4, 2) := do_21 4 (byt_at bX0_fillLine_4 (j := 12) rfl) (byt_at bX0_fillLine_4 (j := 13) rfl)
theorem dX0_fillLine_78 : decode cX0_fillLine 78 = .ok (.iaload, 1) := do_46 (byt_at bX0_fillLine_4 (j := 14) rfl)
theorem dX0_fillLine_79 : decode cX0_fillLine 79 = .ok (.isub, 1) := do_100 (byt_at bX0_fillLine_4 (j := 15) rfl)
theorem bX0_fillLine_5 : ((bys cX0_fillLine).drop 80).take 16 = [79, 42, 180, 0, 31, 29, 50, 21, 4, 42, 180, 0, 31, 29, 50, 21] := by decide +kernel
theorem dX0_fillLine_80 : decode cX0_fillLine 80 = .ok (.iastore, 1) := do_79 (byt_at bX0_fillLine_5 (j := 0) rfl)
theorem dX0_fillLine_81 : decode cX0_fillLine 81 = .ok (.aload_n 0, 1) := do_42 (byt_at bX0_fillLine_5 (j := 1) rfl)
theorem dX0_fillLine_82 : decode cX0_fillLine 82 = .ok (.getfield 31, 3) := do_180 0 31 (byt_at bX0_fillLine_5 (j := 2) rfl) (byt_at bX0_fillLine_5 (j := 3) rfl) (byt_at bX0_fillLine_5 (j := 4) rfl)
theorem dX0_fillLine_85 : decode cX0_fillLine 85 = .ok (.iload_n 3, 1) := do_29 (byt_at bX0_fillLine_5 (j := 5) rfl)
theorem dX0_fillLine_86 : decode cX0_fillLine 86 = .ok (.aaload, 1) := do_50 (byt_at bX0_fillLine_5 (j := 6) rfl)
theorem dX0_fillLine_87 : decode cX0_fillLine 87 = .ok (.iload 4, 2) := do_21 4 (byt_at bX0_fillLine_5 (j := 7) rfl) (byt_at bX0_fillLine_5 (j := 8) rfl)
theorem dX0_fillLine_89 : decode cX0_fillLine 89 = .ok (.aload_n 0, 1) := do_42 (byt_at bX0_fillLine_5 (j := 9) rfl)
theorem dX0_fillLine_90 : decode cX0_fillLine 90 = .ok (.getfield 31, 3) := do_180 0 31 (byt_at bX0_fillLine_5 (j := 10) rfl) (byt_at bX0_fillLine_5 (j := 11) rfl) (byt_at bX0_fillLine_5 (j := 12) rfl)
theorem dX0_fillLine_93 : decode cX0_fillLine 93 = .ok (.iload_n 3, 1) := do_29 (byt_at bX0_fillLine_5 (j := 13) rfl)
theorem dX0_fillLine_94 : decode cX0_fillLine 94 = .ok (.aaload, 1) := do_50 (byt_at bX0_fillLine_5 (j := 14) rfl)
theorem bX0_fillLine_6 : ((bys cX0_fillLine).drop 96).take 16 = [4, 4, 96, 46, 3, 42, 180, 0, 28, 29, 50, 21, 4, 46, 184, 0] := by decide +kernel
theorem dX0_fillLine_95 : decode cX0_fillLine 95 = .ok (.iload 4, 2) := do_21 4 (byt_at bX0_fillLine_5 (j := 15) rfl) (byt_at bX0_fillLine_6 (j := 0) rfl)
theorem dX0_fillLine_97 : decode cX0_fillLine 97 = .ok (.iconst 1, 1) := do_4 (byt_at bX0_fillLine_6 (j := 1) rfl)
theorem dX0_fillLine_98 : decode cX0_fillLine 98 = .ok (.iadd, 1) := do_96 (byt_at bX0_fillLine_6 (j := 2) rfl)
theorem dX0_fillLine_99 : decode cX0_fillLine 99 = .ok (.iaload, 1) := do_46 (byt_at bX0_fillLine_6 (j := 3) rfl)
theorem dX0_fillLine_100 : decode cX0_fillLine 100 = .ok (.iconst 0, 1) := do_3 (byt_at bX0_fillLine_6 (j := 4) rfl)
theorem dX0_fillLine_101 : decode cX0_fillLine 101 = .ok (.aload_n 0, 1) := do_42 (byt_at bX0_fillLine_6 (j := 5) rfl)
theorem dX0_fillLine_102 : decode cX0_fillLine 102 = .ok (.getfield 28, 3) := do_180 0 28 (byt_at bX0_fillLine_6 (j := 6) rfl) (byt_at bX0_fillLine_6 (j := 7) rfl) (byt_at bX0_fillLine_6 (j := 8) rfl)
theorem dX0_fillLine_105 : decode cX0_fillLine 105 = .ok (.iload_n 3, 1) := do_29 (byt_at bX0_fillLine_6 (j := 9) rfl)
theorem dX0_fillLine_106 : decode cX0_fillLine 106 = .ok (.aaload, 1) := do_50 (byt_at bX0_fillLine_6 (j := 10) rfl)
theorem dX0_fillLine_107 : decode cX0_fillLine 107 = .ok (.iload 4, 2) := do_21 4 (byt_at bX0_fillLine_6 (j := 11) rfl) (byt_at bX0_fillLine_6 (j := 12) rfl)
theorem dX0_fillLine_109 : decode cX0_fillLine 109 = .ok (.iaload, 1) := do_46 (byt_at bX0_fillLine_6 (j := 13) rfl)
theorem bX0_fillLine_7 : ((bys cX0_fillLine).drop 112).take 16 = [89, 42, 180, 0, 20, 42, 180, 0, 58, 46, 104, 96, 79, 132, 4, 255] := by decide +kernel
theorem dX0_fillLine_110 : decode cX0_fillLine 110 = .ok (.invokestatic 89, 3) := do_184 0 89 (byt_at bX0_fillLine_6 (j := 14) rfl) (byt_at bX0_fillLine_6 (j := 15) rfl) (byt_at bX0_fillLine_7 (j := 0) rfl)
theorem dX0_fillLine_113 : decode cX0_fillLine 113 = .ok (.aload_n 0, 1) := do_42 (byt_at bX0_fillLine_7 (j := 1) rfl)
theorem dX0_fillLine_114 : decode cX0_fillLine 114 = .ok (.getfield 20, 3) := do_180 0 20 (byt_at bX0_fillLine_7 (j := 2) rfl) (byt_at bX0_fillLine_7 (j := 3) rfl) (byt_at bX0_fillLine_7 (j := 4) rfl)
theorem dX0_fillLine_117 : decode cX0_fillLine 117 = .ok (.aload_n 0, 1) := do_42 (byt_at bX0_fillLine_7 (j := 5) rfl)
theorem dX0_fillLine_118 : decode cX0_fillLine 118 = .ok (.getfield 58, 3) := do_180 0 58 (byt_at bX0_fillLine_7 (j := 6) rfl) (byt_at bX0_fillLine_7 (j := 7) rfl) (byt_at bX0_fillLine_7 (j := 8) rfl)
theorem dX0_fillLine_121 : decode cX0_fillLine 121 = .ok (.iaload, 1) := do_46 (byt_at bX0_fillLine_7 (j := 9) rfl)
theorem dX0_fillLine_122 : decode cX0_fillLine 122 = .ok (.imul, 1) := do_104 (byt_at bX0_fillLine_7 (j := 10) rfl)
theorem dX0_fillLine_123 : decode cX0_fillLine 123 = .ok (.iadd, 1) := do_96 (byt_at bX0_fillLine_7 (j := 11) rfl)
theorem dX0_fillLine_124 : decode cX0_fillLine 124 = .ok (.iastore, 1) := do_79 (byt_at bX0_fillLine_7 (j := 12) rfl)
theorem dX0_fillLine_125 : decode cX0_fillLine 125 = .ok (.iinc 4 (-1), 3) := do_132 4 255 (byt_at bX0_fillLine_7 (j := 13) rfl) (byt_at bX0_fillLine_7 (j := 14) rfl) (byt_at bX0_fillLine_7 (j := 15) rfl) (by decide)
theorem bX0_fillLine_8 : ((bys cX0_fillLine).drop 128).take 16 = [167, 255, 167, 177] := by decide +kernel
theorem dX0_fillLine_128 : decode cX0_fillLine 128 = .ok (.goto (-89), 3) := do_167 255 167 (byt_at bX0_fillLine_8 (j := 0) rfl) (byt_at bX0_fillLine_8 (j := 1) rfl) (byt_at bX0_fillLine_8 (j := 2) rfl) (by decide)
theorem dX0_fillLine_131 : decode cX0_fillLine 131 = .ok (.return_, 1) := do_177 (byt_at bX0_fillLine_8 (j := 3) rfl)
theorem bX1_forget_0 : ((bys cX1_forget).drop 0).take 16 = [42, 3, 181, 0, 9, 42, 3, 181, 0, 15, 42, 3, 181, 0, 18, 177] := by decide +kernel
theorem dX1_forget_0 : decode cX1_forget 0 = .ok (.aload_n 0, 1) := do_42 (byt_at bX1_forget_0 (j := 0) rfl)
theorem dX1_forget_1 : decode cX1_forget 1 = .ok (.iconst 0, 1) := do_3 (byt_at bX1_forget_0 (j := 1) rfl)
theorem dX1_forget_2 : decode cX1_forget 2 = .ok (.putfield 9, 3) := do_181 0 9 (byt_at bX1_forget_0 (j := 2) rfl) (byt_at bX1_forget_0 (j := 3) rfl) (byt_at bX1_forget_0 (j := 4) rfl)
theorem dX1_forget_5 : decode cX1_forget 5 = .ok (.aload_n 0, 1) := do_42 (byt_at bX1_forget_0 (j := 5) rfl)
theorem dX1_forget_6 : decode cX1_forget 6 = .ok (.iconst 0, 1) := do_3 (byt_at bX1_forget_0 (j := 6) rfl)
theorem dX1_forget_7 : decode cX1_forget 7 = .ok (.putfield 15, 3) := do_181 0 15 (byt_at bX1_forget_0 (j := 7) rfl) (byt_at bX1_forget_0 (j := 8) rfl) (byt_at bX1_forget_0 (j := 9) rfl)
theorem dX1_forget_10 : decode cX1_forget 10 = .ok (.aload_n 0, 1) := do_42 (byt_at bX1_forget_0 (j := 10) rfl)
theorem dX1_forget_11 : decode cX1_forget 11 = .ok (.iconst 0, 1) := do_3 (byt_at bX1_forget_0 (j := 11) rfl)
theorem dX1_forget_12 : decode cX1_forget 12 = .ok (.putfield 18, 3) := do_181 0 18 (byt_at bX1_forget_0 (j := 12) rfl) (byt_at bX1_forget_0 (j := 13) rfl) (byt_at bX1_forget_0 (j := 14) rfl)
theorem dX1_forget_15 : decode cX1_forget 15 = .ok (.return_, 1) := do_177 (byt_at bX1_forget_0 (j := 15) rfl)
theorem bX1_canTell_0 : ((bys cX1_canTell).drop 0).take 16 = [27, 42, 180, 0, 18, 161, 0, 14, 27, 17, 3, 231, 163, 0, 7, 4] := by decide +kernel
theorem dX1_canTell_0 : decode cX1_canTell 0 = .ok (.iload_n 1, 1) := do_27 (byt_at bX1_canTell_0 (j := 0) rfl)
theorem dX1_canTell_1 : decode cX1_canTell 1 = .ok (.aload_n 0, 1) := do_42 (byt_at bX1_canTell_0 (j := 1) rfl)
theorem dX1_canTell_2 : decode cX1_canTell 2 = .ok (.getfield 18, 3) := do_180 0 18 (byt_at bX1_canTell_0 (j := 2) rfl) (byt_at bX1_canTell_0 (j := 3) rfl) (byt_at bX1_canTell_0 (j := 4) rfl)
theorem dX1_canTell_5 : decode cX1_canTell 5 = .ok (.if_icmp .lt 14, 3) := do_161 0 14 (byt_at bX1_canTell_0 (j := 5) rfl) (byt_at bX1_canTell_0 (j := 6) rfl) (byt_at bX1_canTell_0 (j := 7) rfl) (by decide)
theorem dX1_canTell_8 : decode cX1_canTell 8 = .ok (.iload_n 1, 1) := do_27 (byt_at bX1_canTell_0 (j := 8) rfl)
theorem dX1_canTell_9 : decode cX1_canTell 9 = .ok (.sipush 999, 3) := do_17 3 231 (byt_at bX1_canTell_0 (j := 9) rfl) (byt_at bX1_canTell_0 (j := 10) rfl) (byt_at bX1_canTell_0 (j := 11) rfl) (by decide)
theorem dX1_canTell_12 : decode cX1_canTell 12 = .ok (.if_icmp .gt 7, 3) := do_163 0 7 (byt_at bX1_canTell_0 (j := 12) rfl) (byt_at bX1_canTell_0 (j := 13) rfl) (byt_at bX1_canTell_0 (j := 14) rfl) (by decide)
theorem dX1_canTell_15 : decode cX1_canTell 15 = .ok (.iconst 1, 1) := do_4 (byt_at bX1_canTell_0 (j := 15) rfl)
theorem bX1_canTell_1 : ((bys cX1_canTell).drop 16).take 16 = [167, 0, 4, 3, 172] := by decide +kernel
theorem dX1_canTell_16 : decode cX1_canTell 16 = .ok (.goto 4, 3) := do_167 0 4 (byt_at bX1_canTell_1 (j := 0) rfl) (byt_at bX1_canTell_1 (j := 1) rfl) (byt_at bX1_canTell_1 (j := 2) rfl) (by decide)
theorem dX1_canTell_19 : decode cX1_canTell 19 = .ok (.iconst 0, 1) := do_3 (byt_at bX1_canTell_1 (j := 3) rfl)
theorem dX1_canTell_20 : decode cX1_canTell 20 = .ok (.ireturn, 1) := do_172 (byt_at bX1_canTell_1 (j := 4) rfl)
theorem bX1_canCorrect_0 : ((bys cX1_canCorrect).drop 0).take 16 = [28, 155, 0, 25, 28, 42, 180, 0, 9, 162, 0, 17, 27, 42, 180, 0] := by decide +kernel
theorem dX1_canCorrect_0 : decode cX1_canCorrect 0 = .ok (.iload_n 2, 1) := do_28 (byt_at bX1_canCorrect_0 (j := 0) rfl)
theorem dX1_canCorrect_1 : decode cX1_canCorrect 1 = .ok (.ifCond .lt 25, 3) := do_155 0 25 (byt_at bX1_canCorrect_0 (j := 1) rfl) (byt_at bX1_canCorrect_0 (j := 2) rfl) (byt_at bX1_canCorrect_0 (j := 3) rfl) (by decide)
theorem dX1_canCorrect_4 : decode cX1_canCorrect 4 = .ok (.iload_n 2, 1) := do_28 (byt_at bX1_canCorrect_0 (j := 4) rfl)
theorem dX1_canCorrect_5 : decode cX1_canCorrect 5 = .ok (.aload_n 0, 1) := do_42 (byt_at bX1_canCorrect_0 (j := 5) rfl)
theorem dX1_canCorrect_6 : decode cX1_canCorrect 6 = .ok (.getfield 9, 3) := do_180 0 9 (byt_at bX1_canCorrect_0 (j := 6) rfl) (byt_at bX1_canCorrect_0 (j := 7) rfl) (byt_at bX1_canCorrect_0 (j := 8) rfl)
theorem dX1_canCorrect_9 : decode cX1_canCorrect 9 = .ok (.if_icmp .ge 17, 3) := do_162 0 17 (byt_at bX1_canCorrect_0 (j := 9) rfl) (byt_at bX1_canCorrect_0 (j := 10) rfl) (byt_at bX1_canCorrect_0 (j := 11) rfl) (by decide)
theorem dX1_canCorrect_12 : decode cX1_canCorrect 12 = .ok (.iload_n 1, 1) := do_27 (byt_at bX1_canCorrect_0 (j := 12) rfl)
theorem dX1_canCorrect_13 : decode cX1_canCorrect 13 = .ok (.aload_n 0, 1) := do_42 (byt_at bX1_canCorrect_0 (j := 13) rfl)
theorem bX1_canCorrect_1 : ((bys cX1_canCorrect).drop 16).take 16 = [21, 28, 46, 164, 0, 7, 4, 167, 0, 4, 3, 172] := by decide +kernel
theorem dX1_canCorrect_14 : decode cX1_canCorrect 14 = .ok (.getfield 21, 3) := do_180 0 21 (byt_at bX1_canCorrect_0 (j := 14) rfl) (byt_at bX1_canCorrect_0 (j := 15) rfl) (byt_at bX1_canCorrect_1 (j := 0) rfl)
theorem dX1_canCorrect_17 : decode cX1_canCorrect 17 = .ok (.iload_n 2, 1) := do_28 (byt_at bX1_canCorrect_1 (j := 1) rfl)
theorem dX1_canCorrect_18 : decode cX1_canCorrect 18 = .ok (.iaload, 1) := do_46 (byt_at bX1_canCorrect_1 (j := 2) rfl)
theorem dX1_canCorrect_19 : decode cX1_canCorrect 19 = .ok (.if_icmp .le 7, 3) := do_164 0 7 (byt_at bX1_canCorrect_1 (j := 3) rfl) (byt_at bX1_canCorrect_1 (j := 4) rfl) (byt_at bX1_canCorrect_1 (j := 5) rfl) (by decide)
theorem dX1_canCorrect_22 : decode cX1_canCorrect 22 = .ok (.iconst 1, 1) := do_4 (byt_at bX1_canCorrect_1 (j := 6) rfl)
theorem dX1_canCorrect_23 : decode cX1_canCorrect 23 = .ok (.goto 4, 3) := do_167 0 4 (byt_at bX1_canCorrect_1 (j := 7) rfl) (byt_at bX1_canCorrect_1 (j := 8) rfl) (byt_at bX1_canCorrect_1 (j := 9) rfl) (by decide)
theorem dX1_canCorrect_26 : decode cX1_canCorrect 26 = .ok (.iconst 0, 1) := do_3 (byt_at bX1_canCorrect_1 (j := 10) rfl)
theorem dX1_canCorrect_27 : decode cX1_canCorrect 27 = .ok (.ireturn, 1) := do_172 (byt_at bX1_canCorrect_1 (j := 11) rfl)
theorem kk_X0_find_0 : Cond.fieldLink RX0 40 "PaidBySigns$Hire" "signs" "I" ∈ wsX0_find := pm_X0_find_r1 _ (List.mem_of_getElem? (i := 0) rfl)
theorem kk_X0_find_1 : Cond.fieldLink RX0 45 "PaidBySigns$CoinSearch" "signs" "I" ∈ wsX0_find := pm_X0_find_r1 _ (List.mem_of_getElem? (i := 1) rfl)
theorem kk_X0_find_2 : Cond.fieldLink RX0 46 "PaidBySigns$Hire" "works" "I" ∈ wsX0_find := pm_X0_find_r1 _ (List.mem_of_getElem? (i := 2) rfl)
theorem kk_X0_find_3 : Cond.fieldLink RX0 49 "PaidBySigns$CoinSearch" "lines" "I" ∈ wsX0_find := pm_X0_find_r1 _ (List.mem_of_getElem? (i := 3) rfl)
theorem kk_X0_find_4 : Cond.methodLink RX0 52 Lib.Math.min.name ∈ wsX0_find := pm_X0_find_r1 _ (List.mem_of_getElem? (i := 4) rfl)
theorem kk_X0_find_5 : Cond.static Lib.Math.min.name ∈ wsX0_find := pm_X0_find_r1 _ (List.mem_of_getElem? (i := 5) rfl)
theorem kk_X0_find_6 : Cond.initialized "java/lang/Math" ∈ wsX0_find := pm_X0_find_r1 _ (List.mem_of_getElem? (i := 6) rfl)
theorem kk_X0_find_7 : Cond.code Lib.Math.min.name Lib.Math.min.code 2 (some .int) ∈ wsX0_find := pm_X0_find_r1 _ (List.mem_of_getElem? (i := 7) rfl)
theorem kk_X0_find_8 : Cond.fieldLink RX0 58 "PaidBySigns$CoinSearch" "most" "I" ∈ wsX0_find := pm_X0_find_r1 _ (List.mem_of_getElem? (i := 8) rfl)
theorem kk_X0_find_9 : Cond.constant RX0 15 (1000000) ∈ wsX0_find := pm_X0_find_r1 _ (List.mem_of_getElem? (i := 9) rfl)
theorem kk_X0_find_10 : Cond.fieldLink RX0 16 "PaidBySigns$CoinSearch" "bestCost" "I" ∈ wsX0_find := pm_X0_find_r1 _ (List.mem_of_getElem? (i := 10) rfl)
theorem kk_X0_find_11 : Cond.fieldLink RX0 23 "PaidBySigns$CoinSearch" "own" "[I" ∈ wsX0_find := pm_X0_find_r1 _ (List.mem_of_getElem? (i := 11) rfl)
theorem kk_X0_find_12 : Cond.fieldLink RX0 69 "PaidBySigns$Hire" "chances" "[[I" ∈ wsX0_find := pm_X0_find_r1 _ (List.mem_of_getElem? (i := 12) rfl)
theorem kk_X0_fillLine_0 : Cond.fieldLink RX0 34 "PaidBySigns$CoinSearch" "left" "[[I" ∈ wsX0_fillLine := pm_X0_fillLine_r1 _ (List.mem_of_getElem? (i := 0) rfl)
theorem kk_X0_fillLine_1 : Cond.fieldLink RX0 83 "PaidBySigns$Hire" "whole" "I" ∈ wsX0_fillLine := pm_X0_fillLine_r1 _ (List.mem_of_getElem? (i := 1) rfl)
theorem kk_X0_fillLine_2 : Cond.fieldLink RX0 31 "PaidBySigns$CoinSearch" "rest" "[[I" ∈ wsX0_fillLine := pm_X0_fillLine_r1 _ (List.mem_of_getElem? (i := 2) rfl)
theorem kk_X0_fillLine_3 : Cond.fieldLink RX0 45 "PaidBySigns$CoinSearch" "signs" "I" ∈ wsX0_fillLine := pm_X0_fillLine_r1 _ (List.mem_of_getElem? (i := 3) rfl)
theorem kk_X0_fillLine_4 : Cond.fieldLink RX0 28 "PaidBySigns$CoinSearch" "share" "[[I" ∈ wsX0_fillLine := pm_X0_fillLine_r1 _ (List.mem_of_getElem? (i := 4) rfl)
theorem kk_X0_fillLine_5 : Cond.fieldLink RX0 69 "PaidBySigns$Hire" "chances" "[[I" ∈ wsX0_fillLine := pm_X0_fillLine_r1 _ (List.mem_of_getElem? (i := 5) rfl)
theorem kk_X0_fillLine_6 : Cond.methodLink RX0 89 Lib.Math.max.name ∈ wsX0_fillLine := pm_X0_fillLine_r1 _ (List.mem_of_getElem? (i := 6) rfl)
theorem kk_X0_fillLine_7 : Cond.static Lib.Math.max.name ∈ wsX0_fillLine := pm_X0_fillLine_r1 _ (List.mem_of_getElem? (i := 7) rfl)
theorem kk_X0_fillLine_8 : Cond.initialized "java/lang/Math" ∈ wsX0_fillLine := pm_X0_fillLine_r1 _ (List.mem_of_getElem? (i := 8) rfl)
theorem kk_X0_fillLine_9 : Cond.code Lib.Math.max.name Lib.Math.max.code 2 (some .int) ∈ wsX0_fillLine := pm_X0_fillLine_r1 _ (List.mem_of_getElem? (i := 9) rfl)
theorem kk_X0_fillLine_10 : Cond.fieldLink RX0 20 "PaidBySigns$CoinSearch" "felt" "[I" ∈ wsX0_fillLine := pm_X0_fillLine_r1 _ (List.mem_of_getElem? (i := 10) rfl)
theorem kk_X0_fillLine_11 : Cond.fieldLink RX0 58 "PaidBySigns$CoinSearch" "most" "I" ∈ wsX0_fillLine := pm_X0_fillLine_r1 _ (List.mem_of_getElem? (i := 11) rfl)
theorem kk_X1_forget_0 : Cond.fieldLink RX1 9 "PaidBySigns$Diary" "seen" "I" ∈ wsX1_forget := List.mem_cons_of_mem _ (List.mem_append_left _ (List.mem_of_getElem? (i := 0) rfl))
theorem kk_X1_forget_1 : Cond.fieldLink RX1 15 "PaidBySigns$Diary" "rights" "I" ∈ wsX1_forget := List.mem_cons_of_mem _ (List.mem_append_left _ (List.mem_of_getElem? (i := 1) rfl))
theorem kk_X1_forget_2 : Cond.fieldLink RX1 18 "PaidBySigns$Diary" "latestStep" "I" ∈ wsX1_forget := List.mem_cons_of_mem _ (List.mem_append_left _ (List.mem_of_getElem? (i := 2) rfl))
theorem kk_X1_canTell_0 : Cond.fieldLink RX1 18 "PaidBySigns$Diary" "latestStep" "I" ∈ wsX1_canTell := List.mem_cons_of_mem _ (List.mem_append_left _ (List.mem_of_getElem? (i := 0) rfl))
theorem kk_X1_canCorrect_0 : Cond.fieldLink RX1 9 "PaidBySigns$Diary" "seen" "I" ∈ wsX1_canCorrect := List.mem_cons_of_mem _ (List.mem_append_left _ (List.mem_of_getElem? (i := 0) rfl))
theorem kk_X1_canCorrect_1 : Cond.fieldLink RX1 21 "PaidBySigns$Diary" "seenStep" "[I" ∈ wsX1_canCorrect := List.mem_cons_of_mem _ (List.mem_append_left _ (List.mem_of_getElem? (i := 1) rfl))
theorem iw_X0_find_X3 : ∀ w ∈ wsX30, w ∈ wsX0_find := pw_X0_find_X3
theorem iw_X0_find_X0 : ∀ w ∈ wsX00, w ∈ wsX0_find := pw_X0_find_X0
theorem iw_X0_fillLine_X0 : ∀ w ∈ wsX00, w ∈ wsX0_fillLine := pw_X0_fillLine_X0
theorem iw_X0_fillLine_X3 : ∀ w ∈ wsX30, w ∈ wsX0_fillLine := pw_X0_fillLine_X3
theorem iw_X1_forget_X1 : ∀ w ∈ wsX10, w ∈ wsX1_forget := fun _ h => List.mem_cons_of_mem _ (List.mem_append_right _ h)
theorem iw_X1_canTell_X1 : ∀ w ∈ wsX10, w ∈ wsX1_canTell := fun _ h => List.mem_cons_of_mem _ (List.mem_append_right _ h)
theorem iw_X1_canCorrect_X1 : ∀ w ∈ wsX10, w ∈ wsX1_canCorrect := fun _ h => List.mem_cons_of_mem _ (List.mem_append_right _ h)
