def tyX0 : Nat → FieldType := fun k => match k with
  | 0 => .array .int
  | 1 => .int
  | 2 => .array .int
  | 3 => .array .int
  | 4 => .array (.array .int)
  | 5 => .array (.array .int)
  | 6 => .array (.array .int)
  | 7 => .array .int
  | 8 => .int
  | 9 => .int
  | _ => .int
theorem nmX0 : ∀ a, a < 11 → ∀ b, b < 11 → a ≠ b → (TX0 a).2.1 ≠ (TX0 b).2.1 := by decide +kernel
theorem tyX0_ok : ∀ k, k < 11 → parseFieldDescriptor (TX0 k).2.2.1 = some (tyX0 k) := by decide +kernel
abbrev cX0_place : ByteArray := prog_2_method_5_code
def yX0_place : MethodName := ⟨RX0, "place", "(II)V"⟩
abbrev cX0_canBeCheaper : ByteArray := prog_2_method_6_code
def yX0_canBeCheaper : MethodName := ⟨RX0, "canBeCheaper", "(II)Z"⟩
def wsX0_canBeCheaper : List Cond := .code yX0_canBeCheaper cX0_canBeCheaper 9 (some .boolean) :: ([.fieldLink RX0 16 "PaidBySigns$CoinSearch" "bestCost" "I", .fieldLink RX0 49 "PaidBySigns$CoinSearch" "lines" "I", .fieldLink RX0 45 "PaidBySigns$CoinSearch" "signs" "I", .fieldLink RX0 28 "PaidBySigns$CoinSearch" "share" "[[I", .fieldLink RX0 23 "PaidBySigns$CoinSearch" "own" "[I", .fieldLink RX0 34 "PaidBySigns$CoinSearch" "left" "[[I", .fieldLink RX0 20 "PaidBySigns$CoinSearch" "felt" "[I"] ++ wsX00)
def wsX0_place_r1 : List Cond := [Cond.fieldLink RX0 45 "PaidBySigns$CoinSearch" "signs" "I", Cond.fieldLink RX0 16 "PaidBySigns$CoinSearch" "bestCost" "I", Cond.fieldLink RX0 37 "PaidBySigns$CoinSearch" "tried" "[I", Cond.fieldLink RX0 9 "PaidBySigns$CoinSearch" "chosen" "[I", Cond.methodLink RX0 92 arraycopyName, Cond.native arraycopyName, Cond.static arraycopyName, Cond.initialized "java/lang/System", Cond.fieldLink RX0 23 "PaidBySigns$CoinSearch" "own" "[I", Cond.fieldLink RX0 49 "PaidBySigns$CoinSearch" "lines" "I", Cond.fieldLink RX0 34 "PaidBySigns$CoinSearch" "left" "[[I", Cond.fieldLink RX0 28 "PaidBySigns$CoinSearch" "share" "[[I", Cond.fieldLink RX0 20 "PaidBySigns$CoinSearch" "felt" "[I", Cond.methodLink RX0 98 yX0_lastCoin, Cond.instanceMethod yX0_lastCoin, Cond.selects RX0 yX0_lastCoin yX0_lastCoin, Cond.initialized RX0, Cond.code yX0_lastCoin cX0_lastCoin 4 (some .int), Cond.fieldLink RX0 58 "PaidBySigns$CoinSearch" "most" "I", Cond.methodLink RX0 108 yX0_isShort, Cond.instanceMethod yX0_isShort, Cond.selects RX0 yX0_isShort yX0_isShort, Cond.code yX0_isShort cX0_isShort 4 (some .boolean), Cond.fieldLink RX0 31 "PaidBySigns$CoinSearch" "rest" "[[I"]
def wsX0_place_r2 : List Cond := [Cond.methodLink RX0 101 yX0_firstCoin, Cond.instanceMethod yX0_firstCoin, Cond.selects RX0 yX0_firstCoin yX0_firstCoin, Cond.code yX0_firstCoin cX0_firstCoin 4 (some .int), Cond.methodLink RX0 104 yX0_canBeCheaper, Cond.instanceMethod yX0_canBeCheaper, Cond.selects RX0 yX0_canBeCheaper yX0_canBeCheaper, Cond.code yX0_canBeCheaper cX0_canBeCheaper 9 (some .boolean), Cond.methodLink RX0 72 yX0_place, Cond.instanceMethod yX0_place, Cond.selects RX0 yX0_place yX0_place]
def wsX0_place : List Cond := .code yX0_place cX0_place 7 none :: ((wsX0_place_r1 ++ wsX0_place_r2) ++ wsX00)
theorem pm_X0_place_r1 : ∀ w ∈ wsX0_place_r1, w ∈ wsX0_place := fun _ h => List.mem_cons_of_mem _ (List.mem_append_left _ (List.mem_append_left _ h))
theorem pm_X0_place_r2 : ∀ w ∈ wsX0_place_r2, w ∈ wsX0_place := fun _ h => List.mem_cons_of_mem _ (List.mem_append_left _ (List.mem_append_right _ (h)))
theorem pw_X0_place_X0 : ∀ w ∈ wsX00, w ∈ wsX0_place := fun _ h => List.mem_cons_of_mem _ (List.mem_append_right _ h)
set_option maxRecDepth 20000 in
theorem ggX0_place_X0_lastCoin : GoodIn wsX0_place wsX0_lastCoin := goodIn_sub (List.forall_mem_cons.mpr ⟨pm_X0_place_r1 _ (List.mem_of_getElem? (i := 17) rfl), List.forall_mem_append.mpr ⟨List.forall_mem_cons.mpr ⟨pm_X0_place_r1 _ (List.mem_of_getElem? (i := 8) rfl), List.forall_mem_cons.mpr ⟨pm_X0_place_r1 _ (List.mem_of_getElem? (i := 18) rfl), List.forall_mem_cons.mpr ⟨pm_X0_place_r1 _ (List.mem_of_getElem? (i := 9) rfl), List.forall_mem_cons.mpr ⟨pm_X0_place_r1 _ (List.mem_of_getElem? (i := 11) rfl), List.forall_mem_cons.mpr ⟨pm_X0_place_r1 _ (List.mem_of_getElem? (i := 19) rfl), List.forall_mem_cons.mpr ⟨pm_X0_place_r1 _ (List.mem_of_getElem? (i := 20) rfl), List.forall_mem_cons.mpr ⟨pm_X0_place_r1 _ (List.mem_of_getElem? (i := 21) rfl), List.forall_mem_cons.mpr ⟨pm_X0_place_r1 _ (List.mem_of_getElem? (i := 16) rfl), List.forall_mem_cons.mpr ⟨pm_X0_place_r1 _ (List.mem_of_getElem? (i := 22) rfl), List.forall_mem_cons.mpr ⟨pm_X0_place_r1 _ (List.mem_of_getElem? (i := 10) rfl), List.forall_mem_cons.mpr ⟨pm_X0_place_r1 _ (List.mem_of_getElem? (i := 12) rfl), List.forall_mem_cons.mpr ⟨pm_X0_place_r1 _ (List.mem_of_getElem? (i := 23) rfl), fun _ h => absurd h List.not_mem_nil⟩⟩⟩⟩⟩⟩⟩⟩⟩⟩⟩⟩, pw_X0_place_X0⟩⟩) (by decide +kernel)
set_option maxRecDepth 20000 in
theorem gX0_place_X0_lastCoin : GoodIn wsX0_place (wsV RX0 98 RX0 yX0_lastCoin wsX0_lastCoin) := goodIn_app (goodIn_of _ (by decide +kernel)) ggX0_place_X0_lastCoin
set_option maxRecDepth 20000 in
theorem ggX0_place_X0_firstCoin : GoodIn wsX0_place wsX0_firstCoin := goodIn_sub (List.forall_mem_cons.mpr ⟨pm_X0_place_r2 _ (List.mem_of_getElem? (i := 3) rfl), List.forall_mem_append.mpr ⟨List.forall_mem_cons.mpr ⟨pm_X0_place_r1 _ (List.mem_of_getElem? (i := 9) rfl), List.forall_mem_cons.mpr ⟨pm_X0_place_r1 _ (List.mem_of_getElem? (i := 18) rfl), List.forall_mem_cons.mpr ⟨pm_X0_place_r1 _ (List.mem_of_getElem? (i := 11) rfl), List.forall_mem_cons.mpr ⟨pm_X0_place_r1 _ (List.mem_of_getElem? (i := 19) rfl), List.forall_mem_cons.mpr ⟨pm_X0_place_r1 _ (List.mem_of_getElem? (i := 20) rfl), List.forall_mem_cons.mpr ⟨pm_X0_place_r1 _ (List.mem_of_getElem? (i := 21) rfl), List.forall_mem_cons.mpr ⟨pm_X0_place_r1 _ (List.mem_of_getElem? (i := 16) rfl), List.forall_mem_cons.mpr ⟨pm_X0_place_r1 _ (List.mem_of_getElem? (i := 22) rfl), List.forall_mem_cons.mpr ⟨pm_X0_place_r1 _ (List.mem_of_getElem? (i := 10) rfl), List.forall_mem_cons.mpr ⟨pm_X0_place_r1 _ (List.mem_of_getElem? (i := 12) rfl), List.forall_mem_cons.mpr ⟨pm_X0_place_r1 _ (List.mem_of_getElem? (i := 23) rfl), fun _ h => absurd h List.not_mem_nil⟩⟩⟩⟩⟩⟩⟩⟩⟩⟩⟩, pw_X0_place_X0⟩⟩) (by decide +kernel)
set_option maxRecDepth 20000 in
theorem gX0_place_X0_firstCoin : GoodIn wsX0_place (wsV RX0 101 RX0 yX0_firstCoin wsX0_firstCoin) := goodIn_app (goodIn_of _ (by decide +kernel)) ggX0_place_X0_firstCoin
set_option maxRecDepth 20000 in
theorem ggX0_place_X0_canBeCheaper : GoodIn wsX0_place wsX0_canBeCheaper := goodIn_sub (List.forall_mem_cons.mpr ⟨pm_X0_place_r2 _ (List.mem_of_getElem? (i := 7) rfl), List.forall_mem_append.mpr ⟨List.forall_mem_cons.mpr ⟨pm_X0_place_r1 _ (List.mem_of_getElem? (i := 1) rfl), List.forall_mem_cons.mpr ⟨pm_X0_place_r1 _ (List.mem_of_getElem? (i := 9) rfl), List.forall_mem_cons.mpr ⟨pm_X0_place_r1 _ (List.mem_of_getElem? (i := 0) rfl), List.forall_mem_cons.mpr ⟨pm_X0_place_r1 _ (List.mem_of_getElem? (i := 11) rfl), List.forall_mem_cons.mpr ⟨pm_X0_place_r1 _ (List.mem_of_getElem? (i := 8) rfl), List.forall_mem_cons.mpr ⟨pm_X0_place_r1 _ (List.mem_of_getElem? (i := 10) rfl), List.forall_mem_cons.mpr ⟨pm_X0_place_r1 _ (List.mem_of_getElem? (i := 12) rfl), fun _ h => absurd h List.not_mem_nil⟩⟩⟩⟩⟩⟩⟩, pw_X0_place_X0⟩⟩) (by decide +kernel)
set_option maxRecDepth 20000 in
theorem gX0_place_X0_canBeCheaper : GoodIn wsX0_place (wsV RX0 104 RX0 yX0_canBeCheaper wsX0_canBeCheaper) := goodIn_app (goodIn_of _ (by decide +kernel)) ggX0_place_X0_canBeCheaper
set_option maxRecDepth 20000 in
theorem pq_X0_place_X0_place_r1 : ∀ w ∈ wsX0_place_r1, w ∈ wsX0_place := List.forall_mem_cons.mpr ⟨pm_X0_place_r1 _ (List.mem_of_getElem? (i := 0) rfl), List.forall_mem_cons.mpr ⟨pm_X0_place_r1 _ (List.mem_of_getElem? (i := 1) rfl), List.forall_mem_cons.mpr ⟨pm_X0_place_r1 _ (List.mem_of_getElem? (i := 2) rfl), List.forall_mem_cons.mpr ⟨pm_X0_place_r1 _ (List.mem_of_getElem? (i := 3) rfl), List.forall_mem_cons.mpr ⟨pm_X0_place_r1 _ (List.mem_of_getElem? (i := 4) rfl), List.forall_mem_cons.mpr ⟨pm_X0_place_r1 _ (List.mem_of_getElem? (i := 5) rfl), List.forall_mem_cons.mpr ⟨pm_X0_place_r1 _ (List.mem_of_getElem? (i := 6) rfl), List.forall_mem_cons.mpr ⟨pm_X0_place_r1 _ (List.mem_of_getElem? (i := 7) rfl), List.forall_mem_cons.mpr ⟨pm_X0_place_r1 _ (List.mem_of_getElem? (i := 8) rfl), List.forall_mem_cons.mpr ⟨pm_X0_place_r1 _ (List.mem_of_getElem? (i := 9) rfl), List.forall_mem_cons.mpr ⟨pm_X0_place_r1 _ (List.mem_of_getElem? (i := 10) rfl), List.forall_mem_cons.mpr ⟨pm_X0_place_r1 _ (List.mem_of_getElem? (i := 11) rfl), List.forall_mem_cons.mpr ⟨pm_X0_place_r1 _ (List.mem_of_getElem? (i := 12) rfl), List.forall_mem_cons.mpr ⟨pm_X0_place_r1 _ (List.mem_of_getElem? (i := 13) rfl), List.forall_mem_cons.mpr ⟨pm_X0_place_r1 _ (List.mem_of_getElem? (i := 14) rfl), List.forall_mem_cons.mpr ⟨pm_X0_place_r1 _ (List.mem_of_getElem? (i := 15) rfl), List.forall_mem_cons.mpr ⟨pm_X0_place_r1 _ (List.mem_of_getElem? (i := 16) rfl), List.forall_mem_cons.mpr ⟨pm_X0_place_r1 _ (List.mem_of_getElem? (i := 17) rfl), List.forall_mem_cons.mpr ⟨pm_X0_place_r1 _ (List.mem_of_getElem? (i := 18) rfl), List.forall_mem_cons.mpr ⟨pm_X0_place_r1 _ (List.mem_of_getElem? (i := 19) rfl), List.forall_mem_cons.mpr ⟨pm_X0_place_r1 _ (List.mem_of_getElem? (i := 20) rfl), List.forall_mem_cons.mpr ⟨pm_X0_place_r1 _ (List.mem_of_getElem? (i := 21) rfl), List.forall_mem_cons.mpr ⟨pm_X0_place_r1 _ (List.mem_of_getElem? (i := 22) rfl), List.forall_mem_cons.mpr ⟨pm_X0_place_r1 _ (List.mem_of_getElem? (i := 23) rfl), fun _ h => absurd h List.not_mem_nil⟩⟩⟩⟩⟩⟩⟩⟩⟩⟩⟩⟩⟩⟩⟩⟩⟩⟩⟩⟩⟩⟩⟩⟩
set_option maxRecDepth 20000 in
theorem pq_X0_place_X0_place_r2 : ∀ w ∈ wsX0_place_r2, w ∈ wsX0_place := List.forall_mem_cons.mpr ⟨pm_X0_place_r2 _ (List.mem_of_getElem? (i := 0) rfl), List.forall_mem_cons.mpr ⟨pm_X0_place_r2 _ (List.mem_of_getElem? (i := 1) rfl), List.forall_mem_cons.mpr ⟨pm_X0_place_r2 _ (List.mem_of_getElem? (i := 2) rfl), List.forall_mem_cons.mpr ⟨pm_X0_place_r2 _ (List.mem_of_getElem? (i := 3) rfl), List.forall_mem_cons.mpr ⟨pm_X0_place_r2 _ (List.mem_of_getElem? (i := 4) rfl), List.forall_mem_cons.mpr ⟨pm_X0_place_r2 _ (List.mem_of_getElem? (i := 5) rfl), List.forall_mem_cons.mpr ⟨pm_X0_place_r2 _ (List.mem_of_getElem? (i := 6) rfl), List.forall_mem_cons.mpr ⟨pm_X0_place_r2 _ (List.mem_of_getElem? (i := 7) rfl), List.forall_mem_cons.mpr ⟨pm_X0_place_r2 _ (List.mem_of_getElem? (i := 8) rfl), List.forall_mem_cons.mpr ⟨pm_X0_place_r2 _ (List.mem_of_getElem? (i := 9) rfl), List.forall_mem_cons.mpr ⟨pm_X0_place_r2 _ (List.mem_of_getElem? (i := 10) rfl), fun _ h => absurd h List.not_mem_nil⟩⟩⟩⟩⟩⟩⟩⟩⟩⟩⟩
set_option maxRecDepth 20000 in
theorem ggX0_place_X0_place : GoodIn wsX0_place wsX0_place := goodIn_sub (List.forall_mem_cons.mpr ⟨List.mem_cons_self, List.forall_mem_append.mpr ⟨List.forall_mem_append.mpr ⟨pq_X0_place_X0_place_r1, pq_X0_place_X0_place_r2⟩, pw_X0_place_X0⟩⟩) (by decide +kernel)
set_option maxRecDepth 20000 in
theorem gX0_place_X0_place : GoodIn wsX0_place (wsV RX0 72 RX0 yX0_place wsX0_place) := goodIn_app (goodIn_of _ (by decide +kernel)) ggX0_place_X0_place
theorem dX0_place_0 : decode cX0_place 0 = .ok (.iload_n 1, 1) := by decide +kernel
theorem dX0_place_1 : decode cX0_place 1 = .ok (.aload_n 0, 1) := by decide +kernel
theorem dX0_place_2 : decode cX0_place 2 = .ok (.getfield 45, 3) := by decide +kernel
theorem dX0_place_5 : decode cX0_place 5 = .ok (.if_icmp .lt 26, 3) := by decide +kernel
theorem dX0_place_8 : decode cX0_place 8 = .ok (.aload_n 0, 1) := by decide +kernel
theorem dX0_place_9 : decode cX0_place 9 = .ok (.iload_n 2, 1) := by decide +kernel
theorem dX0_place_10 : decode cX0_place 10 = .ok (.putfield 16, 3) := by decide +kernel
theorem dX0_place_13 : decode cX0_place 13 = .ok (.aload_n 0, 1) := by decide +kernel
theorem dX0_place_14 : decode cX0_place 14 = .ok (.getfield 37, 3) := by decide +kernel
theorem dX0_place_17 : decode cX0_place 17 = .ok (.iconst 0, 1) := by decide +kernel
theorem dX0_place_18 : decode cX0_place 18 = .ok (.aload_n 0, 1) := by decide +kernel
theorem dX0_place_19 : decode cX0_place 19 = .ok (.getfield 9, 3) := by decide +kernel
theorem dX0_place_22 : decode cX0_place 22 = .ok (.iconst 0, 1) := by decide +kernel
theorem dX0_place_23 : decode cX0_place 23 = .ok (.aload_n 0, 1) := by decide +kernel
theorem dX0_place_24 : decode cX0_place 24 = .ok (.getfield 45, 3) := by decide +kernel
theorem dX0_place_27 : decode cX0_place 27 = .ok (.invokestatic 92, 3) := by decide +kernel
theorem dX0_place_30 : decode cX0_place 30 = .ok (.return_, 1) := by decide +kernel
theorem dX0_place_31 : decode cX0_place 31 = .ok (.aload_n 0, 1) := by decide +kernel
theorem dX0_place_32 : decode cX0_place 32 = .ok (.iload_n 1, 1) := by decide +kernel
theorem dX0_place_33 : decode cX0_place 33 = .ok (.invokevirtual 98, 3) := by decide +kernel
theorem dX0_place_36 : decode cX0_place 36 = .ok (.istore_n 3, 1) := by decide +kernel
theorem dX0_place_37 : decode cX0_place 37 = .ok (.aload_n 0, 1) := by decide +kernel
theorem dX0_place_38 : decode cX0_place 38 = .ok (.iload_n 1, 1) := by decide +kernel
theorem dX0_place_39 : decode cX0_place 39 = .ok (.invokevirtual 101, 3) := by decide +kernel
theorem dX0_place_42 : decode cX0_place 42 = .ok (.istore 4, 2) := by decide +kernel
theorem dX0_place_44 : decode cX0_place 44 = .ok (.iload 4, 2) := by decide +kernel
theorem dX0_place_46 : decode cX0_place 46 = .ok (.iload_n 3, 1) := by decide +kernel
theorem dX0_place_47 : decode cX0_place 47 = .ok (.if_icmp .gt 117, 3) := by decide +kernel
theorem dX0_place_50 : decode cX0_place 50 = .ok (.iload_n 2, 1) := by decide +kernel
theorem dX0_place_51 : decode cX0_place 51 = .ok (.aload_n 0, 1) := by decide +kernel
theorem dX0_place_52 : decode cX0_place 52 = .ok (.getfield 23, 3) := by decide +kernel
theorem dX0_place_55 : decode cX0_place 55 = .ok (.iload_n 1, 1) := by decide +kernel
theorem dX0_place_56 : decode cX0_place 56 = .ok (.iaload, 1) := by decide +kernel
theorem dX0_place_57 : decode cX0_place 57 = .ok (.iload 4, 2) := by decide +kernel
theorem dX0_place_59 : decode cX0_place 59 = .ok (.imul, 1) := by decide +kernel
theorem dX0_place_60 : decode cX0_place 60 = .ok (.iadd, 1) := by decide +kernel
theorem dX0_place_61 : decode cX0_place 61 = .ok (.istore 5, 2) := by decide +kernel
theorem dX0_place_63 : decode cX0_place 63 = .ok (.iload 5, 2) := by decide +kernel
theorem dX0_place_65 : decode cX0_place 65 = .ok (.aload_n 0, 1) := by decide +kernel
theorem dX0_place_66 : decode cX0_place 66 = .ok (.getfield 16, 3) := by decide +kernel
theorem dX0_place_69 : decode cX0_place 69 = .ok (.if_icmp .lt 4, 3) := by decide +kernel
theorem dX0_place_72 : decode cX0_place 72 = .ok (.return_, 1) := by decide +kernel
theorem dX0_place_73 : decode cX0_place 73 = .ok (.aload_n 0, 1) := by decide +kernel
theorem dX0_place_74 : decode cX0_place 74 = .ok (.getfield 37, 3) := by decide +kernel
theorem dX0_place_77 : decode cX0_place 77 = .ok (.iload_n 1, 1) := by decide +kernel
theorem dX0_place_78 : decode cX0_place 78 = .ok (.iload 4, 2) := by decide +kernel
theorem dX0_place_80 : decode cX0_place 80 = .ok (.iastore, 1) := by decide +kernel
theorem dX0_place_81 : decode cX0_place 81 = .ok (.iconst 0, 1) := by decide +kernel
theorem dX0_place_82 : decode cX0_place 82 = .ok (.istore 6, 2) := by decide +kernel
theorem dX0_place_84 : decode cX0_place 84 = .ok (.iload 6, 2) := by decide +kernel
theorem dX0_place_86 : decode cX0_place 86 = .ok (.aload_n 0, 1) := by decide +kernel
theorem dX0_place_87 : decode cX0_place 87 = .ok (.getfield 49, 3) := by decide +kernel
theorem dX0_place_90 : decode cX0_place 90 = .ok (.if_icmp .ge 47, 3) := by decide +kernel
theorem dX0_place_93 : decode cX0_place 93 = .ok (.aload_n 0, 1) := by decide +kernel
theorem dX0_place_94 : decode cX0_place 94 = .ok (.getfield 34, 3) := by decide +kernel
theorem dX0_place_97 : decode cX0_place 97 = .ok (.iload_n 1, 1) := by decide +kernel
theorem dX0_place_98 : decode cX0_place 98 = .ok (.iconst 1, 1) := by decide +kernel
theorem dX0_place_99 : decode cX0_place 99 = .ok (.iadd, 1) := by decide +kernel
theorem dX0_place_100 : decode cX0_place 100 = .ok (.aaload, 1) := by decide +kernel
theorem dX0_place_101 : decode cX0_place 101 = .ok (.iload 6, 2) := by decide +kernel
theorem dX0_place_103 : decode cX0_place 103 = .ok (.aload_n 0, 1) := by decide +kernel
theorem dX0_place_104 : decode cX0_place 104 = .ok (.getfield 34, 3) := by decide +kernel
theorem dX0_place_107 : decode cX0_place 107 = .ok (.iload_n 1, 1) := by decide +kernel
theorem dX0_place_108 : decode cX0_place 108 = .ok (.aaload, 1) := by decide +kernel
theorem dX0_place_109 : decode cX0_place 109 = .ok (.iload 6, 2) := by decide +kernel
theorem dX0_place_111 : decode cX0_place 111 = .ok (.iaload, 1) := by decide +kernel
theorem dX0_place_112 : decode cX0_place 112 = .ok (.aload_n 0, 1) := by decide +kernel
theorem dX0_place_113 : decode cX0_place 113 = .ok (.getfield 28, 3) := by decide +kernel
theorem dX0_place_116 : decode cX0_place 116 = .ok (.iload 6, 2) := by decide +kernel
theorem dX0_place_118 : decode cX0_place 118 = .ok (.aaload, 1) := by decide +kernel
theorem dX0_place_119 : decode cX0_place 119 = .ok (.iload_n 1, 1) := by decide +kernel
theorem dX0_place_120 : decode cX0_place 120 = .ok (.iaload, 1) := by decide +kernel
theorem dX0_place_121 : decode cX0_place 121 = .ok (.aload_n 0, 1) := by decide +kernel
theorem dX0_place_122 : decode cX0_place 122 = .ok (.getfield 20, 3) := by decide +kernel
theorem dX0_place_125 : decode cX0_place 125 = .ok (.iload 4, 2) := by decide +kernel
theorem dX0_place_127 : decode cX0_place 127 = .ok (.iaload, 1) := by decide +kernel
theorem dX0_place_128 : decode cX0_place 128 = .ok (.imul, 1) := by decide +kernel
theorem dX0_place_129 : decode cX0_place 129 = .ok (.isub, 1) := by decide +kernel
theorem dX0_place_130 : decode cX0_place 130 = .ok (.iastore, 1) := by decide +kernel
theorem dX0_place_131 : decode cX0_place 131 = .ok (.iinc 6 1, 3) := by decide +kernel
theorem dX0_place_134 : decode cX0_place 134 = .ok (.goto (-50), 3) := by decide +kernel
theorem dX0_place_137 : decode cX0_place 137 = .ok (.aload_n 0, 1) := by decide +kernel
theorem dX0_place_138 : decode cX0_place 138 = .ok (.iload_n 1, 1) := by decide +kernel
theorem dX0_place_139 : decode cX0_place 139 = .ok (.iconst 1, 1) := by decide +kernel
theorem dX0_place_140 : decode cX0_place 140 = .ok (.iadd, 1) := by decide +kernel
theorem dX0_place_141 : decode cX0_place 141 = .ok (.iload 5, 2) := by decide +kernel
theorem dX0_place_143 : decode cX0_place 143 = .ok (.invokevirtual 104, 3) := by decide +kernel
theorem dX0_place_146 : decode cX0_place 146 = .ok (.ifCond .eq 12, 3) := by decide +kernel
theorem dX0_place_149 : decode cX0_place 149 = .ok (.aload_n 0, 1) := by decide +kernel
theorem dX0_place_150 : decode cX0_place 150 = .ok (.iload_n 1, 1) := by decide +kernel
theorem dX0_place_151 : decode cX0_place 151 = .ok (.iconst 1, 1) := by decide +kernel
theorem dX0_place_152 : decode cX0_place 152 = .ok (.iadd, 1) := by decide +kernel
theorem dX0_place_153 : decode cX0_place 153 = .ok (.iload 5, 2) := by decide +kernel
theorem dX0_place_155 : decode cX0_place 155 = .ok (.invokevirtual 72, 3) := by decide +kernel
theorem dX0_place_158 : decode cX0_place 158 = .ok (.iinc 4 1, 3) := by decide +kernel
theorem dX0_place_161 : decode cX0_place 161 = .ok (.goto (-117), 3) := by decide +kernel
theorem dX0_place_164 : decode cX0_place 164 = .ok (.return_, 1) := by decide +kernel
theorem dX0_canBeCheaper_0 : decode cX0_canBeCheaper 0 = .ok (.aload_n 0, 1) := by decide +kernel
theorem dX0_canBeCheaper_1 : decode cX0_canBeCheaper 1 = .ok (.getfield 16, 3) := by decide +kernel
theorem dX0_canBeCheaper_4 : decode cX0_canBeCheaper 4 = .ok (.i2l, 1) := by decide +kernel
theorem dX0_canBeCheaper_5 : decode cX0_canBeCheaper 5 = .ok (.iload_n 2, 1) := by decide +kernel
theorem dX0_canBeCheaper_6 : decode cX0_canBeCheaper 6 = .ok (.i2l, 1) := by decide +kernel
theorem dX0_canBeCheaper_7 : decode cX0_canBeCheaper 7 = .ok (.lsub, 1) := by decide +kernel
theorem dX0_canBeCheaper_8 : decode cX0_canBeCheaper 8 = .ok (.lstore_n 3, 1) := by decide +kernel
theorem dX0_canBeCheaper_9 : decode cX0_canBeCheaper 9 = .ok (.iconst 0, 1) := by decide +kernel
theorem dX0_canBeCheaper_10 : decode cX0_canBeCheaper 10 = .ok (.istore 5, 2) := by decide +kernel
theorem dX0_canBeCheaper_12 : decode cX0_canBeCheaper 12 = .ok (.iload 5, 2) := by decide +kernel
theorem dX0_canBeCheaper_14 : decode cX0_canBeCheaper 14 = .ok (.aload_n 0, 1) := by decide +kernel
theorem dX0_canBeCheaper_15 : decode cX0_canBeCheaper 15 = .ok (.getfield 49, 3) := by decide +kernel
theorem dX0_canBeCheaper_18 : decode cX0_canBeCheaper 18 = .ok (.if_icmp .ge 130, 3) := by decide +kernel
theorem dX0_canBeCheaper_21 : decode cX0_canBeCheaper 21 = .ok (.iconst 0, 1) := by decide +kernel
theorem dX0_canBeCheaper_22 : decode cX0_canBeCheaper 22 = .ok (.istore 6, 2) := by decide +kernel
theorem dX0_canBeCheaper_24 : decode cX0_canBeCheaper 24 = .ok (.iconst 1, 1) := by decide +kernel
theorem dX0_canBeCheaper_25 : decode cX0_canBeCheaper 25 = .ok (.istore 7, 2) := by decide +kernel
theorem dX0_canBeCheaper_27 : decode cX0_canBeCheaper 27 = .ok (.iload_n 1, 1) := by decide +kernel
theorem dX0_canBeCheaper_28 : decode cX0_canBeCheaper 28 = .ok (.istore 8, 2) := by decide +kernel
theorem dX0_canBeCheaper_30 : decode cX0_canBeCheaper 30 = .ok (.iload 8, 2) := by decide +kernel
theorem dX0_canBeCheaper_32 : decode cX0_canBeCheaper 32 = .ok (.aload_n 0, 1) := by decide +kernel
theorem dX0_canBeCheaper_33 : decode cX0_canBeCheaper 33 = .ok (.getfield 45, 3) := by decide +kernel
theorem dX0_canBeCheaper_36 : decode cX0_canBeCheaper 36 = .ok (.if_icmp .ge 56, 3) := by decide +kernel
theorem dX0_canBeCheaper_39 : decode cX0_canBeCheaper 39 = .ok (.aload_n 0, 1) := by decide +kernel
theorem dX0_canBeCheaper_40 : decode cX0_canBeCheaper 40 = .ok (.getfield 28, 3) := by decide +kernel
theorem dX0_canBeCheaper_43 : decode cX0_canBeCheaper 43 = .ok (.iload 5, 2) := by decide +kernel
theorem dX0_canBeCheaper_45 : decode cX0_canBeCheaper 45 = .ok (.aaload, 1) := by decide +kernel
theorem dX0_canBeCheaper_46 : decode cX0_canBeCheaper 46 = .ok (.iload 8, 2) := by decide +kernel
theorem dX0_canBeCheaper_48 : decode cX0_canBeCheaper 48 = .ok (.iaload, 1) := by decide +kernel
theorem dX0_canBeCheaper_49 : decode cX0_canBeCheaper 49 = .ok (.iload 7, 2) := by decide +kernel
theorem dX0_canBeCheaper_51 : decode cX0_canBeCheaper 51 = .ok (.imul, 1) := by decide +kernel
theorem dX0_canBeCheaper_52 : decode cX0_canBeCheaper 52 = .ok (.iload 6, 2) := by decide +kernel
theorem dX0_canBeCheaper_54 : decode cX0_canBeCheaper 54 = .ok (.aload_n 0, 1) := by decide +kernel
theorem dX0_canBeCheaper_55 : decode cX0_canBeCheaper 55 = .ok (.getfield 23, 3) := by decide +kernel
theorem dX0_canBeCheaper_58 : decode cX0_canBeCheaper 58 = .ok (.iload 8, 2) := by decide +kernel
theorem dX0_canBeCheaper_60 : decode cX0_canBeCheaper 60 = .ok (.iaload, 1) := by decide +kernel
theorem dX0_canBeCheaper_61 : decode cX0_canBeCheaper 61 = .ok (.imul, 1) := by decide +kernel
theorem dX0_canBeCheaper_62 : decode cX0_canBeCheaper 62 = .ok (.if_icmp .le 24, 3) := by decide +kernel
theorem dX0_canBeCheaper_65 : decode cX0_canBeCheaper 65 = .ok (.aload_n 0, 1) := by decide +kernel
theorem dX0_canBeCheaper_66 : decode cX0_canBeCheaper 66 = .ok (.getfield 28, 3) := by decide +kernel
theorem dX0_canBeCheaper_69 : decode cX0_canBeCheaper 69 = .ok (.iload 5, 2) := by decide +kernel
theorem dX0_canBeCheaper_71 : decode cX0_canBeCheaper 71 = .ok (.aaload, 1) := by decide +kernel
theorem dX0_canBeCheaper_72 : decode cX0_canBeCheaper 72 = .ok (.iload 8, 2) := by decide +kernel
theorem dX0_canBeCheaper_74 : decode cX0_canBeCheaper 74 = .ok (.iaload, 1) := by decide +kernel
theorem dX0_canBeCheaper_75 : decode cX0_canBeCheaper 75 = .ok (.istore 6, 2) := by decide +kernel
theorem dX0_canBeCheaper_77 : decode cX0_canBeCheaper 77 = .ok (.aload_n 0, 1) := by decide +kernel
theorem dX0_canBeCheaper_78 : decode cX0_canBeCheaper 78 = .ok (.getfield 23, 3) := by decide +kernel
theorem dX0_canBeCheaper_81 : decode cX0_canBeCheaper 81 = .ok (.iload 8, 2) := by decide +kernel
theorem dX0_canBeCheaper_83 : decode cX0_canBeCheaper 83 = .ok (.iaload, 1) := by decide +kernel
theorem dX0_canBeCheaper_84 : decode cX0_canBeCheaper 84 = .ok (.istore 7, 2) := by decide +kernel
theorem dX0_canBeCheaper_86 : decode cX0_canBeCheaper 86 = .ok (.iinc 8 1, 3) := by decide +kernel
theorem dX0_canBeCheaper_89 : decode cX0_canBeCheaper 89 = .ok (.goto (-59), 3) := by decide +kernel
theorem dX0_canBeCheaper_92 : decode cX0_canBeCheaper 92 = .ok (.iload 6, 2) := by decide +kernel
theorem dX0_canBeCheaper_94 : decode cX0_canBeCheaper 94 = .ok (.ifCond .le 48, 3) := by decide +kernel
theorem dX0_canBeCheaper_97 : decode cX0_canBeCheaper 97 = .ok (.aload_n 0, 1) := by decide +kernel
theorem dX0_canBeCheaper_98 : decode cX0_canBeCheaper 98 = .ok (.getfield 34, 3) := by decide +kernel
theorem dX0_canBeCheaper_101 : decode cX0_canBeCheaper 101 = .ok (.iload_n 1, 1) := by decide +kernel
theorem dX0_canBeCheaper_102 : decode cX0_canBeCheaper 102 = .ok (.aaload, 1) := by decide +kernel
theorem dX0_canBeCheaper_103 : decode cX0_canBeCheaper 103 = .ok (.iload 5, 2) := by decide +kernel
theorem dX0_canBeCheaper_105 : decode cX0_canBeCheaper 105 = .ok (.iaload, 1) := by decide +kernel
theorem dX0_canBeCheaper_106 : decode cX0_canBeCheaper 106 = .ok (.ifCond .le 36, 3) := by decide +kernel
theorem dX0_canBeCheaper_109 : decode cX0_canBeCheaper 109 = .ok (.aload_n 0, 1) := by decide +kernel
theorem dX0_canBeCheaper_110 : decode cX0_canBeCheaper 110 = .ok (.getfield 34, 3) := by decide +kernel
theorem dX0_canBeCheaper_113 : decode cX0_canBeCheaper 113 = .ok (.iload_n 1, 1) := by decide +kernel
theorem dX0_canBeCheaper_114 : decode cX0_canBeCheaper 114 = .ok (.aaload, 1) := by decide +kernel
theorem dX0_canBeCheaper_115 : decode cX0_canBeCheaper 115 = .ok (.iload 5, 2) := by decide +kernel
theorem dX0_canBeCheaper_117 : decode cX0_canBeCheaper 117 = .ok (.iaload, 1) := by decide +kernel
theorem dX0_canBeCheaper_118 : decode cX0_canBeCheaper 118 = .ok (.i2l, 1) := by decide +kernel
theorem dX0_canBeCheaper_119 : decode cX0_canBeCheaper 119 = .ok (.iload 7, 2) := by decide +kernel
theorem dX0_canBeCheaper_121 : decode cX0_canBeCheaper 121 = .ok (.i2l, 1) := by decide +kernel
theorem dX0_canBeCheaper_122 : decode cX0_canBeCheaper 122 = .ok (.lmul, 1) := by decide +kernel
theorem dX0_canBeCheaper_123 : decode cX0_canBeCheaper 123 = .ok (.lload_n 3, 1) := by decide +kernel
theorem dX0_canBeCheaper_124 : decode cX0_canBeCheaper 124 = .ok (.iload 6, 2) := by decide +kernel
theorem dX0_canBeCheaper_126 : decode cX0_canBeCheaper 126 = .ok (.i2l, 1) := by decide +kernel
theorem dX0_canBeCheaper_127 : decode cX0_canBeCheaper 127 = .ok (.lmul, 1) := by decide +kernel
theorem dX0_canBeCheaper_128 : decode cX0_canBeCheaper 128 = .ok (.aload_n 0, 1) := by decide +kernel
theorem dX0_canBeCheaper_129 : decode cX0_canBeCheaper 129 = .ok (.getfield 20, 3) := by decide +kernel
theorem dX0_canBeCheaper_132 : decode cX0_canBeCheaper 132 = .ok (.iconst 1, 1) := by decide +kernel
theorem dX0_canBeCheaper_133 : decode cX0_canBeCheaper 133 = .ok (.iaload, 1) := by decide +kernel
theorem dX0_canBeCheaper_134 : decode cX0_canBeCheaper 134 = .ok (.i2l, 1) := by decide +kernel
theorem dX0_canBeCheaper_135 : decode cX0_canBeCheaper 135 = .ok (.lmul, 1) := by decide +kernel
theorem dX0_canBeCheaper_136 : decode cX0_canBeCheaper 136 = .ok (.lcmp, 1) := by decide +kernel
theorem dX0_canBeCheaper_137 : decode cX0_canBeCheaper 137 = .ok (.ifCond .lt 5, 3) := by decide +kernel
theorem dX0_canBeCheaper_140 : decode cX0_canBeCheaper 140 = .ok (.iconst 0, 1) := by decide +kernel
theorem dX0_canBeCheaper_141 : decode cX0_canBeCheaper 141 = .ok (.ireturn, 1) := by decide +kernel
theorem dX0_canBeCheaper_142 : decode cX0_canBeCheaper 142 = .ok (.iinc 5 1, 3) := by decide +kernel
theorem dX0_canBeCheaper_145 : decode cX0_canBeCheaper 145 = .ok (.goto (-133), 3) := by decide +kernel
theorem dX0_canBeCheaper_148 : decode cX0_canBeCheaper 148 = .ok (.iconst 1, 1) := by decide +kernel
theorem dX0_canBeCheaper_149 : decode cX0_canBeCheaper 149 = .ok (.ireturn, 1) := by decide +kernel
theorem kk_X0_place_0 : Cond.fieldLink RX0 45 "PaidBySigns$CoinSearch" "signs" "I" ∈ wsX0_place := pm_X0_place_r1 _ (List.mem_of_getElem? (i := 0) rfl)
theorem kk_X0_place_1 : Cond.fieldLink RX0 23 "PaidBySigns$CoinSearch" "own" "[I" ∈ wsX0_place := pm_X0_place_r1 _ (List.mem_of_getElem? (i := 8) rfl)
theorem kk_X0_place_2 : Cond.fieldLink RX0 16 "PaidBySigns$CoinSearch" "bestCost" "I" ∈ wsX0_place := pm_X0_place_r1 _ (List.mem_of_getElem? (i := 1) rfl)
theorem kk_X0_place_3 : Cond.fieldLink RX0 37 "PaidBySigns$CoinSearch" "tried" "[I" ∈ wsX0_place := pm_X0_place_r1 _ (List.mem_of_getElem? (i := 2) rfl)
theorem kk_X0_place_4 : Cond.fieldLink RX0 49 "PaidBySigns$CoinSearch" "lines" "I" ∈ wsX0_place := pm_X0_place_r1 _ (List.mem_of_getElem? (i := 9) rfl)
theorem kk_X0_canBeCheaper_0 : Cond.fieldLink RX0 16 "PaidBySigns$CoinSearch" "bestCost" "I" ∈ wsX0_canBeCheaper := by decide +kernel
theorem kk_X0_canBeCheaper_1 : Cond.fieldLink RX0 49 "PaidBySigns$CoinSearch" "lines" "I" ∈ wsX0_canBeCheaper := by decide +kernel
theorem kk_X0_canBeCheaper_2 : Cond.fieldLink RX0 45 "PaidBySigns$CoinSearch" "signs" "I" ∈ wsX0_canBeCheaper := by decide +kernel
theorem kk_X0_canBeCheaper_3 : Cond.fieldLink RX0 28 "PaidBySigns$CoinSearch" "share" "[[I" ∈ wsX0_canBeCheaper := by decide +kernel
theorem kk_X0_canBeCheaper_4 : Cond.fieldLink RX0 23 "PaidBySigns$CoinSearch" "own" "[I" ∈ wsX0_canBeCheaper := by decide +kernel
theorem kk_X0_canBeCheaper_5 : Cond.fieldLink RX0 34 "PaidBySigns$CoinSearch" "left" "[[I" ∈ wsX0_canBeCheaper := by decide +kernel
theorem kk_X0_canBeCheaper_6 : Cond.fieldLink RX0 20 "PaidBySigns$CoinSearch" "felt" "[I" ∈ wsX0_canBeCheaper := by decide +kernel
theorem kk_X0_place_5 : Cond.fieldLink RX0 9 "PaidBySigns$CoinSearch" "chosen" "[I" ∈ wsX0_place := pm_X0_place_r1 _ (List.mem_of_getElem? (i := 3) rfl)
theorem kk_X0_place_6 : Cond.methodLink RX0 92 arraycopyName ∈ wsX0_place := pm_X0_place_r1 _ (List.mem_of_getElem? (i := 4) rfl)
theorem kk_X0_place_7 : Cond.native arraycopyName ∈ wsX0_place := pm_X0_place_r1 _ (List.mem_of_getElem? (i := 5) rfl)
theorem kk_X0_place_8 : Cond.static arraycopyName ∈ wsX0_place := pm_X0_place_r1 _ (List.mem_of_getElem? (i := 6) rfl)
theorem kk_X0_place_9 : Cond.initialized "java/lang/System" ∈ wsX0_place := pm_X0_place_r1 _ (List.mem_of_getElem? (i := 7) rfl)
theorem kk_X0_place_10 : Cond.fieldLink RX0 34 "PaidBySigns$CoinSearch" "left" "[[I" ∈ wsX0_place := pm_X0_place_r1 _ (List.mem_of_getElem? (i := 10) rfl)
theorem kk_X0_place_11 : Cond.fieldLink RX0 28 "PaidBySigns$CoinSearch" "share" "[[I" ∈ wsX0_place := pm_X0_place_r1 _ (List.mem_of_getElem? (i := 11) rfl)
theorem kk_X0_place_12 : Cond.fieldLink RX0 20 "PaidBySigns$CoinSearch" "felt" "[I" ∈ wsX0_place := pm_X0_place_r1 _ (List.mem_of_getElem? (i := 12) rfl)
theorem iw_X0_place_X0 : ∀ w ∈ wsX00, w ∈ wsX0_place := pw_X0_place_X0
theorem iw_X0_canBeCheaper_X0 : ∀ w ∈ wsX00, w ∈ wsX0_canBeCheaper := by decide +kernel
