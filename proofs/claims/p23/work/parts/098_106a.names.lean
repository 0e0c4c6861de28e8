abbrev cX3_lackOf : ByteArray := prog_5_method_8_code
def yX3_lackOf : MethodName := ⟨RX3, "lackOf", "(II)I"⟩
def wsX3_lackOf : List Cond := .code yX3_lackOf cX3_lackOf 3 (some .int) :: ([.fieldLink RX3 15 "PaidBySigns$Hire" "costs" "[I", .fieldLink RX3 42 "PaidBySigns$Hire" "otherwise" "I", .fieldLink RX3 45 "PaidBySigns$Hire" "least" "I", .methodLink RX3 63 yX3_feltOf, .instanceMethod yX3_feltOf, .selects RX3 yX3_feltOf yX3_feltOf, .initialized RX3, .code yX3_feltOf cX3_feltOf 6 (some .int), .fieldLink RX3 48 "PaidBySigns$Hire" "rates" "I", .fieldLink RX3 26 "PaidBySigns$Hire" "mark" "[I", .methodLink RX3 51 Lib.Math.min.name, .static Lib.Math.min.name, .initialized "java/lang/Math", .code Lib.Math.min.name Lib.Math.min.code 2 (some .int), .fieldLink RX3 23 "PaidBySigns$Hire" "rate" "[I"] ++ wsX30)
set_option maxRecDepth 20000 in
theorem ggX0_place_X0_lastCoin : GoodIn wsX0_place wsX0_lastCoin := goodIn_sub (List.forall_mem_cons.mpr ⟨pm_X0_place_r1 _ (List.mem_of_getElem? (i := 17) rfl), List.forall_mem_append.mpr ⟨List.forall_mem_cons.mpr ⟨pm_X0_place_r1 _ (List.mem_of_getElem? (i := 8) rfl), List.forall_mem_cons.mpr ⟨pm_X0_place_r1 _ (List.mem_of_getElem? (i := 18) rfl), List.forall_mem_cons.mpr ⟨pm_X0_place_r1 _ (List.mem_of_getElem? (i := 9) rfl), List.forall_mem_cons.mpr ⟨pm_X0_place_r1 _ (List.mem_of_getElem? (i := 11) rfl), List.forall_mem_cons.mpr ⟨pm_X0_place_r1 _ (List.mem_of_getElem? (i := 19) rfl), List.forall_mem_cons.mpr ⟨pm_X0_place_r1 _ (List.mem_of_getElem? (i := 20) rfl), List.forall_mem_cons.mpr ⟨pm_X0_place_r1 _ (List.mem_of_getElem? (i := 21) rfl), List.forall_mem_cons.mpr ⟨pm_X0_place_r1 _ (List.mem_of_getElem? (i := 16) rfl), List.forall_mem_cons.mpr ⟨pm_X0_place_r1 _ (List.mem_of_getElem? (i := 22) rfl), List.forall_mem_cons.mpr ⟨pm_X0_place_r1 _ (List.mem_of_getElem? (i := 10) rfl), List.forall_mem_cons.mpr ⟨pm_X0_place_r1 _ (List.mem_of_getElem? (i := 12) rfl), List.forall_mem_cons.mpr ⟨pm_X0_place_r1 _ (List.mem_of_getElem? (i := 23) rfl), fun _ h => absurd h List.not_mem_nil⟩⟩⟩⟩⟩⟩⟩⟩⟩⟩⟩⟩, pw_X0_place_X0⟩⟩) (by decide +kernel)
set_option maxRecDepth 20000 in
theorem gX0_place_X0_lastCoin : GoodIn wsX0_place (wsV RX0 98 RX0 yX0_lastCoin wsX0_lastCoin) := goodIn_app (goodIn_sub (List.forall_mem_cons.mpr ⟨pm_X0_place_r1 _ (List.mem_of_getElem? (i := 13) rfl), List.forall_mem_cons.mpr ⟨pm_X0_place_r1 _ (List.mem_of_getElem? (i := 14) rfl), List.forall_mem_cons.mpr ⟨pm_X0_place_r1 _ (List.mem_of_getElem? (i := 15) rfl), List.forall_mem_cons.mpr ⟨pm_X0_place_r1 _ (List.mem_of_getElem? (i := 16) rfl), fun _ h => absurd h List.not_mem_nil⟩⟩⟩⟩) (by decide +kernel)) ggX0_place_X0_lastCoin
set_option maxRecDepth 20000 in
theorem ggX0_place_X0_firstCoin : GoodIn wsX0_place wsX0_firstCoin := goodIn_sub (List.forall_mem_cons.mpr ⟨pm_X0_place_r2 _ (List.mem_of_getElem? (i := 3) rfl), List.forall_mem_append.mpr ⟨List.forall_mem_cons.mpr ⟨pm_X0_place_r1 _ (List.mem_of_getElem? (i := 9) rfl), List.forall_mem_cons.mpr ⟨pm_X0_place_r1 _ (List.mem_of_getElem? (i := 18) rfl), List.forall_mem_cons.mpr ⟨pm_X0_place_r1 _ (List.mem_of_getElem? (i := 11) rfl), List.forall_mem_cons.mpr ⟨pm_X0_place_r1 _ (List.mem_of_getElem? (i := 19) rfl), List.forall_mem_cons.mpr ⟨pm_X0_place_r1 _ (List.mem_of_getElem? (i := 20) rfl), List.forall_mem_cons.mpr ⟨pm_X0_place_r1 _ (List.mem_of_getElem? (i := 21) rfl), List.forall_mem_cons.mpr ⟨pm_X0_place_r1 _ (List.mem_of_getElem? (i := 16) rfl), List.forall_mem_cons.mpr ⟨pm_X0_place_r1 _ (List.mem_of_getElem? (i := 22) rfl), List.forall_mem_cons.mpr ⟨pm_X0_place_r1 _ (List.mem_of_getElem? (i := 10) rfl), List.forall_mem_cons.mpr ⟨pm_X0_place_r1 _ (List.mem_of_getElem? (i := 12) rfl), List.forall_mem_cons.mpr ⟨pm_X0_place_r1 _ (List.mem_of_getElem? (i := 23) rfl), fun _ h => absurd h List.not_mem_nil⟩⟩⟩⟩⟩⟩⟩⟩⟩⟩⟩, pw_X0_place_X0⟩⟩) (by decide +kernel)
set_option maxRecDepth 20000 in
theorem gX0_place_X0_firstCoin : GoodIn wsX0_place (wsV RX0 101 RX0 yX0_firstCoin wsX0_firstCoin) := goodIn_app (goodIn_sub (List.forall_mem_cons.mpr ⟨pm_X0_place_r2 _ (List.mem_of_getElem? (i := 0) rfl), List.forall_mem_cons.mpr ⟨pm_X0_place_r2 _ (List.mem_of_getElem? (i := 1) rfl), List.forall_mem_cons.mpr ⟨pm_X0_place_r2 _ (List.mem_of_getElem? (i := 2) rfl), List.forall_mem_cons.mpr ⟨pm_X0_place_r1 _ (List.mem_of_getElem? (i := 16) rfl), fun _ h => absurd h List.not_mem_nil⟩⟩⟩⟩) (by decide +kernel)) ggX0_place_X0_firstCoin
set_option maxRecDepth 20000 in
theorem ggX0_place_X0_canBeCheaper : GoodIn wsX0_place wsX0_canBeCheaper := goodIn_sub (List.forall_mem_cons.mpr ⟨pm_X0_place_r2 _ (List.mem_of_getElem? (i := 7) rfl), List.forall_mem_append.mpr ⟨List.forall_mem_cons.mpr ⟨pm_X0_place_r1 _ (List.mem_of_getElem? (i := 1) rfl), List.forall_mem_cons.mpr ⟨pm_X0_place_r1 _ (List.mem_of_getElem? (i := 9) rfl), List.forall_mem_cons.mpr ⟨pm_X0_place_r1 _ (List.mem_of_getElem? (i := 0) rfl), List.forall_mem_cons.mpr ⟨pm_X0_place_r1 _ (List.mem_of_getElem? (i := 11) rfl), List.forall_mem_cons.mpr ⟨pm_X0_place_r1 _ (List.mem_of_getElem? (i := 8) rfl), List.forall_mem_cons.mpr ⟨pm_X0_place_r1 _ (List.mem_of_getElem? (i := 10) rfl), List.forall_mem_cons.mpr ⟨pm_X0_place_r1 _ (List.mem_of_getElem? (i := 12) rfl), fun _ h => absurd h List.not_mem_nil⟩⟩⟩⟩⟩⟩⟩, pw_X0_place_X0⟩⟩) (by decide +kernel)
set_option maxRecDepth 20000 in
theorem gX0_place_X0_canBeCheaper : GoodIn wsX0_place (wsV RX0 104 RX0 yX0_canBeCheaper wsX0_canBeCheaper) := goodIn_app (goodIn_sub (List.forall_mem_cons.mpr ⟨pm_X0_place_r2 _ (List.mem_of_getElem? (i := 4) rfl), List.forall_mem_cons.mpr ⟨pm_X0_place_r2 _ (List.mem_of_getElem? (i := 5) rfl), List.forall_mem_cons.mpr ⟨pm_X0_place_r2 _ (List.mem_of_getElem? (i := 6) rfl), List.forall_mem_cons.mpr ⟨pm_X0_place_r1 _ (List.mem_of_getElem? (i := 16) rfl), fun _ h => absurd h List.not_mem_nil⟩⟩⟩⟩) (by decide +kernel)) ggX0_place_X0_canBeCheaper
set_option maxRecDepth 20000 in
theorem pq_X0_place_X0_place_r1 : ∀ w ∈ wsX0_place_r1, w ∈ wsX0_place := List.forall_mem_cons.mpr ⟨pm_X0_place_r1 _ (List.mem_of_getElem? (i := 0) rfl), List.forall_mem_cons.mpr ⟨pm_X0_place_r1 _ (List.mem_of_getElem? (i := 1) rfl), List.forall_mem_cons.mpr ⟨pm_X0_place_r1 _ (List.mem_of_getElem? (i := 2) rfl), List.forall_mem_cons.mpr ⟨pm_X0_place_r1 _ (List.mem_of_getElem? (i := 3) rfl), List.forall_mem_cons.mpr ⟨pm_X0_place_r1 _ (List.mem_of_getElem? (i := 4) rfl), List.forall_mem_cons.mpr ⟨pm_X0_place_r1 _ (List.mem_of_getElem? (i := 5) rfl), List.forall_mem_cons.mpr ⟨pm_X0_place_r1 _ (List.mem_of_getElem? (i := 6) rfl), List.forall_mem_cons.mpr ⟨pm_X0_place_r1 _ (List.mem_of_getElem? (i := 7) rfl), List.forall_mem_cons.mpr ⟨pm_X0_place_r1 _ (List.mem_of_getElem? (i := 8) rfl), List.forall_mem_cons.mpr ⟨pm_X0_place_r1 _ (List.mem_of_getElem? (i := 9) rfl), List.forall_mem_cons.mpr ⟨pm_X0_place_r1 _ (List.mem_of_getElem? (i := 10) rfl), List.forall_mem_cons.mpr ⟨pm_X0_place_r1 _ (List.mem_of_getElem? (i := 11) rfl), List.forall_mem_cons.mpr ⟨pm_X0_place_r1 _ (List.mem_of_getElem? (i := 12) rfl), List.forall_mem_cons.mpr ⟨pm_X0_place_r1 _ (List.mem_of_getElem? (i := 13) rfl), List.forall_mem_cons.mpr ⟨pm_X0_place_r1 _ (List.mem_of_getElem? (i := 14) rfl), List.forall_mem_cons.mpr ⟨pm_X0_place_r1 _ (List.mem_of_getElem? (i := 15) rfl), List.forall_mem_cons.mpr ⟨pm_X0_place_r1 _ (List.mem_of_getElem? (i := 16) rfl), List.forall_mem_cons.mpr ⟨pm_X0_place_r1 _ (List.mem_of_getElem? (i := 17) rfl), List.forall_mem_cons.mpr ⟨pm_X0_place_r1 _ (List.mem_of_getElem? (i := 18) rfl), List.forall_mem_cons.mpr ⟨pm_X0_place_r1 _ (List.mem_of_getElem? (i := 19) rfl), List.forall_mem_cons.mpr ⟨pm_X0_place_r1 _ (List.mem_of_getElem? (i := 20) rfl), List.forall_mem_cons.mpr ⟨pm_X0_place_r1 _ (List.mem_of_getElem? (i := 21) rfl), List.forall_mem_cons.mpr ⟨pm_X0_place_r1 _ (List.mem_of_getElem? (i := 22) rfl), List.forall_mem_cons.mpr ⟨pm_X0_place_r1 _ (List.mem_of_getElem? (i := 23) rfl), fun _ h => absurd h List.not_mem_nil⟩⟩⟩⟩⟩⟩⟩⟩⟩⟩⟩⟩⟩⟩⟩⟩⟩⟩⟩⟩⟩⟩⟩⟩
set_option maxRecDepth 20000 in
theorem pq_X0_place_X0_place_r2 : ∀ w ∈ wsX0_place_r2, w ∈ wsX0_place := List.forall_mem_cons.mpr ⟨pm_X0_place_r2 _ (List.mem_of_getElem? (i := 0) rfl), List.forall_mem_cons.mpr ⟨pm_X0_place_r2 _ (List.mem_of_getElem? (i := 1) rfl), List.forall_mem_cons.mpr ⟨pm_X0_place_r2 _ (List.mem_of_getElem? (i := 2) rfl), List.forall_mem_cons.mpr ⟨pm_X0_place_r2 _ (List.mem_of_getElem? (i := 3) rfl), List.forall_mem_cons.mpr ⟨pm_X0_place_r2 _ (List.mem_of_getElem? (i := 4) rfl), List.forall_mem_cons.mpr ⟨pm_X0_place_r2 _ (List.mem_of_getElem? (i := 5) rfl), List.forall_mem_cons.mpr ⟨pm_X0_place_r2 _ (List.mem_of_getElem? (i := 6) rfl), List.forall_mem_cons.mpr ⟨pm_X0_place_r2 _ (List.mem_of_getElem? (i := 7) rfl), List.forall_mem_cons.mpr ⟨pm_X0_place_r2 _ (List.mem_of_getElem? (i := 8) rfl), List.forall_mem_cons.mpr ⟨pm_X0_place_r2 _ (List.mem_of_getElem? (i := 9) rfl), List.forall_mem_cons.mpr ⟨pm_X0_place_r2 _ (List.mem_of_getElem? (i := 10) rfl), fun _ h => absurd h List.not_mem_nil⟩⟩⟩⟩⟩⟩⟩⟩⟩⟩⟩
set_option maxRecDepth 20000 in
theorem ggX0_place_X0_place : GoodIn wsX0_place wsX0_place := goodIn_sub (List.forall_mem_cons.mpr ⟨List.mem_cons_self, List.forall_mem_append.mpr ⟨List.forall_mem_append.mpr ⟨pq_X0_place_X0_place_r1, pq_X0_place_X0_place_r2⟩, pw_X0_place_X0⟩⟩) (by decide +kernel)
set_option maxRecDepth 20000 in
theorem gX0_place_X0_place : GoodIn wsX0_place (wsV RX0 72 RX0 yX0_place wsX0_place) := goodIn_app (goodIn_sub (List.forall_mem_cons.mpr ⟨pm_X0_place_r2 _ (List.mem_of_getElem? (i := 8) rfl), List.forall_mem_cons.mpr ⟨pm_X0_place_r2 _ (List.mem_of_getElem? (i := 9) rfl), List.forall_mem_cons.mpr ⟨pm_X0_place_r2 _ (List.mem_of_getElem? (i := 10) rfl), List.forall_mem_cons.mpr ⟨pm_X0_place_r1 _ (List.mem_of_getElem? (i := 16) rfl), fun _ h => absurd h List.not_mem_nil⟩⟩⟩⟩) (by decide +kernel)) ggX0_place_X0_place
theorem dX0_place_31 : decode cX0_place 31 = .ok (.aload_n 0, 1) := do_42 (byt_at bX0_place_1 (j := 15) rfl)
theorem bX0_place_2 : ((bys cX0_place).drop 32).take 16 = [27, 182, 0, 98, 62, 42, 27, 182, 0, 101, 54, 4, 21, 4, 29, 163] := by decide +kernel
theorem dX0_place_32 : decode cX0_place 32 = .ok (.iload_n 1, 1) := do_27 (byt_at bX0_place_2 (j := 0) rfl)
theorem dX0_place_33 : decode cX0_place 33 = .ok (.invokevirtual 98, 3) := do_182 0 98 (byt_at bX0_place_2 (j := 1) rfl) (byt_at bX0_place_2 (j := 2) rfl) (byt_at bX0_place_2 (j := 3) rfl)
theorem dX0_place_36 : decode cX0_place 36 = .ok (.istore_n 3, 1) := do_62 (byt_at bX0_place_2 (j := 4) rfl)
theorem dX0_place_37 : decode cX0_place 37 = .ok (.aload_n 0, 1) := do_42 (byt_at bX0_place_2 (j := 5) rfl)
theorem dX0_place_38 : decode cX0_place 38 = .ok (.iload_n 1, 1) := do_27 (byt_at bX0_place_2 (j := 6) rfl)
theorem dX0_place_39 : decode cX0_place 39 = .ok (.invokevirtual 101, 3) := do_182 0 101 (byt_at bX0_place_2 (j := 7) rfl) (byt_at bX0_place_2 (j := 8) rfl) (byt_at bX0_place_2 (j := 9) rfl)
theorem dX0_place_42 : decode cX0_place 42 = .ok (.istore 4, 2) := do_54 4 (byt_at bX0_place_2 (j := 10) rfl) (byt_at bX0_place_2 (j := 11) rfl)
theorem dX0_place_44 : decode cX0_place 44 = .ok (.iload 4, 2) := do_21 4 (byt_at bX0_place_2 (j := 12) rfl) (byt_at bX0_place_2 (j := 13) rfl)
theorem dX0_place_46 : decode cX0_place 46 = .ok (.iload_n 3, 1) := do_29 (byt_at bX0_place_2 (j := 14) rfl)
theorem bX0_place_3 : ((bys cX0_place).drop 48).take 16 = [0, 117, 28, 42, 180, 0, 23, 27, 46, 21, 4, 104, 96, 54, 5, 21] := by decide +kernel
theorem dX0_place_47 : decode cX0_place 47 = .ok (.if_icmp .gt 117, 3) := do_163 0 117 (byt_at bX0_place_2 (j := 15) rfl) (byt_at bX0_place_3 (j := 0) rfl) (byt_at bX0_place_3 (j := 1) rfl) (by decide)
theorem dX0_place_50 : decode cX0_place 50 = .ok (.iload_n 2, 1) := do_28 (byt_at bX0_place_3 (j := 2) rfl)
theorem dX0_place_51 : decode cX0_place 51 = .ok (.aload_n 0, 1) := do_42 (byt_at bX0_place_3 (j := 3) rfl)
theorem dX0_place_52 : decode cX0_place 52 = .ok (.getfield 23, 3) := do_180 0 23 (byt_at bX0_place_3 (j := 4) rfl) (byt_at bX0_place_3 (j := 5) rfl) (byt_at bX0_place_3 (j := 6) rfl)
theorem dX0_place_55 : decode cX0_place 55 = .ok (.iload_n 1, 1) := do_27 (byt_at bX0_place_3 (j := 7) rfl)
theorem dX0_place_56 : decode cX0_place 56 = .ok (.iaload, 1) := do_46 (byt_at bX0_place_3 (j := 8) rfl)
theorem dX0_place_57 : decode cX0_place 57 = .ok (.iload 4, 2) := do_21 4 (byt_at bX0_place_3 (j := 9) rfl) (byt_at bX0_place_3 (j := 10) rfl)
theorem dX0_place_59 : decode cX0_place 59 = .ok (.imul, 1) := do_104 (byt_at bX0_place_3 (j := 11) rfl)
theorem dX0_place_60 : decode cX0_place 60 = .ok (.iadd, 1) := do_96 (byt_at bX0_place_3 (j := 12) rfl)
theorem dX0_place_61 : decode cX0_place 61 = .ok (.istore 5, 2) := do_54 5 (byt_at bX0_place_3 (j := 13) rfl) (byt_at bX0_place_3 (j := 14) rfl)
theorem bX0_place_4 : ((bys cX0_place).drop 64).take 16 = [5, 42, 180, 0, 16, 161, 0, 4, 177, 42, 180, 0, 37, 27, 21, 4] := by decide +kernel
theorem dX0_place_63 : decode cX0_place 63 = .ok (.iload 5, 2) := do_21 5 (byt_at bX0_place_3 (j := 15) rfl) (byt_at bX0_place_4 (j := 0) rfl)
theorem dX0_place_65 : decode cX0_place 65 = .ok (.aload_n 0, 1) := do_42 (byt_at bX0_place_4 (j := 1) rfl)
theorem dX0_place_66 : decode cX0_place 66 = .ok (.getfield 16, 3) := do_180 0 16 (byt_at bX0_place_4 (j := 2) rfl) (byt_at bX0_place_4 (j := 3) rfl) (byt_at bX0_place_4 (j := 4) rfl)
theorem dX0_place_69 : decode cX0_place 69 = .ok (.if_icmp .lt 4, 3) := do_161 0 4 (byt_at bX0_place_4 (j := 5) rfl) (byt_at bX0_place_4 (j := 6) rfl) (byt_at bX0_place_4 (j := 7) rfl) (by decide)
theorem dX0_place_72 : decode cX0_place 72 = .ok (.return_, 1) := do_177 (byt_at bX0_place_4 (j := 8) rfl)
theorem dX0_place_73 : decode cX0_place 73 = .ok (.aload_n 0, 1) := do_42 (byt_at bX0_place_4 (j := 9) rfl)
theorem dX0_place_74 : decode cX0_place 74 = .ok (.getfield 37, 3) := do_180 0 37 (byt_at bX0_place_4 (j := 10) rfl) (byt_at bX0_place_4 (j := 11) rfl) (byt_at bX0_place_4 (j := 12) rfl)
theorem dX0_place_77 : decode cX0_place 77 = .ok (.iload_n 1, 1) := do_27 (byt_at bX0_place_4 (j := 13) rfl)
theorem dX0_place_78 : decode cX0_place 78 = .ok (.iload 4, 2) := do_21 4 (byt_at bX0_place_4 (j := 14) rfl) (byt_at bX0_place_4 (j := 15) rfl)
theorem bX0_place_5 : ((bys cX0_place).drop 80).take 16 = [79, 3, 54, 6, 21, 6, 42, 180, 0, 49, 162, 0, 47, 42, 180, 0] := by decide +kernel
theorem dX0_place_80 : decode cX0_place 80 = .ok (.iastore, 1) := do_79 (byt_at bX0_place_5 (j := 0) rfl)
theorem dX0_place_81 : decode cX0_place 81 = .ok (.iconst 0, 1) := do_3 (byt_at bX0_place_5 (j := 1) rfl)
theorem dX0_place_82 : decode cX0_place 82 = .ok (.istore 6, 2) := do_54 6 (byt_at bX0_place_5 (j := 2) rfl) (byt_at bX0_place_5 (j := 3) rfl)
theorem dX0_place_84 : decode cX0_place 84 = .ok (.iload 6, 2) := do_21 6 (byt_at bX0_place_5 (j := 4) rfl) (byt_at bX0_place_5 (j := 5) rfl)
theorem dX0_place_86 : decode cX0_place 86 = .ok (.aload_n 0, 1) := do_42 (byt_at bX0_place_5 (j := 6) rfl)
theorem dX0_place_87 : decode cX0_place 87 = .ok (.getfield 49, 3) := do_180 0 49 (byt_at bX0_place_5 (j := 7) rfl) (byt_at bX0_place_5 (j := 8) rfl) (byt_at bX0_place_5 (j := 9) rfl)
theorem dX0_place_90 : decode cX0_place 90 = .ok (.if_icmp .ge 47, 3) := do_162 0 47 (byt_at bX0_place_5 (j := 10) rfl) (byt_at bX0_place_5 (j := 11) rfl) (byt_at bX0_place_5 (j := 12) rfl) (by decide)
theorem dX0_place_93 : decode cX0_place 93 = .ok (.aload_n 0, 1) := do_42 (byt_at bX0_place_5 (j := 13) rfl)
theorem bX0_place_6 : ((bys cX0_place).drop 96).take 16 = [34, 27, 4, 96, 50, 21, 6, 42, 180, 0, 34, 27, 50, 21, 6, 46] := by decide +kernel
theorem dX0_place_94 : decode cX0_place 94 = .ok (.getfield 34, 3) := do_180 0 34 (byt_at bX0_place_5 (j := 14) rfl) (byt_at bX0_place_5 (j := 15) rfl) (byt_at bX0_place_6 (j := 0) rfl)
theorem dX0_place_97 : decode cX0_place 97 = .ok (.iload_n 1, 1) := do_27 (byt_at bX0_place_6 (j := 1) rfl)
theorem dX0_place_98 : decode cX0_place 98 = .ok (.iconst 1, 1) := do_4 (byt_at bX0_place_6 (j := 2) rfl)
theorem dX0_place_99 : decode cX0_place 99 = .ok (.iadd, 1) := do_96 (byt_at bX0_place_6 (j := 3) rfl)
theorem dX0_place_100 : decode cX0_place 100 = .ok (.aaload, 1) := do_50 (byt_at bX0_place_6 (j := 4) rfl)
theorem dX0_place_101 : decode cX0_place 101 = .ok (.iload 6, 2) := do_21 6 (byt_at bX0_place_6 (j := 5) rfl) (byt_at bX0_place_6 (j := 6) rfl)
theorem dX0_place_103 : decode cX0_place 103 = .ok (.aload_n 0, 1) := do_42 (byt_at bX0_place_6 (j := 7) rfl)
theorem dX0_place_104 : decode cX0_place 104 = .ok (.getfield 34, 3) := do_180 0 34 (byt_at bX0_place_6 (j := 8) rfl) (byt_at bX0_place_6 (j := 9) rfl) (byt_at bX0_place_6 (j := 10) rfl)
theorem dX0_place_107 : decode cX0_place 107 = .ok (.iload_n 1, 1) := do_27 (byt_at bX0_place_6 (j := 11) rfl)
theorem dX0_place_108 : decode cX0_place 108 = .ok (.aaload, 1) := do_50 (byt_at bX0_place_6 (j := 12) rfl)
theorem dX0_place_109 : decode cX0_place 109 = .ok (.iload 6, 2) := do_21 6 (byt_at bX0_place_6 (j := 13) rfl) (byt_at bX0_place_6 (j := 14) rfl)
theorem dX0_place_111 : decode cX0_place 111 = .ok (.iaload, 1) := do_46 (byt_at bX0_place_6 (j := 15) rfl)
theorem bX0_place_7 : ((bys cX0_place).drop 112).take 16 = [42, 180, 0, 28, 21, 6, 50, 27, 46, 42, 180, 0, 20, 21, 4, 46] := by decide +kernel
theorem dX0_place_112 : decode cX0_place 112 = .ok (.aload_n 0, 1) := do_42 (byt_at bX0_place_7 (j := 0) rfl)
theorem dX0_place_113 : decode cX0_place 113 = .ok (.getfield 28, 3) := do_180 0 28 (byt_at bX0_place_7 (j := 1) rfl) (byt_at bX0_place_7 (j := 2) rfl) (byt_at bX0_place_7 (j := 3) rfl)
theorem dX0_place_116 : decode cX0_place 116 = .ok (.iload 6, 2) := do_21 6 (byt_at bX0_place_7 (j := 4) rfl) (byt_at bX0_place_7 (j := 5) rfl)
theorem dX0_place_118 : decode cX0_place 118 = .ok (.aaload, 1) := do_50 (byt_at bX0_place_7 (j := 6) rfl)
theorem dX0_place_119 : decode cX0_place 119 = .ok (.iload_n 1, 1) := do_27 (byt_at bX0_place_7 (j := 7) rfl)
theorem dX0_place_120 : decode cX0_place 120 = .ok (.iaload, 1) := do_46 (byt_at bX0_place_7 (j := 8) rfl)
theorem dX0_place_121 : decode cX0_place 121 = .ok (.aload_n 0, 1) := do_42 (byt_at bX0_place_7 (j := 9) rfl)
theorem dX0_place_122 : decode cX0_place 122 = .ok (.getfield 20, 3) := do_180 0 20 (byt_at bX0_place_7 (j := 10) rfl) (byt_at bX0_place_7 (j := 11) rfl) (byt_at bX0_place_7 (j := 12) rfl)
theorem dX0_place_125 : decode cX0_place 125 = .ok (.iload 4, 2) := do_21 4 (byt_at bX0_place_7 (j := 13) rfl) (byt_at bX0_place_7 (j := 14) rfl)
theorem dX0_place_127 : decode cX0_place 127 = .ok (.iaload, 1) := do_46 (byt_at bX0_place_7 (j := 15) rfl)
theorem bX0_place_8 : ((bys cX0_place).drop 128).take 16 = [104, 100, 79, 132, 6, 1, 167, 255, 206, 42, 27, 4, 96, 21, 5, 182] := by decide +kernel
theorem dX0_place_128 : decode cX0_place 128 = .ok (.imul, 1) := do_104 (byt_at bX0_place_8 (j := 0) rfl)
theorem dX0_place_129 : decode cX0_place 129 = .ok (.isub, 1) := do_100 (byt_at bX0_place_8 (j := 1) rfl)
theorem dX0_place_130 : decode cX0_place 130 = .ok (.iastore, 1) := do_79 (byt_at bX0_place_8 (j := 2) rfl)
theorem dX0_place_131 : decode cX0_place 131 = .ok (.iinc 6 1, 3) := do_132 6 1 (byt_at bX0_place_8 (j := 3) rfl) (byt_at bX0_place_8 (j := 4) rfl) (byt_at bX0_place_8 (j := 5) rfl) (by decide)
theorem dX0_place_134 : decode cX0_place 134 = .ok (.goto (-50), 3) := do_167 255 206 (byt_at bX0_place_8 (j := 6) rfl) (byt_at bX0_place_8 (j := 7) rfl) (byt_at bX0_place_8 (j := 8) rfl) (by decide)
theorem dX0_place_137 : decode cX0_place 137 = .ok (.aload_n 0, 1) := do_42 (byt_at bX0_place_8 (j := 9) rfl)
theorem dX0_place_138 : decode cX0_place 138 = .ok (.iload_n 1, 1) := do_27 (byt_at bX0_place_8 (j := 10) rfl)
theorem dX0_place_139 : decode cX0_place 139 = .ok (.iconst 1, 1) := do_4 (byt_at bX0_place_8 (j := 11) rfl)
theorem dX0_place_140 : decode cX0_place 140 = .ok (.iadd, 1) := do_96 (byt_at bX0_place_8 (j := 12) rfl)
theorem dX0_place_141 : decode cX0_place 141 = .ok (.iload 5, 2) := do_21 5 (byt_at bX0_place_8 (j := 13) rfl) (byt_at bX0_place_8 (j := 14) rfl)
theorem bX0_place_9 : ((bys cX0_place).drop 144).take 16 = [0, 104, 153, 0, 12, 42, 27, 4, 96, 21, 5, 182, 0, 72, 132, 4] := by decide +kernel
theorem dX0_place_143 : decode cX0_place 143 = .ok (.invokevirtual 104, 3) := do_182 0 104 (byt_at bX0_place_8 (j := 15) rfl) (byt_at bX0_place_9 (j := 0) rfl) (byt_at bX0_place_9 (j := 1) rfl)
theorem dX0_place_146 : decode cX0_place 146 = .ok (.ifCond .eq 12, 3) := do_153 0 12 (byt_at bX0_place_9 (j := 2) rfl) (byt_at bX0_place_9 (j := 3) rfl) (byt_at bX0_place_9 (j := 4) rfl) (by decide)
theorem dX0_place_149 : decode cX0_place 149 = .ok (.aload_n 0, 1) := do_42 (byt_at bX0_place_9 (j := 5) rfl)
theorem dX0_place_150 : decode cX0_place 150 = .ok (.iload_n 1, 1) := do_27 (byt_at bX0_place_9 (j := 6) rfl)
theorem dX0_place_151 : decode cX0_place 151 = .ok (.iconst 1, 1) := do_4 (byt_at bX0_place_9 (j := 7) rfl)
theorem dX0_place_152 : decode cX0_place 152 = .ok (.iadd, 1) := do_96 (byt_at bX0_place_9 (j := 8) rfl)
theorem dX0_place_153 : decode cX0_place 153 = .ok (.iload 5, 2) := do_21 5 (byt_at bX0_place_9 (j := 9) rfl) (byt_at bX0_place_9 (j := 10) rfl)
theorem dX0_place_155 : decode cX0_place 155 = .ok (.invokevirtual 72, 3) := do_182 0 72 (byt_at bX0_place_9 (j := 11) rfl) (byt_at bX0_place_9 (j := 12) rfl) (byt_at bX0_place_9 (j := 13) rfl)
theorem bX0_place_10 : ((bys cX0_place).drop 160).take 16 = [1, 167, 255, 139, 177] := by decide +kernel
theorem dX0_place_158 : decode cX0_place 158 = .ok (.iinc 4 1, 3) := do_132 4 1 (byt_at bX0_place_9 (j := 14) rfl) (byt_at bX0_place_9 (j := 15) rfl) (byt_at bX0_place_10 (j := 0) rfl) (by decide)
theorem dX0_place_161 : decode cX0_place 161 = .ok (.goto (-117), 3) := do_167 255 139 (byt_at bX0_place_10 (j := 1) rfl) (byt_at bX0_place_10 (j := 2) rfl) (byt_at bX0_place_10 (j := 3) rfl) (by decide)
theorem dX0_place_164 : decode cX0_place 164 = .ok (.return_, 1) := do_177 (byt_at bX0_place_10 (j := 4) rfl)
set_option maxRecDepth 20000 in
theorem ggX3_lackOf_X3_feltOf : GoodIn wsX3_lackOf wsX3_feltOf := goodIn_sub (List.forall_mem_cons.mpr ⟨List.mem_cons_of_mem _ (List.mem_append_left _ (List.mem_of_getElem? (i := 7) rfl)), List.forall_mem_append.mpr ⟨List.forall_mem_cons.mpr ⟨List.mem_cons_of_mem _ (List.mem_append_left _ (List.mem_of_getElem? (i := 8) rfl)), List.forall_mem_cons.mpr ⟨List.mem_cons_of_mem _ (List.mem_append_left _ (List.mem_of_getElem? (i := 9) rfl)), List.forall_mem_cons.mpr ⟨List.mem_cons_of_mem _ (List.mem_append_left _ (List.mem_of_getElem? (i := 10) rfl)), List.forall_mem_cons.mpr ⟨List.mem_cons_of_mem _ (List.mem_append_left _ (List.mem_of_getElem? (i := 11) rfl)), List.forall_mem_cons.mpr ⟨List.mem_cons_of_mem _ (List.mem_append_left _ (List.mem_of_getElem? (i := 12) rfl)), List.forall_mem_cons.mpr ⟨List.mem_cons_of_mem _ (List.mem_append_left _ (List.mem_of_getElem? (i := 13) rfl)), List.forall_mem_cons.mpr ⟨List.mem_cons_of_mem _ (List.mem_append_left _ (List.mem_of_getElem? (i := 14) rfl)), fun _ h => absurd h List.not_mem_nil⟩⟩⟩⟩⟩⟩⟩, fun _ h => List.mem_cons_of_mem _ (List.mem_append_right _ h)⟩⟩) (by decide +kernel)
set_option maxRecDepth 20000 in
theorem gX3_lackOf_X3_feltOf : GoodIn wsX3_lackOf (wsV RX3 63 RX3 yX3_feltOf wsX3_feltOf) := goodIn_app (goodIn_sub (List.forall_mem_cons.mpr ⟨List.mem_cons_of_mem _ (List.mem_append_left _ (List.mem_of_getElem? (i := 3) rfl)), List.forall_mem_cons.mpr ⟨List.mem_cons_of_mem _ (List.mem_append_left _ (List.mem_of_getElem? (i := 4) rfl)), List.forall_mem_cons.mpr ⟨List.mem_cons_of_mem _ (List.mem_append_left _ (List.mem_of_getElem? (i := 5) rfl)), List.forall_mem_cons.mpr ⟨List.mem_cons_of_mem _ (List.mem_append_left _ (List.mem_of_getElem? (i := 6) rfl)), fun _ h => absurd h List.not_mem_nil⟩⟩⟩⟩) (by decide +kernel)) ggX3_lackOf_X3_feltOf
theorem bX3_lackOf_0 : ((bys cX3_lackOf).drop 0).take 16 = [28, 27, 160, 0, 26, 42, 180, 0, 15, 27, 46, 42, 180, 0, 42, 96] := by decide +kernel
theorem dX3_lackOf_0 : decode cX3_lackOf 0 = .ok (.iload_n 2, 1) := do_28 (byt_at bX3_lackOf_0 (j := 0) rfl)
theorem dX3_lackOf_1 : decode cX3_lackOf 1 = .ok (.iload_n 1, 1) := do_27 (byt_at bX3_lackOf_0 (j := 1) rfl)
theorem dX3_lackOf_2 : decode cX3_lackOf 2 = .ok (.if_icmp .ne 26, 3) := do_160 0 26 (byt_at bX3_lackOf_0 (j := 2) rfl) (byt_at bX3_lackOf_0 (j := 3) rfl) (byt_at bX3_lackOf_0 (j := 4) rfl) (by decide)
theorem dX3_lackOf_5 : decode cX3_lackOf 5 = .ok (.aload_n 0, 1) := do_42 (byt_at bX3_lackOf_0 (j := 5) rfl)
theorem dX3_lackOf_6 : decode cX3_lackOf 6 = .ok (.getfield 15, 3) := do_180 0 15 (byt_at bX3_lackOf_0 (j := 6) rfl) (byt_at bX3_lackOf_0 (j := 7) rfl) (byt_at bX3_lackOf_0 (j := 8) rfl)
theorem dX3_lackOf_9 : decode cX3_lackOf 9 = .ok (.iload_n 1, 1) := do_27 (byt_at bX3_lackOf_0 (j := 9) rfl)
theorem dX3_lackOf_10 : decode cX3_lackOf 10 = .ok (.iaload, 1) := do_46 (byt_at bX3_lackOf_0 (j := 10) rfl)
theorem dX3_lackOf_11 : decode cX3_lackOf 11 = .ok (.aload_n 0, 1) := do_42 (byt_at bX3_lackOf_0 (j := 11) rfl)
theorem dX3_lackOf_12 : decode cX3_lackOf 12 = .ok (.getfield 42, 3) := do_180 0 42 (byt_at bX3_lackOf_0 (j := 12) rfl) (byt_at bX3_lackOf_0 (j := 13) rfl) (byt_at bX3_lackOf_0 (j := 14) rfl)
theorem dX3_lackOf_15 : decode cX3_lackOf 15 = .ok (.iadd, 1) := do_96 (byt_at bX3_lackOf_0 (j := 15) rfl)
theorem bX3_lackOf_1 : ((bys cX3_lackOf).drop 16).take 16 = [42, 42, 180, 0, 45, 182, 0, 63, 100, 167, 0, 16, 42, 180, 0, 15] := by decide +kernel
theorem dX3_lackOf_16 : decode cX3_lackOf 16 = .ok (.aload_n 0, 1) := do_42 (byt_at bX3_lackOf_1 (j := 0) rfl)
theorem dX3_lackOf_17 : decode cX3_lackOf 17 = .ok (.aload_n 0, 1) := do_42 (byt_at bX3_lackOf_1 (j := 1) rfl)
theorem dX3_lackOf_18 : decode cX3_lackOf 18 = .ok (.getfield 45, 3) := do_180 0 45 (byt_at bX3_lackOf_1 (j := 2) rfl) (byt_at bX3_lackOf_1 (j := 3) rfl) (byt_at bX3_lackOf_1 (j := 4) rfl)
theorem dX3_lackOf_21 : decode cX3_lackOf 21 = .ok (.invokevirtual 63, 3) := do_182 0 63 (byt_at bX3_lackOf_1 (j := 5) rfl) (byt_at bX3_lackOf_1 (j := 6) rfl) (byt_at bX3_lackOf_1 (j := 7) rfl)
theorem dX3_lackOf_24 : decode cX3_lackOf 24 = .ok (.isub, 1) := do_100 (byt_at bX3_lackOf_1 (j := 8) rfl)
theorem dX3_lackOf_25 : decode cX3_lackOf 25 = .ok (.goto 16, 3) := do_167 0 16 (byt_at bX3_lackOf_1 (j := 9) rfl) (byt_at bX3_lackOf_1 (j := 10) rfl) (byt_at bX3_lackOf_1 (j := 11) rfl) (by decide)
theorem dX3_lackOf_28 : decode cX3_lackOf 28 = .ok (.aload_n 0, 1) := do_42 (byt_at bX3_lackOf_1 (j := 12) rfl)
theorem dX3_lackOf_29 : decode cX3_lackOf 29 = .ok (.getfield 15, 3) := do_180 0 15 (byt_at bX3_lackOf_1 (j := 13) rfl) (byt_at bX3_lackOf_1 (j := 14) rfl) (byt_at bX3_lackOf_1 (j := 15) rfl)
theorem bX3_lackOf_2 : ((bys cX3_lackOf).drop 32).take 16 = [27, 46, 42, 180, 0, 15, 28, 46, 100, 172] := by decide +kernel
theorem dX3_lackOf_32 : decode cX3_lackOf 32 = .ok (.iload_n 1, 1) := do_27 (byt_at bX3_lackOf_2 (j := 0) rfl)
theorem dX3_lackOf_33 : decode cX3_lackOf 33 = .ok (.iaload, 1) := do_46 (byt_at bX3_lackOf_2 (j := 1) rfl)
theorem dX3_lackOf_34 : decode cX3_lackOf 34 = .ok (.aload_n 0, 1) := do_42 (byt_at bX3_lackOf_2 (j := 2) rfl)
theorem dX3_lackOf_35 : decode cX3_lackOf 35 = .ok (.getfield 15, 3) := do_180 0 15 (byt_at bX3_lackOf_2 (j := 3) rfl) (byt_at bX3_lackOf_2 (j := 4) rfl) (byt_at bX3_lackOf_2 (j := 5) rfl)
theorem dX3_lackOf_38 : decode cX3_lackOf 38 = .ok (.iload_n 2, 1) := do_28 (byt_at bX3_lackOf_2 (j := 6) rfl)
theorem dX3_lackOf_39 : decode cX3_lackOf 39 = .ok (.iaload, 1) := do_46 (byt_at bX3_lackOf_2 (j := 7) rfl)
theorem dX3_lackOf_40 : decode cX3_lackOf 40 = .ok (.isub, 1) := do_100 (byt_at bX3_lackOf_2 (j := 8) rfl)
theorem dX3_lackOf_41 : decode cX3_lackOf 41 = .ok (.ireturn, 1) := do_172 (byt_at bX3_lackOf_2 (j := 9) rfl)
theorem kk_X3_lackOf_0 : Cond.fieldLink RX3 15 "PaidBySigns$Hire" "costs" "[I" ∈ wsX3_lackOf := List.mem_cons_of_mem _ (List.mem_append_left _ (List.mem_of_getElem? (i := 0) rfl))
theorem kk_X3_lackOf_1 : Cond.fieldLink RX3 42 "PaidBySigns$Hire" "otherwise" "I" ∈ wsX3_lackOf := List.mem_cons_of_mem _ (List.mem_append_left _ (List.mem_of_getElem? (i := 1) rfl))
theorem kk_X3_lackOf_2 : Cond.fieldLink RX3 45 "PaidBySigns$Hire" "least" "I" ∈ wsX3_lackOf := List.mem_cons_of_mem _ (List.mem_append_left _ (List.mem_of_getElem? (i := 2) rfl))
theorem iw_X3_lackOf_X3 : ∀ w ∈ wsX30, w ∈ wsX3_lackOf := fun _ h => List.mem_cons_of_mem _ (List.mem_append_right _ h)
