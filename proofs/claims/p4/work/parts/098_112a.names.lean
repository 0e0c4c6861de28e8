abbrev cX4_fillLines : ByteArray := prog_6_method_13_code
def yX4_fillLines : MethodName := ⟨RX4, "fillLines", "(I)V"⟩
abbrev cX4_fillRooms : ByteArray := prog_6_method_14_code
def yX4_fillRooms : MethodName := ⟨RX4, "fillRooms", "(I)V"⟩
abbrev cX8_lineBelowZero : ByteArray := prog_10_method_4_code
def yX8_lineBelowZero : MethodName := ⟨RX8, "lineBelowZero", "()I"⟩
abbrev cX8_columnFor : ByteArray := prog_10_method_5_code
def yX8_columnFor : MethodName := ⟨RX8, "columnFor", "(I)I"⟩
abbrev cX8_compareRatios : ByteArray := prog_10_method_6_code
def yX8_compareRatios : MethodName := ⟨RX8, "compareRatios", "(III)I"⟩
def wsX4_fillLines_r1 : List Cond := [Cond.fieldLink RX4 46 "PaidBySigns$LeastCost" "hire" "LPaidBySigns$Hire;", Cond.fieldLink RX4 88 "PaidBySigns$Hire" "works" "I", Cond.fieldLink RX4 22 "PaidBySigns$LeastCost" "table" "LPaidBySigns$Table;", Cond.fieldLink RX4 132 "PaidBySigns$Table" "entry" "[[J", Cond.fieldLink RX4 70 "PaidBySigns$Hire" "whole" "I", Cond.fieldLink RX4 50 "PaidBySigns$LeastCost" "work" "I", Cond.fieldLink RX4 36 "PaidBySigns$LeastCost" "columns" "I", Cond.fieldLink RX4 26 "PaidBySigns$LeastCost" "columnSign" "[I", Cond.methodLink RX4 136 yX3_lackOf, Cond.instanceMethod yX3_lackOf, Cond.selects RX3 yX3_lackOf yX3_lackOf, Cond.initialized RX3, Cond.code yX3_lackOf cX3_lackOf 3 (some .int), Cond.fieldLink RX3 15 "PaidBySigns$Hire" "costs" "[I", Cond.fieldLink RX3 42 "PaidBySigns$Hire" "otherwise" "I", Cond.fieldLink RX3 45 "PaidBySigns$Hire" "least" "I", Cond.methodLink RX3 63 yX3_feltOf, Cond.instanceMethod yX3_feltOf, Cond.selects RX3 yX3_feltOf yX3_feltOf, Cond.code yX3_feltOf cX3_feltOf 6 (some .int), Cond.fieldLink RX3 48 "PaidBySigns$Hire" "rates" "I", Cond.fieldLink RX3 26 "PaidBySigns$Hire" "mark" "[I", Cond.methodLink RX3 51 Lib.Math.min.name, Cond.static Lib.Math.min.name]
def wsX4_fillLines_r2 : List Cond := [Cond.initialized "java/lang/Math", Cond.code Lib.Math.min.name Lib.Math.min.code 2 (some .int), Cond.fieldLink RX3 23 "PaidBySigns$Hire" "rate" "[I", Cond.methodLink RX4 66 yX4_chanceOf, Cond.instanceMethod yX4_chanceOf, Cond.selects RX4 yX4_chanceOf yX4_chanceOf, Cond.initialized RX4, Cond.code yX4_chanceOf cX4_chanceOf 3 (some .int), Cond.fieldLink RX4 56 "PaidBySigns$LeastCost" "joinedSign" "I", Cond.fieldLink RX4 53 "PaidBySigns$LeastCost" "keptSign" "I", Cond.fieldLink RX4 112 "PaidBySigns$Hire" "chances" "[[I"]
def wsX4_fillLines : List Cond := .code yX4_fillLines cX4_fillLines 6 none :: ((wsX4_fillLines_r1 ++ wsX4_fillLines_r2) ++ wsX40 ++ wsX30 ++ wsX80)
def wsX4_fillRooms : List Cond := .code yX4_fillRooms cX4_fillRooms 4 none :: ([.fieldLink RX4 36 "PaidBySigns$LeastCost" "columns" "I", .fieldLink RX4 33 "PaidBySigns$LeastCost" "columnRoom" "[I", .fieldLink RX4 22 "PaidBySigns$LeastCost" "table" "LPaidBySigns$Table;", .fieldLink RX4 132 "PaidBySigns$Table" "entry" "[[J"] ++ wsX40 ++ wsX80)
def wsX8_lineBelowZero : List Cond := .code yX8_lineBelowZero cX8_lineBelowZero 3 (some .int) :: ([.fieldLink RX8 29 "PaidBySigns$Table" "goals" "I", .fieldLink RX8 33 "PaidBySigns$Table" "lines" "I", .fieldLink RX8 13 "PaidBySigns$Table" "entry" "[[J", .fieldLink RX8 16 "PaidBySigns$Table" "lineName" "[I"] ++ wsX80)
def wsX8_compareRatios : List Cond := .code yX8_compareRatios cX8_compareRatios 13 (some .int) :: ([.fieldLink RX8 13 "PaidBySigns$Table" "entry" "[[J", .fieldLink RX8 29 "PaidBySigns$Table" "goals" "I"] ++ wsX80)
def wsX8_columnFor : List Cond := .code yX8_columnFor cX8_columnFor 5 (some .int) :: ([.fieldLink RX8 36 "PaidBySigns$Table" "columns" "I", .fieldLink RX8 13 "PaidBySigns$Table" "entry" "[[J", .fieldLink RX8 20 "PaidBySigns$Table" "columnName" "[I", .methodLink RX8 62 yX8_compareRatios, .instanceMethod yX8_compareRatios, .selects RX8 yX8_compareRatios yX8_compareRatios, .initialized RX8, .code yX8_compareRatios cX8_compareRatios 13 (some .int), .fieldLink RX8 29 "PaidBySigns$Table" "goals" "I"] ++ wsX80)
theorem pm_X4_fillLines_r1 : ∀ w ∈ wsX4_fillLines_r1, w ∈ wsX4_fillLines := fun _ h => List.mem_cons_of_mem _ (List.mem_append_left _ (List.mem_append_left _ (List.mem_append_left _ (List.mem_append_left _ h))))
theorem pm_X4_fillLines_r2 : ∀ w ∈ wsX4_fillLines_r2, w ∈ wsX4_fillLines := fun _ h => List.mem_cons_of_mem _ (List.mem_append_left _ (List.mem_append_left _ (List.mem_append_left _ (List.mem_append_right _ (h)))))
theorem pw_X4_fillLines_X4 : ∀ w ∈ wsX40, w ∈ wsX4_fillLines := fun _ h => List.mem_cons_of_mem _ (List.mem_append_left _ (List.mem_append_left _ (List.mem_append_right _ h)))
theorem pw_X4_fillLines_X3 : ∀ w ∈ wsX30, w ∈ wsX4_fillLines := fun _ h => List.mem_cons_of_mem _ (List.mem_append_left _ (List.mem_append_right _ h))
theorem pw_X4_fillLines_X8 : ∀ w ∈ wsX80, w ∈ wsX4_fillLines := fun _ h => List.mem_cons_of_mem _ (List.mem_append_right _ h)
set_option maxRecDepth 20000 in
theorem ggX4_fillLines_X3_lackOf : GoodIn wsX4_fillLines wsX3_lackOf := goodIn_sub (List.forall_mem_cons.mpr ⟨pm_X4_fillLines_r1 _ (List.mem_of_getElem? (i := 12) rfl), List.forall_mem_append.mpr ⟨List.forall_mem_cons.mpr ⟨pm_X4_fillLines_r1 _ (List.mem_of_getElem? (i := 13) rfl), List.forall_mem_cons.mpr ⟨pm_X4_fillLines_r1 _ (List.mem_of_getElem? (i := 14) rfl), List.forall_mem_cons.mpr ⟨pm_X4_fillLines_r1 _ (List.mem_of_getElem? (i := 15) rfl), List.forall_mem_cons.mpr ⟨pm_X4_fillLines_r1 _ (List.mem_of_getElem? (i := 16) rfl), List.forall_mem_cons.mpr ⟨pm_X4_fillLines_r1 _ (List.mem_of_getElem? (i := 17) rfl), List.forall_mem_cons.mpr ⟨pm_X4_fillLines_r1 _ (List.mem_of_getElem? (i := 18) rfl), List.forall_mem_cons.mpr ⟨pm_X4_fillLines_r1 _ (List.mem_of_getElem? (i := 11) rfl), List.forall_mem_cons.mpr ⟨pm_X4_fillLines_r1 _ (List.mem_of_getElem? (i := 19) rfl), List.forall_mem_cons.mpr ⟨pm_X4_fillLines_r1 _ (List.mem_of_getElem? (i := 20) rfl), List.forall_mem_cons.mpr ⟨pm_X4_fillLines_r1 _ (List.mem_of_getElem? (i := 21) rfl), List.forall_mem_cons.mpr ⟨pm_X4_fillLines_r1 _ (List.mem_of_getElem? (i := 22) rfl), List.forall_mem_cons.mpr ⟨pm_X4_fillLines_r1 _ (List.mem_of_getElem? (i := 23) rfl), List.forall_mem_cons.mpr ⟨pm_X4_fillLines_r2 _ (List.mem_of_getElem? (i := 0) rfl), List.forall_mem_cons.mpr ⟨pm_X4_fillLines_r2 _ (List.mem_of_getElem? (i := 1) rfl), List.forall_mem_cons.mpr ⟨pm_X4_fillLines_r2 _ (List.mem_of_getElem? (i := 2) rfl), fun _ h => absurd h List.not_mem_nil⟩⟩⟩⟩⟩⟩⟩⟩⟩⟩⟩⟩⟩⟩⟩, pw_X4_fillLines_X3⟩⟩) (by decide +kernel)
set_option maxRecDepth 20000 in
theorem gX4_fillLines_X3_lackOf : GoodIn wsX4_fillLines (wsV RX4 136 RX3 yX3_lackOf wsX3_lackOf) := goodIn_app (goodIn_of _ (by decide +kernel)) ggX4_fillLines_X3_lackOf
set_option maxRecDepth 20000 in
theorem ggX4_fillLines_X4_chanceOf : GoodIn wsX4_fillLines wsX4_chanceOf := goodIn_sub (List.forall_mem_cons.mpr ⟨pm_X4_fillLines_r2 _ (List.mem_of_getElem? (i := 7) rfl), List.forall_mem_append.mpr ⟨List.forall_mem_append.mpr ⟨List.forall_mem_cons.mpr ⟨pm_X4_fillLines_r2 _ (List.mem_of_getElem? (i := 8) rfl), List.forall_mem_cons.mpr ⟨pm_X4_fillLines_r2 _ (List.mem_of_getElem? (i := 9) rfl), List.forall_mem_cons.mpr ⟨pm_X4_fillLines_r1 _ (List.mem_of_getElem? (i := 0) rfl), List.forall_mem_cons.mpr ⟨pm_X4_fillLines_r2 _ (List.mem_of_getElem? (i := 10) rfl), fun _ h => absurd h List.not_mem_nil⟩⟩⟩⟩, pw_X4_fillLines_X4⟩, pw_X4_fillLines_X3⟩⟩) (by decide +kernel)
set_option maxRecDepth 20000 in
theorem gX4_fillLines_X4_chanceOf : GoodIn wsX4_fillLines (wsV RX4 66 RX4 yX4_chanceOf wsX4_chanceOf) := goodIn_app (goodIn_of _ (by decide +kernel)) ggX4_fillLines_X4_chanceOf
theorem dX4_fillLines_0 : decode cX4_fillLines 0 = .ok (.iconst 0, 1) := by decide +kernel
theorem dX4_fillLines_1 : decode cX4_fillLines 1 = .ok (.istore_n 2, 1) := by decide +kernel
theorem dX4_fillLines_2 : decode cX4_fillLines 2 = .ok (.iload_n 2, 1) := by decide +kernel
theorem dX4_fillLines_3 : decode cX4_fillLines 3 = .ok (.aload_n 0, 1) := by decide +kernel
theorem dX4_fillLines_4 : decode cX4_fillLines 4 = .ok (.getfield 46, 3) := by decide +kernel
theorem dX4_fillLines_7 : decode cX4_fillLines 7 = .ok (.getfield 88, 3) := by decide +kernel
theorem dX4_fillLines_10 : decode cX4_fillLines 10 = .ok (.if_icmp .ge 111, 3) := by decide +kernel
theorem dX4_fillLines_13 : decode cX4_fillLines 13 = .ok (.aload_n 0, 1) := by decide +kernel
theorem dX4_fillLines_14 : decode cX4_fillLines 14 = .ok (.getfield 22, 3) := by decide +kernel
theorem dX4_fillLines_17 : decode cX4_fillLines 17 = .ok (.getfield 132, 3) := by decide +kernel
theorem dX4_fillLines_20 : decode cX4_fillLines 20 = .ok (.iload_n 1, 1) := by decide +kernel
theorem dX4_fillLines_21 : decode cX4_fillLines 21 = .ok (.iload_n 2, 1) := by decide +kernel
theorem dX4_fillLines_22 : decode cX4_fillLines 22 = .ok (.iadd, 1) := by decide +kernel
theorem dX4_fillLines_23 : decode cX4_fillLines 23 = .ok (.aaload, 1) := by decide +kernel
theorem dX4_fillLines_24 : decode cX4_fillLines 24 = .ok (.astore_n 3, 1) := by decide +kernel
theorem dX4_fillLines_25 : decode cX4_fillLines 25 = .ok (.aload_n 3, 1) := by decide +kernel
theorem dX4_fillLines_26 : decode cX4_fillLines 26 = .ok (.iconst 0, 1) := by decide +kernel
theorem dX4_fillLines_27 : decode cX4_fillLines 27 = .ok (.aload_n 0, 1) := by decide +kernel
theorem dX4_fillLines_28 : decode cX4_fillLines 28 = .ok (.getfield 46, 3) := by decide +kernel
theorem dX4_fillLines_31 : decode cX4_fillLines 31 = .ok (.getfield 70, 3) := by decide +kernel
theorem dX4_fillLines_34 : decode cX4_fillLines 34 = .ok (.i2l, 1) := by decide +kernel
theorem dX4_fillLines_35 : decode cX4_fillLines 35 = .ok (.lneg, 1) := by decide +kernel
theorem dX4_fillLines_36 : decode cX4_fillLines 36 = .ok (.aload_n 0, 1) := by decide +kernel
theorem dX4_fillLines_37 : decode cX4_fillLines 37 = .ok (.getfield 46, 3) := by decide +kernel
theorem dX4_fillLines_40 : decode cX4_fillLines 40 = .ok (.aload_n 0, 1) := by decide +kernel
theorem dX4_fillLines_41 : decode cX4_fillLines 41 = .ok (.getfield 50, 3) := by decide +kernel
theorem dX4_fillLines_44 : decode cX4_fillLines 44 = .ok (.iload_n 2, 1) := by decide +kernel
theorem dX4_fillLines_45 : decode cX4_fillLines 45 = .ok (.invokevirtual 136, 3) := by decide +kernel
theorem dX4_fillLines_48 : decode cX4_fillLines 48 = .ok (.i2l, 1) := by decide +kernel
theorem dX4_fillLines_49 : decode cX4_fillLines 49 = .ok (.lmul, 1) := by decide +kernel
theorem dX4_fillLines_50 : decode cX4_fillLines 50 = .ok (.lastore, 1) := by decide +kernel
theorem dX4_fillLines_51 : decode cX4_fillLines 51 = .ok (.iconst 0, 1) := by decide +kernel
theorem dX4_fillLines_52 : decode cX4_fillLines 52 = .ok (.istore 4, 2) := by decide +kernel
theorem dX4_fillLines_54 : decode cX4_fillLines 54 = .ok (.iload 4, 2) := by decide +kernel
theorem dX4_fillLines_56 : decode cX4_fillLines 56 = .ok (.aload_n 0, 1) := by decide +kernel
theorem dX4_fillLines_57 : decode cX4_fillLines 57 = .ok (.getfield 36, 3) := by decide +kernel
theorem dX4_fillLines_60 : decode cX4_fillLines 60 = .ok (.if_icmp .ge 55, 3) := by decide +kernel
theorem dX4_fillLines_63 : decode cX4_fillLines 63 = .ok (.aload_n 0, 1) := by decide +kernel
theorem dX4_fillLines_64 : decode cX4_fillLines 64 = .ok (.getfield 26, 3) := by decide +kernel
theorem dX4_fillLines_67 : decode cX4_fillLines 67 = .ok (.iload 4, 2) := by decide +kernel
theorem dX4_fillLines_69 : decode cX4_fillLines 69 = .ok (.iaload, 1) := by decide +kernel
theorem dX4_fillLines_70 : decode cX4_fillLines 70 = .ok (.istore 5, 2) := by decide +kernel
theorem dX4_fillLines_72 : decode cX4_fillLines 72 = .ok (.aload_n 3, 1) := by decide +kernel
theorem dX4_fillLines_73 : decode cX4_fillLines 73 = .ok (.iload 4, 2) := by decide +kernel
theorem dX4_fillLines_75 : decode cX4_fillLines 75 = .ok (.iconst 1, 1) := by decide +kernel
theorem dX4_fillLines_76 : decode cX4_fillLines 76 = .ok (.iadd, 1) := by decide +kernel
theorem dX4_fillLines_77 : decode cX4_fillLines 77 = .ok (.iload_n 2, 1) := by decide +kernel
theorem dX4_fillLines_78 : decode cX4_fillLines 78 = .ok (.aload_n 0, 1) := by decide +kernel
theorem dX4_fillLines_79 : decode cX4_fillLines 79 = .ok (.getfield 50, 3) := by decide +kernel
theorem dX4_fillLines_82 : decode cX4_fillLines 82 = .ok (.if_icmp .ne 7, 3) := by decide +kernel
theorem dX4_fillLines_85 : decode cX4_fillLines 85 = .ok (.iconst 0, 1) := by decide +kernel
theorem dX4_fillLines_86 : decode cX4_fillLines 86 = .ok (.goto 10, 3) := by decide +kernel
theorem dX4_fillLines_89 : decode cX4_fillLines 89 = .ok (.aload_n 0, 1) := by decide +kernel
theorem dX4_fillLines_90 : decode cX4_fillLines 90 = .ok (.iload_n 2, 1) := by decide +kernel
theorem dX4_fillLines_91 : decode cX4_fillLines 91 = .ok (.iload 5, 2) := by decide +kernel
theorem dX4_fillLines_93 : decode cX4_fillLines 93 = .ok (.invokevirtual 66, 3) := by decide +kernel
theorem dX4_fillLines_96 : decode cX4_fillLines 96 = .ok (.aload_n 0, 1) := by decide +kernel
theorem dX4_fillLines_97 : decode cX4_fillLines 97 = .ok (.aload_n 0, 1) := by decide +kernel
theorem dX4_fillLines_98 : decode cX4_fillLines 98 = .ok (.getfield 50, 3) := by decide +kernel
theorem dX4_fillLines_101 : decode cX4_fillLines 101 = .ok (.iload 5, 2) := by decide +kernel
theorem dX4_fillLines_103 : decode cX4_fillLines 103 = .ok (.invokevirtual 66, 3) := by decide +kernel
theorem dX4_fillLines_106 : decode cX4_fillLines 106 = .ok (.isub, 1) := by decide +kernel
theorem dX4_fillLines_107 : decode cX4_fillLines 107 = .ok (.i2l, 1) := by decide +kernel
theorem dX4_fillLines_108 : decode cX4_fillLines 108 = .ok (.lastore, 1) := by decide +kernel
theorem dX4_fillLines_109 : decode cX4_fillLines 109 = .ok (.iinc 4 1, 3) := by decide +kernel
theorem dX4_fillLines_112 : decode cX4_fillLines 112 = .ok (.goto (-58), 3) := by decide +kernel
theorem dX4_fillLines_115 : decode cX4_fillLines 115 = .ok (.iinc 2 1, 3) := by decide +kernel
theorem dX4_fillLines_118 : decode cX4_fillLines 118 = .ok (.goto (-116), 3) := by decide +kernel
theorem dX4_fillLines_121 : decode cX4_fillLines 121 = .ok (.return_, 1) := by decide +kernel
theorem dX4_fillRooms_0 : decode cX4_fillRooms 0 = .ok (.iload_n 1, 1) := by decide +kernel
theorem dX4_fillRooms_1 : decode cX4_fillRooms 1 = .ok (.istore_n 2, 1) := by decide +kernel
theorem dX4_fillRooms_2 : decode cX4_fillRooms 2 = .ok (.iconst 0, 1) := by decide +kernel
theorem dX4_fillRooms_3 : decode cX4_fillRooms 3 = .ok (.istore_n 3, 1) := by decide +kernel
theorem dX4_fillRooms_4 : decode cX4_fillRooms 4 = .ok (.iload_n 3, 1) := by decide +kernel
theorem dX4_fillRooms_5 : decode cX4_fillRooms 5 = .ok (.aload_n 0, 1) := by decide +kernel
theorem dX4_fillRooms_6 : decode cX4_fillRooms 6 = .ok (.getfield 36, 3) := by decide +kernel
theorem dX4_fillRooms_9 : decode cX4_fillRooms 9 = .ok (.if_icmp .ge 60, 3) := by decide +kernel
theorem dX4_fillRooms_12 : decode cX4_fillRooms 12 = .ok (.iload_n 2, 1) := by decide +kernel
theorem dX4_fillRooms_13 : decode cX4_fillRooms 13 = .ok (.bipush 18, 2) := by decide +kernel
theorem dX4_fillRooms_15 : decode cX4_fillRooms 15 = .ok (.if_icmp .ge 54, 3) := by decide +kernel
theorem dX4_fillRooms_18 : decode cX4_fillRooms 18 = .ok (.aload_n 0, 1) := by decide +kernel
theorem dX4_fillRooms_19 : decode cX4_fillRooms 19 = .ok (.getfield 33, 3) := by decide +kernel
theorem dX4_fillRooms_22 : decode cX4_fillRooms 22 = .ok (.iload_n 3, 1) := by decide +kernel
theorem dX4_fillRooms_23 : decode cX4_fillRooms 23 = .ok (.iaload, 1) := by decide +kernel
theorem dX4_fillRooms_24 : decode cX4_fillRooms 24 = .ok (.iconst (-1), 1) := by decide +kernel
theorem dX4_fillRooms_25 : decode cX4_fillRooms 25 = .ok (.if_icmp .eq 38, 3) := by decide +kernel
theorem dX4_fillRooms_28 : decode cX4_fillRooms 28 = .ok (.aload_n 0, 1) := by decide +kernel
theorem dX4_fillRooms_29 : decode cX4_fillRooms 29 = .ok (.getfield 22, 3) := by decide +kernel
theorem dX4_fillRooms_32 : decode cX4_fillRooms 32 = .ok (.getfield 132, 3) := by decide +kernel
theorem dX4_fillRooms_35 : decode cX4_fillRooms 35 = .ok (.iload_n 2, 1) := by decide +kernel
theorem dX4_fillRooms_36 : decode cX4_fillRooms 36 = .ok (.aaload, 1) := by decide +kernel
theorem dX4_fillRooms_37 : decode cX4_fillRooms 37 = .ok (.iconst 0, 1) := by decide +kernel
theorem dX4_fillRooms_38 : decode cX4_fillRooms 38 = .ok (.aload_n 0, 1) := by decide +kernel
theorem dX4_fillRooms_39 : decode cX4_fillRooms 39 = .ok (.getfield 33, 3) := by decide +kernel
theorem dX4_fillRooms_42 : decode cX4_fillRooms 42 = .ok (.iload_n 3, 1) := by decide +kernel
theorem dX4_fillRooms_43 : decode cX4_fillRooms 43 = .ok (.iaload, 1) := by decide +kernel
theorem dX4_fillRooms_44 : decode cX4_fillRooms 44 = .ok (.i2l, 1) := by decide +kernel
theorem dX4_fillRooms_45 : decode cX4_fillRooms 45 = .ok (.lastore, 1) := by decide +kernel
theorem dX4_fillRooms_46 : decode cX4_fillRooms 46 = .ok (.aload_n 0, 1) := by decide +kernel
theorem dX4_fillRooms_47 : decode cX4_fillRooms 47 = .ok (.getfield 22, 3) := by decide +kernel
theorem dX4_fillRooms_50 : decode cX4_fillRooms 50 = .ok (.getfield 132, 3) := by decide +kernel
theorem dX4_fillRooms_53 : decode cX4_fillRooms 53 = .ok (.iload_n 2, 1) := by decide +kernel
theorem dX4_fillRooms_54 : decode cX4_fillRooms 54 = .ok (.aaload, 1) := by decide +kernel
theorem dX4_fillRooms_55 : decode cX4_fillRooms 55 = .ok (.iload_n 3, 1) := by decide +kernel
theorem dX4_fillRooms_56 : decode cX4_fillRooms 56 = .ok (.iconst 1, 1) := by decide +kernel
theorem dX4_fillRooms_57 : decode cX4_fillRooms 57 = .ok (.iadd, 1) := by decide +kernel
theorem dX4_fillRooms_58 : decode cX4_fillRooms 58 = .ok (.lconst 1, 1) := by decide +kernel
theorem dX4_fillRooms_59 : decode cX4_fillRooms 59 = .ok (.lastore, 1) := by decide +kernel
theorem dX4_fillRooms_60 : decode cX4_fillRooms 60 = .ok (.iinc 2 1, 3) := by decide +kernel
theorem dX4_fillRooms_63 : decode cX4_fillRooms 63 = .ok (.iinc 3 1, 3) := by decide +kernel
theorem dX4_fillRooms_66 : decode cX4_fillRooms 66 = .ok (.goto (-62), 3) := by decide +kernel
theorem dX4_fillRooms_69 : decode cX4_fillRooms 69 = .ok (.return_, 1) := by decide +kernel
theorem dX8_lineBelowZero_0 : decode cX8_lineBelowZero 0 = .ok (.iconst (-1), 1) := by decide +kernel
theorem dX8_lineBelowZero_1 : decode cX8_lineBelowZero 1 = .ok (.istore_n 1, 1) := by decide +kernel
theorem dX8_lineBelowZero_2 : decode cX8_lineBelowZero 2 = .ok (.aload_n 0, 1) := by decide +kernel
theorem dX8_lineBelowZero_3 : decode cX8_lineBelowZero 3 = .ok (.getfield 29, 3) := by decide +kernel
theorem dX8_lineBelowZero_6 : decode cX8_lineBelowZero 6 = .ok (.istore_n 2, 1) := by decide +kernel
theorem dX8_lineBelowZero_7 : decode cX8_lineBelowZero 7 = .ok (.iload_n 2, 1) := by decide +kernel
theorem dX8_lineBelowZero_8 : decode cX8_lineBelowZero 8 = .ok (.aload_n 0, 1) := by decide +kernel
theorem dX8_lineBelowZero_9 : decode cX8_lineBelowZero 9 = .ok (.getfield 33, 3) := by decide +kernel
theorem dX8_lineBelowZero_12 : decode cX8_lineBelowZero 12 = .ok (.if_icmp .ge 43, 3) := by decide +kernel
theorem dX8_lineBelowZero_15 : decode cX8_lineBelowZero 15 = .ok (.aload_n 0, 1) := by decide +kernel
theorem dX8_lineBelowZero_16 : decode cX8_lineBelowZero 16 = .ok (.getfield 13, 3) := by decide +kernel
theorem dX8_lineBelowZero_19 : decode cX8_lineBelowZero 19 = .ok (.iload_n 2, 1) := by decide +kernel
theorem dX8_lineBelowZero_20 : decode cX8_lineBelowZero 20 = .ok (.aaload, 1) := by decide +kernel
theorem dX8_lineBelowZero_21 : decode cX8_lineBelowZero 21 = .ok (.iconst 0, 1) := by decide +kernel
theorem dX8_lineBelowZero_22 : decode cX8_lineBelowZero 22 = .ok (.laload, 1) := by decide +kernel
theorem dX8_lineBelowZero_23 : decode cX8_lineBelowZero 23 = .ok (.lconst 0, 1) := by decide +kernel
theorem dX8_lineBelowZero_24 : decode cX8_lineBelowZero 24 = .ok (.lcmp, 1) := by decide +kernel
theorem dX8_lineBelowZero_25 : decode cX8_lineBelowZero 25 = .ok (.ifCond .ge 24, 3) := by decide +kernel
theorem dX8_lineBelowZero_28 : decode cX8_lineBelowZero 28 = .ok (.iload_n 1, 1) := by decide +kernel
theorem dX8_lineBelowZero_29 : decode cX8_lineBelowZero 29 = .ok (.ifCond .lt 18, 3) := by decide +kernel
theorem dX8_lineBelowZero_32 : decode cX8_lineBelowZero 32 = .ok (.aload_n 0, 1) := by decide +kernel
theorem dX8_lineBelowZero_33 : decode cX8_lineBelowZero 33 = .ok (.getfield 16, 3) := by decide +kernel
theorem dX8_lineBelowZero_36 : decode cX8_lineBelowZero 36 = .ok (.iload_n 2, 1) := by decide +kernel
theorem dX8_lineBelowZero_37 : decode cX8_lineBelowZero 37 = .ok (.iaload, 1) := by decide +kernel
theorem dX8_lineBelowZero_38 : decode cX8_lineBelowZero 38 = .ok (.aload_n 0, 1) := by decide +kernel
theorem dX8_lineBelowZero_39 : decode cX8_lineBelowZero 39 = .ok (.getfield 16, 3) := by decide +kernel
theorem dX8_lineBelowZero_42 : decode cX8_lineBelowZero 42 = .ok (.iload_n 1, 1) := by decide +kernel
theorem dX8_lineBelowZero_43 : decode cX8_lineBelowZero 43 = .ok (.iaload, 1) := by decide +kernel
theorem dX8_lineBelowZero_44 : decode cX8_lineBelowZero 44 = .ok (.if_icmp .ge 5, 3) := by decide +kernel
theorem dX8_lineBelowZero_47 : decode cX8_lineBelowZero 47 = .ok (.iload_n 2, 1) := by decide +kernel
theorem dX8_lineBelowZero_48 : decode cX8_lineBelowZero 48 = .ok (.istore_n 1, 1) := by decide +kernel
theorem dX8_lineBelowZero_49 : decode cX8_lineBelowZero 49 = .ok (.iinc 2 1, 3) := by decide +kernel
theorem dX8_lineBelowZero_52 : decode cX8_lineBelowZero 52 = .ok (.goto (-45), 3) := by decide +kernel
theorem dX8_lineBelowZero_55 : decode cX8_lineBelowZero 55 = .ok (.iload_n 1, 1) := by decide +kernel
theorem dX8_lineBelowZero_56 : decode cX8_lineBelowZero 56 = .ok (.ireturn, 1) := by decide +kernel
set_option maxRecDepth 20000 in
theorem ggX8_columnFor_X8_compareRatios : GoodIn wsX8_columnFor wsX8_compareRatios := goodIn_r _ [8, 2, 9, 10, 11, 12, 13, 14, 15, 16] (by decide +kernel) (by decide +kernel)
set_option maxRecDepth 20000 in
theorem gX8_columnFor_X8_compareRatios : GoodIn wsX8_columnFor (wsV RX8 62 RX8 yX8_compareRatios wsX8_compareRatios) := goodIn_app (goodIn_of _ (by decide +kernel)) ggX8_columnFor_X8_compareRatios
theorem dX8_columnFor_0 : decode cX8_columnFor 0 = .ok (.iconst (-1), 1) := by decide +kernel
theorem dX8_columnFor_1 : decode cX8_columnFor 1 = .ok (.istore_n 2, 1) := by decide +kernel
theorem dX8_columnFor_2 : decode cX8_columnFor 2 = .ok (.iconst 1, 1) := by decide +kernel
theorem dX8_columnFor_3 : decode cX8_columnFor 3 = .ok (.istore_n 3, 1) := by decide +kernel
theorem dX8_columnFor_4 : decode cX8_columnFor 4 = .ok (.iload_n 3, 1) := by decide +kernel
theorem dX8_columnFor_5 : decode cX8_columnFor 5 = .ok (.aload_n 0, 1) := by decide +kernel
theorem dX8_columnFor_6 : decode cX8_columnFor 6 = .ok (.getfield 36, 3) := by decide +kernel
theorem dX8_columnFor_9 : decode cX8_columnFor 9 = .ok (.if_icmp .gt 69, 3) := by decide +kernel
theorem dX8_columnFor_12 : decode cX8_columnFor 12 = .ok (.aload_n 0, 1) := by decide +kernel
theorem dX8_columnFor_13 : decode cX8_columnFor 13 = .ok (.getfield 13, 3) := by decide +kernel
theorem dX8_columnFor_16 : decode cX8_columnFor 16 = .ok (.iload_n 1, 1) := by decide +kernel
theorem dX8_columnFor_17 : decode cX8_columnFor 17 = .ok (.aaload, 1) := by decide +kernel
theorem dX8_columnFor_18 : decode cX8_columnFor 18 = .ok (.iload_n 3, 1) := by decide +kernel
theorem dX8_columnFor_19 : decode cX8_columnFor 19 = .ok (.laload, 1) := by decide +kernel
theorem dX8_columnFor_20 : decode cX8_columnFor 20 = .ok (.lconst 0, 1) := by decide +kernel
theorem dX8_columnFor_21 : decode cX8_columnFor 21 = .ok (.lcmp, 1) := by decide +kernel
theorem dX8_columnFor_22 : decode cX8_columnFor 22 = .ok (.ifCond .lt 6, 3) := by decide +kernel
theorem dX8_columnFor_25 : decode cX8_columnFor 25 = .ok (.goto 47, 3) := by decide +kernel
theorem dX8_columnFor_28 : decode cX8_columnFor 28 = .ok (.iload_n 2, 1) := by decide +kernel
theorem dX8_columnFor_29 : decode cX8_columnFor 29 = .ok (.ifCond .ge 7, 3) := by decide +kernel
theorem dX8_columnFor_32 : decode cX8_columnFor 32 = .ok (.iconst (-1), 1) := by decide +kernel
theorem dX8_columnFor_33 : decode cX8_columnFor 33 = .ok (.goto 10, 3) := by decide +kernel
theorem dX8_columnFor_36 : decode cX8_columnFor 36 = .ok (.aload_n 0, 1) := by decide +kernel
theorem dX8_columnFor_37 : decode cX8_columnFor 37 = .ok (.iload_n 1, 1) := by decide +kernel
theorem dX8_columnFor_38 : decode cX8_columnFor 38 = .ok (.iload_n 3, 1) := by decide +kernel
theorem dX8_columnFor_39 : decode cX8_columnFor 39 = .ok (.iload_n 2, 1) := by decide +kernel
theorem dX8_columnFor_40 : decode cX8_columnFor 40 = .ok (.invokevirtual 62, 3) := by decide +kernel
theorem dX8_columnFor_43 : decode cX8_columnFor 43 = .ok (.istore 4, 2) := by decide +kernel
theorem dX8_columnFor_45 : decode cX8_columnFor 45 = .ok (.iload 4, 2) := by decide +kernel
theorem dX8_columnFor_47 : decode cX8_columnFor 47 = .ok (.ifCond .lt 23, 3) := by decide +kernel
theorem dX8_columnFor_50 : decode cX8_columnFor 50 = .ok (.iload 4, 2) := by decide +kernel
theorem dX8_columnFor_52 : decode cX8_columnFor 52 = .ok (.ifCond .ne 20, 3) := by decide +kernel
theorem dX8_columnFor_55 : decode cX8_columnFor 55 = .ok (.aload_n 0, 1) := by decide +kernel
theorem dX8_columnFor_56 : decode cX8_columnFor 56 = .ok (.getfield 20, 3) := by decide +kernel
theorem dX8_columnFor_59 : decode cX8_columnFor 59 = .ok (.iload_n 3, 1) := by decide +kernel
theorem dX8_columnFor_60 : decode cX8_columnFor 60 = .ok (.iaload, 1) := by decide +kernel
theorem dX8_columnFor_61 : decode cX8_columnFor 61 = .ok (.aload_n 0, 1) := by decide +kernel
theorem dX8_columnFor_62 : decode cX8_columnFor 62 = .ok (.getfield 20, 3) := by decide +kernel
theorem dX8_columnFor_65 : decode cX8_columnFor 65 = .ok (.iload_n 2, 1) := by decide +kernel
theorem dX8_columnFor_66 : decode cX8_columnFor 66 = .ok (.iaload, 1) := by decide +kernel
theorem dX8_columnFor_67 : decode cX8_columnFor 67 = .ok (.if_icmp .ge 5, 3) := by decide +kernel
theorem dX8_columnFor_70 : decode cX8_columnFor 70 = .ok (.iload_n 3, 1) := by decide +kernel
theorem dX8_columnFor_71 : decode cX8_columnFor 71 = .ok (.istore_n 2, 1) := by decide +kernel
theorem dX8_columnFor_72 : decode cX8_columnFor 72 = .ok (.iinc 3 1, 3) := by decide +kernel
theorem dX8_columnFor_75 : decode cX8_columnFor 75 = .ok (.goto (-71), 3) := by decide +kernel
theorem dX8_columnFor_78 : decode cX8_columnFor 78 = .ok (.iload_n 2, 1) := by decide +kernel
theorem dX8_columnFor_79 : decode cX8_columnFor 79 = .ok (.ireturn, 1) := by decide +kernel
theorem dX8_compareRatios_0 : decode cX8_compareRatios 0 = .ok (.aload_n 0, 1) := by decide +kernel
theorem dX8_compareRatios_1 : decode cX8_compareRatios 1 = .ok (.getfield 13, 3) := by decide +kernel
theorem dX8_compareRatios_4 : decode cX8_compareRatios 4 = .ok (.iload_n 1, 1) := by decide +kernel
theorem dX8_compareRatios_5 : decode cX8_compareRatios 5 = .ok (.aaload, 1) := by decide +kernel
theorem dX8_compareRatios_6 : decode cX8_compareRatios 6 = .ok (.iload_n 2, 1) := by decide +kernel
theorem dX8_compareRatios_7 : decode cX8_compareRatios 7 = .ok (.laload, 1) := by decide +kernel
theorem dX8_compareRatios_8 : decode cX8_compareRatios 8 = .ok (.lstore 4, 2) := by decide +kernel
theorem dX8_compareRatios_10 : decode cX8_compareRatios 10 = .ok (.aload_n 0, 1) := by decide +kernel
theorem dX8_compareRatios_11 : decode cX8_compareRatios 11 = .ok (.getfield 13, 3) := by decide +kernel
theorem dX8_compareRatios_14 : decode cX8_compareRatios 14 = .ok (.iload_n 1, 1) := by decide +kernel
theorem dX8_compareRatios_15 : decode cX8_compareRatios 15 = .ok (.aaload, 1) := by decide +kernel
theorem dX8_compareRatios_16 : decode cX8_compareRatios 16 = .ok (.iload_n 3, 1) := by decide +kernel
theorem dX8_compareRatios_17 : decode cX8_compareRatios 17 = .ok (.laload, 1) := by decide +kernel
theorem dX8_compareRatios_18 : decode cX8_compareRatios 18 = .ok (.lstore 6, 2) := by decide +kernel
theorem dX8_compareRatios_20 : decode cX8_compareRatios 20 = .ok (.iconst 0, 1) := by decide +kernel
theorem dX8_compareRatios_21 : decode cX8_compareRatios 21 = .ok (.istore 8, 2) := by decide +kernel
theorem dX8_compareRatios_23 : decode cX8_compareRatios 23 = .ok (.iload 8, 2) := by decide +kernel
theorem dX8_compareRatios_25 : decode cX8_compareRatios 25 = .ok (.aload_n 0, 1) := by decide +kernel
theorem dX8_compareRatios_26 : decode cX8_compareRatios 26 = .ok (.getfield 29, 3) := by decide +kernel
theorem dX8_compareRatios_29 : decode cX8_compareRatios 29 = .ok (.if_icmp .ge 59, 3) := by decide +kernel
theorem dX8_compareRatios_32 : decode cX8_compareRatios 32 = .ok (.aload_n 0, 1) := by decide +kernel
theorem dX8_compareRatios_33 : decode cX8_compareRatios 33 = .ok (.getfield 13, 3) := by decide +kernel
theorem dX8_compareRatios_36 : decode cX8_compareRatios 36 = .ok (.iload 8, 2) := by decide +kernel
theorem dX8_compareRatios_38 : decode cX8_compareRatios 38 = .ok (.aaload, 1) := by decide +kernel
theorem dX8_compareRatios_39 : decode cX8_compareRatios 39 = .ok (.iload_n 2, 1) := by decide +kernel
theorem dX8_compareRatios_40 : decode cX8_compareRatios 40 = .ok (.laload, 1) := by decide +kernel
theorem dX8_compareRatios_41 : decode cX8_compareRatios 41 = .ok (.lload 6, 2) := by decide +kernel
theorem dX8_compareRatios_43 : decode cX8_compareRatios 43 = .ok (.lmul, 1) := by decide +kernel
theorem dX8_compareRatios_44 : decode cX8_compareRatios 44 = .ok (.lstore 9, 2) := by decide +kernel
theorem dX8_compareRatios_46 : decode cX8_compareRatios 46 = .ok (.aload_n 0, 1) := by decide +kernel
theorem dX8_compareRatios_47 : decode cX8_compareRatios 47 = .ok (.getfield 13, 3) := by decide +kernel
theorem dX8_compareRatios_50 : decode cX8_compareRatios 50 = .ok (.iload 8, 2) := by decide +kernel
theorem dX8_compareRatios_52 : decode cX8_compareRatios 52 = .ok (.aaload, 1) := by decide +kernel
theorem dX8_compareRatios_53 : decode cX8_compareRatios 53 = .ok (.iload_n 3, 1) := by decide +kernel
theorem dX8_compareRatios_54 : decode cX8_compareRatios 54 = .ok (.laload, 1) := by decide +kernel
theorem dX8_compareRatios_55 : decode cX8_compareRatios 55 = .ok (.lload 4, 2) := by decide +kernel
theorem dX8_compareRatios_57 : decode cX8_compareRatios 57 = .ok (.lmul, 1) := by decide +kernel
theorem dX8_compareRatios_58 : decode cX8_compareRatios 58 = .ok (.lstore 11, 2) := by decide +kernel
theorem dX8_compareRatios_60 : decode cX8_compareRatios 60 = .ok (.lload 9, 2) := by decide +kernel
theorem dX8_compareRatios_62 : decode cX8_compareRatios 62 = .ok (.lload 11, 2) := by decide +kernel
theorem dX8_compareRatios_64 : decode cX8_compareRatios 64 = .ok (.lcmp, 1) := by decide +kernel
theorem dX8_compareRatios_65 : decode cX8_compareRatios 65 = .ok (.ifCond .eq 17, 3) := by decide +kernel
theorem dX8_compareRatios_68 : decode cX8_compareRatios 68 = .ok (.lload 9, 2) := by decide +kernel
theorem dX8_compareRatios_70 : decode cX8_compareRatios 70 = .ok (.lload 11, 2) := by decide +kernel
theorem dX8_compareRatios_72 : decode cX8_compareRatios 72 = .ok (.lcmp, 1) := by decide +kernel
theorem dX8_compareRatios_73 : decode cX8_compareRatios 73 = .ok (.ifCond .ge 7, 3) := by decide +kernel
theorem dX8_compareRatios_76 : decode cX8_compareRatios 76 = .ok (.iconst (-1), 1) := by decide +kernel
theorem dX8_compareRatios_77 : decode cX8_compareRatios 77 = .ok (.goto 4, 3) := by decide +kernel
theorem dX8_compareRatios_80 : decode cX8_compareRatios 80 = .ok (.iconst 1, 1) := by decide +kernel
theorem dX8_compareRatios_81 : decode cX8_compareRatios 81 = .ok (.ireturn, 1) := by decide +kernel
theorem dX8_compareRatios_82 : decode cX8_compareRatios 82 = .ok (.iinc 8 1, 3) := by decide +kernel
theorem dX8_compareRatios_85 : decode cX8_compareRatios 85 = .ok (.goto (-62), 3) := by decide +kernel
theorem dX8_compareRatios_88 : decode cX8_compareRatios 88 = .ok (.iconst 0, 1) := by decide +kernel
theorem dX8_compareRatios_89 : decode cX8_compareRatios 89 = .ok (.ireturn, 1) := by decide +kernel
theorem kk_X4_fillLines_0 : Cond.fieldLink RX4 46 "PaidBySigns$LeastCost" "hire" "LPaidBySigns$Hire;" ∈ wsX4_fillLines := pm_X4_fillLines_r1 _ (List.mem_of_getElem? (i := 0) rfl)
theorem kk_X4_fillLines_1 : Cond.fieldLink RX4 88 "PaidBySigns$Hire" "works" "I" ∈ wsX4_fillLines := pm_X4_fillLines_r1 _ (List.mem_of_getElem? (i := 1) rfl)
theorem kk_X4_fillLines_2 : Cond.fieldLink RX4 22 "PaidBySigns$LeastCost" "table" "LPaidBySigns$Table;" ∈ wsX4_fillLines := pm_X4_fillLines_r1 _ (List.mem_of_getElem? (i := 2) rfl)
theorem kk_X4_fillLines_3 : Cond.fieldLink RX4 132 "PaidBySigns$Table" "entry" "[[J" ∈ wsX4_fillLines := pm_X4_fillLines_r1 _ (List.mem_of_getElem? (i := 3) rfl)
theorem kk_X4_fillLines_4 : Cond.fieldLink RX4 70 "PaidBySigns$Hire" "whole" "I" ∈ wsX4_fillLines := pm_X4_fillLines_r1 _ (List.mem_of_getElem? (i := 4) rfl)
theorem kk_X4_fillLines_5 : Cond.fieldLink RX4 50 "PaidBySigns$LeastCost" "work" "I" ∈ wsX4_fillLines := pm_X4_fillLines_r1 _ (List.mem_of_getElem? (i := 5) rfl)
theorem kk_X4_fillLines_6 : Cond.fieldLink RX4 36 "PaidBySigns$LeastCost" "columns" "I" ∈ wsX4_fillLines := pm_X4_fillLines_r1 _ (List.mem_of_getElem? (i := 6) rfl)
theorem kk_X4_fillLines_7 : Cond.fieldLink RX4 26 "PaidBySigns$LeastCost" "columnSign" "[I" ∈ wsX4_fillLines := pm_X4_fillLines_r1 _ (List.mem_of_getElem? (i := 7) rfl)
theorem kk_X4_fillRooms_0 : Cond.fieldLink RX4 36 "PaidBySigns$LeastCost" "columns" "I" ∈ wsX4_fillRooms := by decide +kernel
theorem kk_X4_fillRooms_1 : Cond.fieldLink RX4 33 "PaidBySigns$LeastCost" "columnRoom" "[I" ∈ wsX4_fillRooms := by decide +kernel
theorem kk_X4_fillRooms_2 : Cond.fieldLink RX4 22 "PaidBySigns$LeastCost" "table" "LPaidBySigns$Table;" ∈ wsX4_fillRooms := by decide +kernel
theorem kk_X4_fillRooms_3 : Cond.fieldLink RX4 132 "PaidBySigns$Table" "entry" "[[J" ∈ wsX4_fillRooms := by decide +kernel
theorem kk_X8_lineBelowZero_0 : Cond.fieldLink RX8 29 "PaidBySigns$Table" "goals" "I" ∈ wsX8_lineBelowZero := by decide +kernel
theorem kk_X8_lineBelowZero_1 : Cond.fieldLink RX8 33 "PaidBySigns$Table" "lines" "I" ∈ wsX8_lineBelowZero := by decide +kernel
theorem kk_X8_lineBelowZero_2 : Cond.fieldLink RX8 13 "PaidBySigns$Table" "entry" "[[J" ∈ wsX8_lineBelowZero := by decide +kernel
theorem kk_X8_lineBelowZero_3 : Cond.fieldLink RX8 16 "PaidBySigns$Table" "lineName" "[I" ∈ wsX8_lineBelowZero := by decide +kernel
theorem kk_X8_columnFor_0 : Cond.fieldLink RX8 36 "PaidBySigns$Table" "columns" "I" ∈ wsX8_columnFor := by decide +kernel
theorem kk_X8_columnFor_1 : Cond.fieldLink RX8 13 "PaidBySigns$Table" "entry" "[[J" ∈ wsX8_columnFor := by decide +kernel
theorem kk_X8_compareRatios_0 : Cond.fieldLink RX8 13 "PaidBySigns$Table" "entry" "[[J" ∈ wsX8_compareRatios := by decide +kernel
theorem kk_X8_compareRatios_1 : Cond.fieldLink RX8 29 "PaidBySigns$Table" "goals" "I" ∈ wsX8_compareRatios := by decide +kernel
theorem kk_X8_columnFor_2 : Cond.fieldLink RX8 20 "PaidBySigns$Table" "columnName" "[I" ∈ wsX8_columnFor := by decide +kernel
theorem iw_X4_fillLines_X4 : ∀ w ∈ wsX40, w ∈ wsX4_fillLines := pw_X4_fillLines_X4
theorem iw_X4_fillLines_X3 : ∀ w ∈ wsX30, w ∈ wsX4_fillLines := pw_X4_fillLines_X3
theorem iw_X4_fillLines_X8 : ∀ w ∈ wsX80, w ∈ wsX4_fillLines := pw_X4_fillLines_X8
theorem iw_X4_fillRooms_X4 : ∀ w ∈ wsX40, w ∈ wsX4_fillRooms := by decide +kernel
theorem iw_X4_fillRooms_X8 : ∀ w ∈ wsX80, w ∈ wsX4_fillRooms := by decide +kernel
theorem iw_X8_lineBelowZero_X8 : ∀ w ∈ wsX80, w ∈ wsX8_lineBelowZero := by decide +kernel
theorem iw_X8_columnFor_X8 : ∀ w ∈ wsX80, w ∈ wsX8_columnFor := by decide +kernel
theorem iw_X8_compareRatios_X8 : ∀ w ∈ wsX80, w ∈ wsX8_compareRatios := by decide +kernel
