abbrev cX4_fillGoals : ByteArray := prog_6_method_11_code
def yX4_fillGoals : MethodName := ⟨RX4, "fillGoals", "(I)V"⟩
abbrev cX4_partsOf : ByteArray := prog_6_method_12_code
def yX4_partsOf : MethodName := ⟨RX4, "partsOf", "(I)I"⟩
abbrev cX4_fillLines : ByteArray := prog_6_method_13_code
def yX4_fillLines : MethodName := ⟨RX4, "fillLines", "(I)V"⟩
abbrev cX4_fillRooms : ByteArray := prog_6_method_14_code
def yX4_fillRooms : MethodName := ⟨RX4, "fillRooms", "(I)V"⟩
def tyX8 : Nat → FieldType := fun k => match k with
  | 0 => .array (.array .long)
  | 1 => .array .int
  | 2 => .array .int
  | 3 => .int
  | 4 => .int
  | 5 => .int
  | _ => .long
abbrev wsX80 : List Cond := u_ws RX8 TX8 7
theorem nmX8 : ∀ a, a < 7 → ∀ b, b < 7 → a ≠ b → (TX8 a).2.1 ≠ (TX8 b).2.1 := by decide +kernel
theorem tyX8_ok : ∀ k, k < 7 → parseFieldDescriptor (TX8 k).2.2.1 = some (tyX8 k) := by decide +kernel
abbrev cX8_start : ByteArray := prog_10_method_2_code
def yX8_start : MethodName := ⟨RX8, "start", "(III)V"⟩
def wsX8_start : List Cond := .code yX8_start cX8_start 5 none :: ([.methodLink RX8 23 Lib.Math.min.name, .static Lib.Math.min.name, .initialized "java/lang/Math", .code Lib.Math.min.name Lib.Math.min.code 2 (some .int), .fieldLink RX8 29 "PaidBySigns$Table" "goals" "I", .fieldLink RX8 33 "PaidBySigns$Table" "lines" "I", .fieldLink RX8 36 "PaidBySigns$Table" "columns" "I", .fieldLink RX8 39 "PaidBySigns$Table" "base" "J", .fieldLink RX8 13 "PaidBySigns$Table" "entry" "[[J", .fieldLink RX8 16 "PaidBySigns$Table" "lineName" "[I", .fieldLink RX8 20 "PaidBySigns$Table" "columnName" "[I", .methodLink RX8 43 yJ7_fill_d0a16, .static yJ7_fill_d0a16, .initialized RJ7, .code yJ7_fill_d0a16 cJ7_fill_d0a16 5 none] ++ wsX80)
def wsX4_partsOf : List Cond := .code yX4_partsOf cX4_partsOf 2 (some .int) :: ([.fieldLink RX4 30 "PaidBySigns$LeastCost" "columnRate" "[I"] ++ wsX40)
def wsX4_fillGoals : List Cond := .code yX4_fillGoals cX4_fillGoals 5 none :: ([.fieldLink RX4 36 "PaidBySigns$LeastCost" "columns" "I", .fieldLink RX4 26 "PaidBySigns$LeastCost" "columnSign" "[I", .fieldLink RX4 22 "PaidBySigns$LeastCost" "table" "LPaidBySigns$Table;", .fieldLink RX4 132 "PaidBySigns$Table" "entry" "[[J", .fieldLink RX4 50 "PaidBySigns$LeastCost" "work" "I", .methodLink RX4 128 yX4_partsOf, .instanceMethod yX4_partsOf, .selects RX4 yX4_partsOf yX4_partsOf, .initialized RX4, .code yX4_partsOf cX4_partsOf 2 (some .int), .fieldLink RX4 30 "PaidBySigns$LeastCost" "columnRate" "[I", .methodLink RX4 66 yX4_chanceOf, .instanceMethod yX4_chanceOf, .selects RX4 yX4_chanceOf yX4_chanceOf, .code yX4_chanceOf cX4_chanceOf 3 (some .int), .fieldLink RX4 56 "PaidBySigns$LeastCost" "joinedSign" "I", .fieldLink RX4 53 "PaidBySigns$LeastCost" "keptSign" "I", .fieldLink RX4 46 "PaidBySigns$LeastCost" "hire" "LPaidBySigns$Hire;", .fieldLink RX4 112 "PaidBySigns$Hire" "chances" "[[I"] ++ wsX40 ++ wsX80 ++ wsX30)
def wsX4_fillLines_r1 : List Cond := [Cond.fieldLink RX4 46 "PaidBySigns$LeastCost" "hire" "LPaidBySigns$Hire;", Cond.fieldLink RX4 88 "PaidBySigns$Hire" "works" "I", Cond.fieldLink RX4 22 "PaidBySigns$LeastCost" "table" "LPaidBySigns$Table;", Cond.fieldLink RX4 132 "PaidBySigns$Table" "entry" "[[J", Cond.fieldLink RX4 70 "PaidBySigns$Hire" "whole" "I", Cond.fieldLink RX4 50 "PaidBySigns$LeastCost" "work" "I", Cond.fieldLink RX4 36 "PaidBySigns$LeastCost" "columns" "I", Cond.fieldLink RX4 26 "PaidBySigns$LeastCost" "columnSign" "[I", Cond.methodLink RX4 136 yX3_lackOf, Cond.instanceMethod yX3_lackOf, Cond.selects RX3 yX3_lackOf yX3_lackOf, Cond.initialized RX3, Cond.code yX3_lackOf cX3_lackOf 3 (some .int), Cond.fieldLink RX3 15 "PaidBySigns$Hire" "costs" "[I", Cond.fieldLink RX3 42 "PaidBySigns$Hire" "otherwise" "I", Cond.fieldLink RX3 45 "PaidBySigns$Hire" "least" "I", Cond.methodLink RX3 63 yX3_feltOf, Cond.instanceMethod yX3_feltOf, Cond.selects RX3 yX3_feltOf yX3_feltOf, Cond.code yX3_feltOf cX3_feltOf 6 (some .int), Cond.fieldLink RX3 48 "PaidBySigns$Hire" "rates" "I", Cond.fieldLink RX3 26 "PaidBySigns$Hire" "mark" "[I", Cond.methodLink RX3 51 Lib.Math.min.name, Cond.static Lib.Math.min.name]
def wsX4_fillLines_r2 : List Cond := [Cond.initialized "java/lang/Math", Cond.code Lib.Math.min.name Lib.Math.min.code 2 (some .int), Cond.fieldLink RX3 23 "PaidBySigns$Hire" "rate" "[I", Cond.methodLink RX4 66 yX4_chanceOf, Cond.instanceMethod yX4_chanceOf, Cond.selects RX4 yX4_chanceOf yX4_chanceOf, Cond.initialized RX4, Cond.code yX4_chanceOf cX4_chanceOf 3 (some .int), Cond.fieldLink RX4 56 "PaidBySigns$LeastCost" "joinedSign" "I", Cond.fieldLink RX4 53 "PaidBySigns$LeastCost" "keptSign" "I", Cond.fieldLink RX4 112 "PaidBySigns$Hire" "chances" "[[I"]
def wsX4_fillLines : List Cond := .code yX4_fillLines cX4_fillLines 6 none :: ((wsX4_fillLines_r1 ++ wsX4_fillLines_r2) ++ wsX40 ++ wsX30 ++ wsX80)
def wsX4_fillRooms : List Cond := .code yX4_fillRooms cX4_fillRooms 4 none :: ([.fieldLink RX4 36 "PaidBySigns$LeastCost" "columns" "I", .fieldLink RX4 33 "PaidBySigns$LeastCost" "columnRoom" "[I", .fieldLink RX4 22 "PaidBySigns$LeastCost" "table" "LPaidBySigns$Table;", .fieldLink RX4 132 "PaidBySigns$Table" "entry" "[[J"] ++ wsX40 ++ wsX80)
set_option maxRecDepth 20000 in
theorem ggX4_fillGoals_X4_partsOf : GoodIn wsX4_fillGoals wsX4_partsOf := goodIn_r _ [10, 11, 20, 21, 22, 23, 24, 25, 26, 27, 28, 29, 30, 31] (by decide +kernel) (by decide +kernel)
set_option maxRecDepth 20000 in
theorem gX4_fillGoals_X4_partsOf : GoodIn wsX4_fillGoals (wsV RX4 128 RX4 yX4_partsOf wsX4_partsOf) := goodIn_app (goodIn_of _ (by decide +kernel)) ggX4_fillGoals_X4_partsOf
set_option maxRecDepth 20000 in
theorem ggX4_fillGoals_X4_chanceOf : GoodIn wsX4_fillGoals wsX4_chanceOf := goodIn_r _ [15, 16, 17, 18, 19, 20, 21, 22, 23, 24, 25, 26, 27, 28, 29, 30, 31, 39, 40, 41, 42, 43, 44, 45, 46, 47, 48, 49] (by decide +kernel) (by decide +kernel)
set_option maxRecDepth 20000 in
theorem gX4_fillGoals_X4_chanceOf : GoodIn wsX4_fillGoals (wsV RX4 66 RX4 yX4_chanceOf wsX4_chanceOf) := goodIn_app (goodIn_of _ (by decide +kernel)) ggX4_fillGoals_X4_chanceOf
theorem dX4_fillGoals_0 : decode cX4_fillGoals 0 = .ok (.iconst 0, 1) := by decide +kernel
theorem dX4_fillGoals_1 : decode cX4_fillGoals 1 = .ok (.istore_n 2, 1) := by decide +kernel
theorem dX4_fillGoals_2 : decode cX4_fillGoals 2 = .ok (.iload_n 2, 1) := by decide +kernel
theorem dX4_fillGoals_3 : decode cX4_fillGoals 3 = .ok (.aload_n 0, 1) := by decide +kernel
theorem dX4_fillGoals_4 : decode cX4_fillGoals 4 = .ok (.getfield 36, 3) := by decide +kernel
theorem dX4_fillGoals_7 : decode cX4_fillGoals 7 = .ok (.if_icmp .ge 77, 3) := by decide +kernel
theorem dX4_fillGoals_10 : decode cX4_fillGoals 10 = .ok (.aload_n 0, 1) := by decide +kernel
theorem dX4_fillGoals_11 : decode cX4_fillGoals 11 = .ok (.getfield 26, 3) := by decide +kernel
theorem dX4_fillGoals_14 : decode cX4_fillGoals 14 = .ok (.iload_n 2, 1) := by decide +kernel
theorem dX4_fillGoals_15 : decode cX4_fillGoals 15 = .ok (.iaload, 1) := by decide +kernel
theorem dX4_fillGoals_16 : decode cX4_fillGoals 16 = .ok (.istore_n 3, 1) := by decide +kernel
theorem dX4_fillGoals_17 : decode cX4_fillGoals 17 = .ok (.aload_n 0, 1) := by decide +kernel
theorem dX4_fillGoals_18 : decode cX4_fillGoals 18 = .ok (.iload_n 2, 1) := by decide +kernel
theorem dX4_fillGoals_19 : decode cX4_fillGoals 19 = .ok (.invokevirtual 128, 3) := by decide +kernel
theorem dX4_fillGoals_22 : decode cX4_fillGoals 22 = .ok (.istore 4, 2) := by decide +kernel
theorem dX4_fillGoals_24 : decode cX4_fillGoals 24 = .ok (.aload_n 0, 1) := by decide +kernel
theorem dX4_fillGoals_25 : decode cX4_fillGoals 25 = .ok (.getfield 22, 3) := by decide +kernel
theorem dX4_fillGoals_28 : decode cX4_fillGoals 28 = .ok (.getfield 132, 3) := by decide +kernel
theorem dX4_fillGoals_31 : decode cX4_fillGoals 31 = .ok (.iconst 0, 1) := by decide +kernel
theorem dX4_fillGoals_32 : decode cX4_fillGoals 32 = .ok (.aaload, 1) := by decide +kernel
theorem dX4_fillGoals_33 : decode cX4_fillGoals 33 = .ok (.iload_n 2, 1) := by decide +kernel
theorem dX4_fillGoals_34 : decode cX4_fillGoals 34 = .ok (.iconst 1, 1) := by decide +kernel
theorem dX4_fillGoals_35 : decode cX4_fillGoals 35 = .ok (.iadd, 1) := by decide +kernel
theorem dX4_fillGoals_36 : decode cX4_fillGoals 36 = .ok (.iload 4, 2) := by decide +kernel
theorem dX4_fillGoals_38 : decode cX4_fillGoals 38 = .ok (.i2l, 1) := by decide +kernel
theorem dX4_fillGoals_39 : decode cX4_fillGoals 39 = .ok (.lneg, 1) := by decide +kernel
theorem dX4_fillGoals_40 : decode cX4_fillGoals 40 = .ok (.aload_n 0, 1) := by decide +kernel
theorem dX4_fillGoals_41 : decode cX4_fillGoals 41 = .ok (.aload_n 0, 1) := by decide +kernel
theorem dX4_fillGoals_42 : decode cX4_fillGoals 42 = .ok (.getfield 50, 3) := by decide +kernel
theorem dX4_fillGoals_45 : decode cX4_fillGoals 45 = .ok (.iload_n 3, 1) := by decide +kernel
theorem dX4_fillGoals_46 : decode cX4_fillGoals 46 = .ok (.invokevirtual 66, 3) := by decide +kernel
theorem dX4_fillGoals_49 : decode cX4_fillGoals 49 = .ok (.i2l, 1) := by decide +kernel
theorem dX4_fillGoals_50 : decode cX4_fillGoals 50 = .ok (.lmul, 1) := by decide +kernel
theorem dX4_fillGoals_51 : decode cX4_fillGoals 51 = .ok (.lastore, 1) := by decide +kernel
theorem dX4_fillGoals_52 : decode cX4_fillGoals 52 = .ok (.iconst 1, 1) := by decide +kernel
theorem dX4_fillGoals_53 : decode cX4_fillGoals 53 = .ok (.iload_n 3, 1) := by decide +kernel
theorem dX4_fillGoals_54 : decode cX4_fillGoals 54 = .ok (.iadd, 1) := by decide +kernel
theorem dX4_fillGoals_55 : decode cX4_fillGoals 55 = .ok (.iload_n 1, 1) := by decide +kernel
theorem dX4_fillGoals_56 : decode cX4_fillGoals 56 = .ok (.if_icmp .ge 22, 3) := by decide +kernel
theorem dX4_fillGoals_59 : decode cX4_fillGoals 59 = .ok (.aload_n 0, 1) := by decide +kernel
theorem dX4_fillGoals_60 : decode cX4_fillGoals 60 = .ok (.getfield 22, 3) := by decide +kernel
theorem dX4_fillGoals_63 : decode cX4_fillGoals 63 = .ok (.getfield 132, 3) := by decide +kernel
theorem dX4_fillGoals_66 : decode cX4_fillGoals 66 = .ok (.iconst 1, 1) := by decide +kernel
theorem dX4_fillGoals_67 : decode cX4_fillGoals 67 = .ok (.iload_n 3, 1) := by decide +kernel
theorem dX4_fillGoals_68 : decode cX4_fillGoals 68 = .ok (.iadd, 1) := by decide +kernel
theorem dX4_fillGoals_69 : decode cX4_fillGoals 69 = .ok (.aaload, 1) := by decide +kernel
theorem dX4_fillGoals_70 : decode cX4_fillGoals 70 = .ok (.iload_n 2, 1) := by decide +kernel
theorem dX4_fillGoals_71 : decode cX4_fillGoals 71 = .ok (.iconst 1, 1) := by decide +kernel
theorem dX4_fillGoals_72 : decode cX4_fillGoals 72 = .ok (.iadd, 1) := by decide +kernel
theorem dX4_fillGoals_73 : decode cX4_fillGoals 73 = .ok (.iload 4, 2) := by decide +kernel
theorem dX4_fillGoals_75 : decode cX4_fillGoals 75 = .ok (.ineg, 1) := by decide +kernel
theorem dX4_fillGoals_76 : decode cX4_fillGoals 76 = .ok (.i2l, 1) := by decide +kernel
theorem dX4_fillGoals_77 : decode cX4_fillGoals 77 = .ok (.lastore, 1) := by decide +kernel
theorem dX4_fillGoals_78 : decode cX4_fillGoals 78 = .ok (.iinc 2 1, 3) := by decide +kernel
theorem dX4_fillGoals_81 : decode cX4_fillGoals 81 = .ok (.goto (-79), 3) := by decide +kernel
theorem dX4_fillGoals_84 : decode cX4_fillGoals 84 = .ok (.return_, 1) := by decide +kernel
theorem dX4_partsOf_0 : decode cX4_partsOf 0 = .ok (.aload_n 0, 1) := by decide +kernel
theorem dX4_partsOf_1 : decode cX4_partsOf 1 = .ok (.getfield 30, 3) := by decide +kernel
theorem dX4_partsOf_4 : decode cX4_partsOf 4 = .ok (.iload_n 1, 1) := by decide +kernel
theorem dX4_partsOf_5 : decode cX4_partsOf 5 = .ok (.iaload, 1) := by decide +kernel
theorem dX4_partsOf_6 : decode cX4_partsOf 6 = .ok (.iconst 1, 1) := by decide +kernel
theorem dX4_partsOf_7 : decode cX4_partsOf 7 = .ok (.if_icmp .ge 7, 3) := by decide +kernel
theorem dX4_partsOf_10 : decode cX4_partsOf 10 = .ok (.iconst 0, 1) := by decide +kernel
theorem dX4_partsOf_11 : decode cX4_partsOf 11 = .ok (.goto 12, 3) := by decide +kernel
theorem dX4_partsOf_14 : decode cX4_partsOf 14 = .ok (.bipush 60, 2) := by decide +kernel
theorem dX4_partsOf_16 : decode cX4_partsOf 16 = .ok (.aload_n 0, 1) := by decide +kernel
theorem dX4_partsOf_17 : decode cX4_partsOf 17 = .ok (.getfield 30, 3) := by decide +kernel
theorem dX4_partsOf_20 : decode cX4_partsOf 20 = .ok (.iload_n 1, 1) := by decide +kernel
theorem dX4_partsOf_21 : decode cX4_partsOf 21 = .ok (.iaload, 1) := by decide +kernel
theorem dX4_partsOf_22 : decode cX4_partsOf 22 = .ok (.idiv, 1) := by decide +kernel
theorem dX4_partsOf_23 : decode cX4_partsOf 23 = .ok (.ireturn, 1) := by decide +kernel
set_option maxRecDepth 20000 in
theorem ggX4_fillLines_X3_lackOf : GoodIn wsX4_fillLines wsX3_lackOf := goodIn_r _ [13, 14, 15, 16, 17, 18, 19, 12, 20, 21, 22, 23, 24, 25, 26, 27, 48, 49, 50, 51, 52, 53, 54, 55, 56, 57, 58] (by decide +kernel) (by decide +kernel)
set_option maxRecDepth 20000 in
theorem gX4_fillLines_X3_lackOf : GoodIn wsX4_fillLines (wsV RX4 136 RX3 yX3_lackOf wsX3_lackOf) := goodIn_app (goodIn_of _ (by decide +kernel)) ggX4_fillLines_X3_lackOf
set_option maxRecDepth 20000 in
theorem ggX4_fillLines_X4_chanceOf : GoodIn wsX4_fillLines wsX4_chanceOf := goodIn_r _ [32, 33, 34, 1, 35, 36, 37, 38, 39, 40, 41, 42, 43, 44, 45, 46, 47, 48, 49, 50, 51, 52, 53, 54, 55, 56, 57, 58] (by decide +kernel) (by decide +kernel)
set_option maxRecDepth 20000 in
theorem gX4_fillLines_X4_chanceOf : GoodIn wsX4_fillLines (wsV RX4 66 RX4 yX4_chanceOf wsX4_chanceOf) := goodIn_app (goodIn_of _ (by decide +kernel)) ggX4_fillLines_X4_chanceOf
theorem dX4_fillLines_0 : decode cX4_fillLines 0 = .ok (.iconst 0, 1) := by decide +kernel
theorem dX4_fillLines_1 : decode cX4_fillLines 1 = .ok (.istore_n 2, 1) := by decide +kernel
theorem dX4_fillLines_2 : decode cX4_fillLines 2 = .ok (.iload_n 2, 1) := by decide +kernel
theorem dX4_fillLines_3 : decode cX4_fillLines 3 = .ok (.aload_n 0, 1) := by decide +kernel
theorem dX4_fillLines_4 : decode cX4_fillLines 4 = .ok (.getfield 46, 3) := by decide +kernel
theorem dX4_fillLines_7 : decode cX4_fillLines 7 = .ok (.getfield 88, 3) := by decide +kernel
theorem dX4_fillLines_10 : decode cX4_fillLines 10 = .ok (.if_icmp .ge 111, 3) := by decide +kernel
theorem dX4_fillLines_13 : decode cX4_fillLines 13 = .ok (.aload_n 0, 1) := by decide +kernel
theorem dX4_fillLines_14 : decode cX4_fillLines 14 = .ok (.getfield 22, 3) := by decide +kernel
theorem dX4_fillLines_17 : decode cX4_fillLines 17 = .ok (.getfield 132, 3) := by decide +kernel
theorem dX4_fillLines_20 : decode cX4_fillLines 20 = .ok (.iload_n 1, 1) := by decide +kernel
theorem dX4_fillLines_21 : decode cX4_fillLines 21 = .ok (.iload_n 2, 1) := by decide +kernel
theorem dX4_fillLines_22 : decode cX4_fillLines 22 = .ok (.iadd, 1) := by decide +kernel
theorem dX4_fillLines_23 : decode cX4_fillLines 23 = .ok (.aaload, 1) := by decide +kernel
theorem dX4_fillLines_24 : decode cX4_fillLines 24 = .ok (.astore_n 3, 1) := by decide +kernel
theorem dX4_fillLines_25 : decode cX4_fillLines 25 = .ok (.aload_n 3, 1) := by decide +kernel
theorem dX4_fillLines_26 : decode cX4_fillLines 26 = .ok (.iconst 0, 1) := by decide +kernel
theorem dX4_fillLines_27 : decode cX4_fillLines 27 = .ok (.aload_n 0, 1) := by decide +kernel
theorem dX4_fillLines_28 : decode cX4_fillLines 28 = .ok (.getfield 46, 3) := by decide +kernel
theorem dX4_fillLines_31 : decode cX4_fillLines 31 = .ok (.getfield 70, 3) := by decide +kernel
theorem dX4_fillLines_34 : decode cX4_fillLines 34 = .ok (.i2l, 1) := by decide +kernel
theorem dX4_fillLines_35 : decode cX4_fillLines 35 = .ok (.lneg, 1) := by decide +kernel
theorem dX4_fillLines_36 : decode cX4_fillLines 36 = .ok (.aload_n 0, 1) := by decide +kernel
theorem dX4_fillLines_37 : decode cX4_fillLines 37 = .ok (.getfield 46, 3) := by decide +kernel
theorem dX4_fillLines_40 : decode cX4_fillLines 40 = .ok (.aload_n 0, 1) := by decide +kernel
theorem dX4_fillLines_41 : decode cX4_fillLines 41 = .ok (.getfield 50, 3) := by decide +kernel
theorem dX4_fillLines_44 : decode cX4_fillLines 44 = .ok (.iload_n 2, 1) := by decide +kernel
theorem dX4_fillLines_45 : decode cX4_fillLines 45 = .ok (.invokevirtual 136, 3) := by decide +kernel
theorem dX4_fillLines_48 : decode cX4_fillLines 48 = .ok (.i2l, 1) := by decide +kernel
theorem dX4_fillLines_49 : decode cX4_fillLines 49 = .ok (.lmul, 1) := by decide +kernel
theorem dX4_fillLines_50 : decode cX4_fillLines 50 = .ok (.lastore, 1) := by decide +kernel
theorem dX4_fillLines_51 : decode cX4_fillLines 51 = .ok (.iconst 0, 1) := by decide +kernel
theorem dX4_fillLines_52 : decode cX4_fillLines 52 = .ok (.istore 4, 2) := by decide +kernel
theorem dX4_fillLines_54 : decode cX4_fillLines 54 = .ok (.iload 4, 2) := by decide +kernel
theorem dX4_fillLines_56 : decode cX4_fillLines 56 = .ok (.aload_n 0, 1) := by decide +kernel
theorem dX4_fillLines_57 : decode cX4_fillLines 57 = .ok (.getfield 36, 3) := by decide +kernel
theorem dX4_fillLines_60 : decode cX4_fillLines 60 = .ok (.if_icmp .ge 55, 3) := by decide +kernel
theorem dX4_fillLines_63 : decode cX4_fillLines 63 = .ok (.aload_n 0, 1) := by decide +kernel
theorem dX4_fillLines_64 : decode cX4_fillLines 64 = .ok (.getfield 26, 3) := by decide +kernel
theorem dX4_fillLines_67 : decode cX4_fillLines 67 = .ok (.iload 4, 2) := by decide +kernel
theorem dX4_fillLines_69 : decode cX4_fillLines 69 = .ok (.iaload, 1) := by decide +kernel
theorem dX4_fillLines_70 : decode cX4_fillLines 70 = .ok (.istore 5, 2) := by decide +kernel
theorem dX4_fillLines_72 : decode cX4_fillLines 72 = .ok (.aload_n 3, 1) := by decide +kernel
theorem dX4_fillLines_73 : decode cX4_fillLines 73 = .ok (.iload 4, 2) := by decide +kernel
theorem dX4_fillLines_75 : decode cX4_fillLines 75 = .ok (.iconst 1, 1) := by decide +kernel
theorem dX4_fillLines_76 : decode cX4_fillLines 76 = .ok (.iadd, 1) := by decide +kernel
theorem dX4_fillLines_77 : decode cX4_fillLines 77 = .ok (.iload_n 2, 1) := by decide +kernel
theorem dX4_fillLines_78 : decode cX4_fillLines 78 = .ok (.aload_n 0, 1) := by decide +kernel
theorem dX4_fillLines_79 : decode cX4_fillLines 79 = .ok (.getfield 50, 3) := by decide +kernel
theorem dX4_fillLines_82 : decode cX4_fillLines 82 = .ok (.if_icmp .ne 7, 3) := by decide +kernel
theorem dX4_fillLines_85 : decode cX4_fillLines 85 = .ok (.iconst 0, 1) := by decide +kernel
theorem dX4_fillLines_86 : decode cX4_fillLines 86 = .ok (.goto 10, 3) := by decide +kernel
theorem dX4_fillLines_89 : decode cX4_fillLines 89 = .ok (.aload_n 0, 1) := by decide +kernel
theorem dX4_fillLines_90 : decode cX4_fillLines 90 = .ok (.iload_n 2, 1) := by decide +kernel
theorem dX4_fillLines_91 : decode cX4_fillLines 91 = .ok (.iload 5, 2) := by decide +kernel
theorem dX4_fillLines_93 : decode cX4_fillLines 93 = .ok (.invokevirtual 66, 3) := by decide +kernel
theorem dX4_fillLines_96 : decode cX4_fillLines 96 = .ok (.aload_n 0, 1) := by decide +kernel
theorem dX4_fillLines_97 : decode cX4_fillLines 97 = .ok (.aload_n 0, 1) := by decide +kernel
theorem dX4_fillLines_98 : decode cX4_fillLines 98 = .ok (.getfield 50, 3) := by decide +kernel
theorem dX4_fillLines_101 : decode cX4_fillLines 101 = .ok (.iload 5, 2) := by decide +kernel
theorem dX4_fillLines_103 : decode cX4_fillLines 103 = .ok (.invokevirtual 66, 3) := by decide +kernel
theorem dX4_fillLines_106 : decode cX4_fillLines 106 = .ok (.isub, 1) := by decide +kernel
theorem dX4_fillLines_107 : decode cX4_fillLines 107 = .ok (.i2l, 1) := by decide +kernel
theorem dX4_fillLines_108 : decode cX4_fillLines 108 = .ok (.lastore, 1) := by decide +kernel
theorem dX4_fillLines_109 : decode cX4_fillLines 109 = .ok (.iinc 4 1, 3) := by decide +kernel
theorem dX4_fillLines_112 : decode cX4_fillLines 112 = .ok (.goto (-58), 3) := by decide +kernel
theorem dX4_fillLines_115 : decode cX4_fillLines 115 = .ok (.iinc 2 1, 3) := by decide +kernel
theorem dX4_fillLines_118 : decode cX4_fillLines 118 = .ok (.goto (-116), 3) := by decide +kernel
theorem dX4_fillLines_121 : decode cX4_fillLines 121 = .ok (.return_, 1) := by decide +kernel
theorem dX4_fillRooms_0 : decode cX4_fillRooms 0 = .ok (.iload_n 1, 1) := by decide +kernel
theorem dX4_fillRooms_1 : decode cX4_fillRooms 1 = .ok (.istore_n 2, 1) := by decide +kernel
theorem dX4_fillRooms_2 : decode cX4_fillRooms 2 = .ok (.iconst 0, 1) := by decide +kernel
theorem dX4_fillRooms_3 : decode cX4_fillRooms 3 = .ok (.istore_n 3, 1) := by decide +kernel
theorem dX4_fillRooms_4 : decode cX4_fillRooms 4 = .ok (.iload_n 3, 1) := by decide +kernel
theorem dX4_fillRooms_5 : decode cX4_fillRooms 5 = .ok (.aload_n 0, 1) := by decide +kernel
theorem dX4_fillRooms_6 : decode cX4_fillRooms 6 = .ok (.getfield 36, 3) := by decide +kernel
theorem dX4_fillRooms_9 : decode cX4_fillRooms 9 = .ok (.if_icmp .ge 60, 3) := by decide +kernel
theorem dX4_fillRooms_12 : decode cX4_fillRooms 12 = .ok (.iload_n 2, 1) := by decide +kernel
theorem dX4_fillRooms_13 : decode cX4_fillRooms 13 = .ok (.bipush 18, 2) := by decide +kernel
theorem dX4_fillRooms_15 : decode cX4_fillRooms 15 = .ok (.if_icmp .ge 54, 3) := by decide +kernel
theorem dX4_fillRooms_18 : decode cX4_fillRooms 18 = .ok (.aload_n 0, 1) := by decide +kernel
theorem dX4_fillRooms_19 : decode cX4_fillRooms 19 = .ok (.getfield 33, 3) := by decide +kernel
theorem dX4_fillRooms_22 : decode cX4_fillRooms 22 = .ok (.iload_n 3, 1) := by decide +kernel
theorem dX4_fillRooms_23 : decode cX4_fillRooms 23 = .ok (.iaload, 1) := by decide +kernel
theorem dX4_fillRooms_24 : decode cX4_fillRooms 24 = .ok (.iconst (-1), 1) := by decide +kernel
theorem dX4_fillRooms_25 : decode cX4_fillRooms 25 = .ok (.if_icmp .eq 38, 3) := by decide +kernel
theorem dX4_fillRooms_28 : decode cX4_fillRooms 28 = .ok (.aload_n 0, 1) := by decide +kernel
theorem dX4_fillRooms_29 : decode cX4_fillRooms 29 = .ok (.getfield 22, 3) := by decide +kernel
theorem dX4_fillRooms_32 : decode cX4_fillRooms 32 = .ok (.getfield 132, 3) := by decide +kernel
theorem dX4_fillRooms_35 : decode cX4_fillRooms 35 = .ok (.iload_n 2, 1) := by decide +kernel
theorem dX4_fillRooms_36 : decode cX4_fillRooms 36 = .ok (.aaload, 1) := by decide +kernel
theorem dX4_fillRooms_37 : decode cX4_fillRooms 37 = .ok (.iconst 0, 1) := by decide +kernel
theorem dX4_fillRooms_38 : decode cX4_fillRooms 38 = .ok (.aload_n 0, 1) := by decide +kernel
theorem dX4_fillRooms_39 : decode cX4_fillRooms 39 = .ok (.getfield 33, 3) := by decide +kernel
theorem dX4_fillRooms_42 : decode cX4_fillRooms 42 = .ok (.iload_n 3, 1) := by decide +kernel
theorem dX4_fillRooms_43 : decode cX4_fillRooms 43 = .ok (.iaload, 1) := by decide +kernel
theorem dX4_fillRooms_44 : decode cX4_fillRooms 44 = .ok (.i2l, 1) := by decide +kernel
theorem dX4_fillRooms_45 : decode cX4_fillRooms 45 = .ok (.lastore, 1) := by decide +kernel
theorem dX4_fillRooms_46 : decode cX4_fillRooms 46 = .ok (.aload_n 0, 1) := by decide +kernel
theorem dX4_fillRooms_47 : decode cX4_fillRooms 47 = .ok (.getfield 22, 3) := by decide +kernel
theorem dX4_fillRooms_50 : decode cX4_fillRooms 50 = .ok (.getfield 132, 3) := by decide +kernel
theorem dX4_fillRooms_53 : decode cX4_fillRooms 53 = .ok (.iload_n 2, 1) := by decide +kernel
theorem dX4_fillRooms_54 : decode cX4_fillRooms 54 = .ok (.aaload, 1) := by decide +kernel
theorem dX4_fillRooms_55 : decode cX4_fillRooms 55 = .ok (.iload_n 3, 1) := by decide +kernel
theorem dX4_fillRooms_56 : decode cX4_fillRooms 56 = .ok (.iconst 1, 1) := by decide +kernel
theorem dX4_fillRooms_57 : decode cX4_fillRooms 57 = .ok (.iadd, 1) := by decide +kernel
theorem dX4_fillRooms_58 : decode cX4_fillRooms 58 = .ok (.lconst 1, 1) := by decide +kernel
theorem dX4_fillRooms_59 : decode cX4_fillRooms 59 = .ok (.lastore, 1) := by decide +kernel
theorem dX4_fillRooms_60 : decode cX4_fillRooms 60 = .ok (.iinc 2 1, 3) := by decide +kernel
theorem dX4_fillRooms_63 : decode cX4_fillRooms 63 = .ok (.iinc 3 1, 3) := by decide +kernel
theorem dX4_fillRooms_66 : decode cX4_fillRooms 66 = .ok (.goto (-62), 3) := by decide +kernel
theorem dX4_fillRooms_69 : decode cX4_fillRooms 69 = .ok (.return_, 1) := by decide +kernel
set_option maxRecDepth 20000 in
theorem ggX8_start_J7_fill_d0a16 : GoodIn wsX8_start wsJ7_fill_d0a16 := goodIn_r _ [15] (by decide +kernel) (by decide +kernel)
set_option maxRecDepth 20000 in
theorem gX8_start_J7_fill_d0a16 : GoodIn wsX8_start (va_wsS RX8 43 yJ7_fill_d0a16 wsJ7_fill_d0a16) := goodIn_app (goodIn_of _ (by decide +kernel)) ggX8_start_J7_fill_d0a16
theorem dX8_start_0 : decode cX8_start 0 = .ok (.aload_n 0, 1) := by decide +kernel
theorem dX8_start_1 : decode cX8_start 1 = .ok (.iload_n 1, 1) := by decide +kernel
theorem dX8_start_2 : decode cX8_start 2 = .ok (.bipush 18, 2) := by decide +kernel
theorem dX8_start_4 : decode cX8_start 4 = .ok (.invokestatic 23, 3) := by decide +kernel
theorem dX8_start_7 : decode cX8_start 7 = .ok (.putfield 29, 3) := by decide +kernel
theorem dX8_start_10 : decode cX8_start 10 = .ok (.aload_n 0, 1) := by decide +kernel
theorem dX8_start_11 : decode cX8_start 11 = .ok (.iload_n 2, 1) := by decide +kernel
theorem dX8_start_12 : decode cX8_start 12 = .ok (.bipush 18, 2) := by decide +kernel
theorem dX8_start_14 : decode cX8_start 14 = .ok (.invokestatic 23, 3) := by decide +kernel
theorem dX8_start_17 : decode cX8_start 17 = .ok (.putfield 33, 3) := by decide +kernel
theorem dX8_start_20 : decode cX8_start 20 = .ok (.aload_n 0, 1) := by decide +kernel
theorem dX8_start_21 : decode cX8_start 21 = .ok (.iload_n 3, 1) := by decide +kernel
theorem dX8_start_22 : decode cX8_start 22 = .ok (.bipush 12, 2) := by decide +kernel
theorem dX8_start_24 : decode cX8_start 24 = .ok (.invokestatic 23, 3) := by decide +kernel
theorem dX8_start_27 : decode cX8_start 27 = .ok (.putfield 36, 3) := by decide +kernel
theorem dX8_start_30 : decode cX8_start 30 = .ok (.aload_n 0, 1) := by decide +kernel
theorem dX8_start_31 : decode cX8_start 31 = .ok (.lconst 1, 1) := by decide +kernel
theorem dX8_start_32 : decode cX8_start 32 = .ok (.putfield 39, 3) := by decide +kernel
theorem dX8_start_35 : decode cX8_start 35 = .ok (.iconst 0, 1) := by decide +kernel
theorem dX8_start_36 : decode cX8_start 36 = .ok (.istore 4, 2) := by decide +kernel
theorem dX8_start_38 : decode cX8_start 38 = .ok (.iload 4, 2) := by decide +kernel
theorem dX8_start_40 : decode cX8_start 40 = .ok (.aload_n 0, 1) := by decide +kernel
theorem dX8_start_41 : decode cX8_start 41 = .ok (.getfield 33, 3) := by decide +kernel
theorem dX8_start_44 : decode cX8_start 44 = .ok (.if_icmp .ge 34, 3) := by decide +kernel
theorem dX8_start_47 : decode cX8_start 47 = .ok (.aload_n 0, 1) := by decide +kernel
theorem dX8_start_48 : decode cX8_start 48 = .ok (.getfield 13, 3) := by decide +kernel
theorem dX8_start_51 : decode cX8_start 51 = .ok (.iload 4, 2) := by decide +kernel
theorem dX8_start_53 : decode cX8_start 53 = .ok (.aaload, 1) := by decide +kernel
theorem dX8_start_54 : decode cX8_start 54 = .ok (.lconst 0, 1) := by decide +kernel
theorem dX8_start_55 : decode cX8_start 55 = .ok (.invokestatic 43, 3) := by decide +kernel
theorem dX8_start_58 : decode cX8_start 58 = .ok (.aload_n 0, 1) := by decide +kernel
theorem dX8_start_59 : decode cX8_start 59 = .ok (.getfield 16, 3) := by decide +kernel
theorem dX8_start_62 : decode cX8_start 62 = .ok (.iload 4, 2) := by decide +kernel
theorem dX8_start_64 : decode cX8_start 64 = .ok (.aload_n 0, 1) := by decide +kernel
theorem dX8_start_65 : decode cX8_start 65 = .ok (.getfield 36, 3) := by decide +kernel
theorem dX8_start_68 : decode cX8_start 68 = .ok (.iload 4, 2) := by decide +kernel
theorem dX8_start_70 : decode cX8_start 70 = .ok (.iadd, 1) := by decide +kernel
theorem dX8_start_71 : decode cX8_start 71 = .ok (.iastore, 1) := by decide +kernel
theorem dX8_start_72 : decode cX8_start 72 = .ok (.iinc 4 1, 3) := by decide +kernel
theorem dX8_start_75 : decode cX8_start 75 = .ok (.goto (-37), 3) := by decide +kernel
theorem dX8_start_78 : decode cX8_start 78 = .ok (.iconst 1, 1) := by decide +kernel
theorem dX8_start_79 : decode cX8_start 79 = .ok (.istore 4, 2) := by decide +kernel
theorem dX8_start_81 : decode cX8_start 81 = .ok (.iload 4, 2) := by decide +kernel
theorem dX8_start_83 : decode cX8_start 83 = .ok (.aload_n 0, 1) := by decide +kernel
theorem dX8_start_84 : decode cX8_start 84 = .ok (.getfield 36, 3) := by decide +kernel
theorem dX8_start_87 : decode cX8_start 87 = .ok (.if_icmp .gt 20, 3) := by decide +kernel
theorem dX8_start_90 : decode cX8_start 90 = .ok (.aload_n 0, 1) := by decide +kernel
theorem dX8_start_91 : decode cX8_start 91 = .ok (.getfield 20, 3) := by decide +kernel
theorem dX8_start_94 : decode cX8_start 94 = .ok (.iload 4, 2) := by decide +kernel
theorem dX8_start_96 : decode cX8_start 96 = .ok (.iload 4, 2) := by decide +kernel
theorem dX8_start_98 : decode cX8_start 98 = .ok (.iconst 1, 1) := by decide +kernel
theorem dX8_start_99 : decode cX8_start 99 = .ok (.isub, 1) := by decide +kernel
theorem dX8_start_100 : decode cX8_start 100 = .ok (.iastore, 1) := by decide +kernel
theorem dX8_start_101 : decode cX8_start 101 = .ok (.iinc 4 1, 3) := by decide +kernel
theorem dX8_start_104 : decode cX8_start 104 = .ok (.goto (-23), 3) := by decide +kernel
theorem dX8_start_107 : decode cX8_start 107 = .ok (.return_, 1) := by decide +kernel
theorem kk_X8_start_0 : Cond.methodLink RX8 23 Lib.Math.min.name ∈ wsX8_start := by decide +kernel
theorem kk_X8_start_1 : Cond.static Lib.Math.min.name ∈ wsX8_start := by decide +kernel
theorem kk_X8_start_2 : Cond.initialized "java/lang/Math" ∈ wsX8_start := by decide +kernel
theorem kk_X8_start_3 : Cond.code Lib.Math.min.name Lib.Math.min.code 2 (some .int) ∈ wsX8_start := by decide +kernel
theorem kk_X8_start_4 : Cond.fieldLink RX8 29 "PaidBySigns$Table" "goals" "I" ∈ wsX8_start := by decide +kernel
theorem kk_X8_start_5 : Cond.fieldLink RX8 33 "PaidBySigns$Table" "lines" "I" ∈ wsX8_start := by decide +kernel
theorem kk_X8_start_6 : Cond.fieldLink RX8 36 "PaidBySigns$Table" "columns" "I" ∈ wsX8_start := by decide +kernel
theorem kk_X8_start_7 : Cond.fieldLink RX8 39 "PaidBySigns$Table" "base" "J" ∈ wsX8_start := by decide +kernel
theorem kk_X8_start_8 : Cond.fieldLink RX8 20 "PaidBySigns$Table" "columnName" "[I" ∈ wsX8_start := by decide +kernel
theorem kk_X8_start_9 : Cond.fieldLink RX8 13 "PaidBySigns$Table" "entry" "[[J" ∈ wsX8_start := by decide +kernel
theorem kk_X8_start_10 : Cond.fieldLink RX8 16 "PaidBySigns$Table" "lineName" "[I" ∈ wsX8_start := by decide +kernel
theorem kk_X4_fillGoals_0 : Cond.fieldLink RX4 36 "PaidBySigns$LeastCost" "columns" "I" ∈ wsX4_fillGoals := by decide +kernel
theorem kk_X4_fillGoals_1 : Cond.fieldLink RX4 26 "PaidBySigns$LeastCost" "columnSign" "[I" ∈ wsX4_fillGoals := by decide +kernel
theorem kk_X4_partsOf_0 : Cond.fieldLink RX4 30 "PaidBySigns$LeastCost" "columnRate" "[I" ∈ wsX4_partsOf := by decide +kernel
theorem kk_X4_fillGoals_2 : Cond.fieldLink RX4 22 "PaidBySigns$LeastCost" "table" "LPaidBySigns$Table;" ∈ wsX4_fillGoals := by decide +kernel
theorem kk_X4_fillGoals_3 : Cond.fieldLink RX4 132 "PaidBySigns$Table" "entry" "[[J" ∈ wsX4_fillGoals := by decide +kernel
theorem kk_X4_fillGoals_4 : Cond.fieldLink RX4 50 "PaidBySigns$LeastCost" "work" "I" ∈ wsX4_fillGoals := by decide +kernel
theorem kk_X4_fillLines_0 : Cond.fieldLink RX4 46 "PaidBySigns$LeastCost" "hire" "LPaidBySigns$Hire;" ∈ wsX4_fillLines := by decide +kernel
theorem kk_X4_fillLines_1 : Cond.fieldLink RX4 88 "PaidBySigns$Hire" "works" "I" ∈ wsX4_fillLines := by decide +kernel
theorem kk_X4_fillLines_2 : Cond.fieldLink RX4 22 "PaidBySigns$LeastCost" "table" "LPaidBySigns$Table;" ∈ wsX4_fillLines := by decide +kernel
theorem kk_X4_fillLines_3 : Cond.fieldLink RX4 132 "PaidBySigns$Table" "entry" "[[J" ∈ wsX4_fillLines := by decide +kernel
theorem kk_X4_fillLines_4 : Cond.fieldLink RX4 70 "PaidBySigns$Hire" "whole" "I" ∈ wsX4_fillLines := by decide +kernel
theorem kk_X4_fillLines_5 : Cond.fieldLink RX4 50 "PaidBySigns$LeastCost" "work" "I" ∈ wsX4_fillLines := by decide +kernel
theorem kk_X4_fillLines_6 : Cond.fieldLink RX4 36 "PaidBySigns$LeastCost" "columns" "I" ∈ wsX4_fillLines := by decide +kernel
theorem kk_X4_fillLines_7 : Cond.fieldLink RX4 26 "PaidBySigns$LeastCost" "columnSign" "[I" ∈ wsX4_fillLines := by decide +kernel
theorem kk_X4_fillRooms_0 : Cond.fieldLink RX4 36 "PaidBySigns$LeastCost" "columns" "I" ∈ wsX4_fillRooms := by decide +kernel
theorem kk_X4_fillRooms_1 : Cond.fieldLink RX4 33 "PaidBySigns$LeastCost" "columnRoom" "[I" ∈ wsX4_fillRooms := by decide +kernel
theorem kk_X4_fillRooms_2 : Cond.fieldLink RX4 22 "PaidBySigns$LeastCost" "table" "LPaidBySigns$Table;" ∈ wsX4_fillRooms := by decide +kernel
theorem kk_X4_fillRooms_3 : Cond.fieldLink RX4 132 "PaidBySigns$Table" "entry" "[[J" ∈ wsX4_fillRooms := by decide +kernel
theorem iw_X8_start_X8 : ∀ w ∈ wsX80, w ∈ wsX8_start := by decide +kernel
theorem iw_X4_fillGoals_X4 : ∀ w ∈ wsX40, w ∈ wsX4_fillGoals := by decide +kernel
theorem iw_X4_partsOf_X4 : ∀ w ∈ wsX40, w ∈ wsX4_partsOf := by decide +kernel
theorem iw_X4_fillGoals_X8 : ∀ w ∈ wsX80, w ∈ wsX4_fillGoals := by decide +kernel
theorem iw_X4_fillLines_X4 : ∀ w ∈ wsX40, w ∈ wsX4_fillLines := by decide +kernel
theorem iw_X4_fillLines_X3 : ∀ w ∈ wsX30, w ∈ wsX4_fillLines := by decide +kernel
theorem iw_X4_fillLines_X8 : ∀ w ∈ wsX80, w ∈ wsX4_fillLines := by decide +kernel
theorem iw_X4_fillRooms_X4 : ∀ w ∈ wsX40, w ∈ wsX4_fillRooms := by decide +kernel
theorem iw_X4_fillRooms_X8 : ∀ w ∈ wsX80, w ∈ wsX4_fillRooms := by decide +kernel
set_option maxHeartbeats 4000000 in
set_option maxRecDepth 100000 in
theorem ct_X8_start (l : Launch) (dC : Nat → ClassId) (dI : Nat → Nat → Nat) (o : Nat) (p0 : Int32) (p1 : Int32) (p2 : Int32) (a_entry : Nat) (a_lineName : Nat) (a_columnName : Nat) (v_goals : Int32) (v_lines : Int32) (v_columns : Int32) (v_base : Int64) (k_a_entry : ClassId) (R_a_entry : Nat → Nat) (k_a_lineName : ClassId) (f_a_lineName : Nat → Int32) (k_a_columnName : ClassId) (f_a_columnName : Nat → Int32) (LP : List Nat) (sh : Nat → Nat) (fp : Nat → va_E) (cI : ClassId) (cJ : ClassId) (hp0 : iv p0 0 18) (hp1 : iv p1 0 30) (hp2 : iv p2 0 12) (hf_a_lineName : ivf f_a_lineName 0 99) (hf_a_columnName : ivf f_a_columnName 0 99) (hfp : pok cI cJ LP sh fp) (hRR_a_entry : ∀ i : Nat, i < 18 → R_a_entry i ∈ LP ∧ sh (R_a_entry i) = 13) (sz : Nat) : Met l yX8_start wsX8_start ({ frames := 1, cells := 0, slots := 0, locals := 24 }) (va_Pc [.ref o, .int p0, .int p1, .int p2] (fun U => U.heap.size = sz ∧ va_P (dC, dI) vwCl ([(o, .inr (8, [.ref a_entry, .ref a_lineName, .ref a_columnName, .int v_goals, .int v_lines, .int v_columns, .long v_base])), (a_entry, .inl (k_a_entry, 18, .inr (.inr (.inr (.inr (rows_of 18 R_a_entry)))))), (a_lineName, .inl (k_a_lineName, 18, .inl f_a_lineName)), (a_columnName, .inl (k_a_columnName, 13, .inl f_a_columnName))] ++ va_pl LP fp) U.heap ∧ va_K (dC, dI) vwCl [(k_a_entry, (.array .long)), (k_a_lineName, .int), (k_a_columnName, .int), (cI, .int), (cJ, .long)] U ∧ va_D (fun _ => True) ([(o, .inr (8, [.ref a_entry, .ref a_lineName, .ref a_columnName, .int v_goals, .int v_lines, .int v_columns, .long v_base])), (a_entry, .inl (k_a_entry, 18, .inr (.inr (.inr (.inr (rows_of 18 R_a_entry)))))), (a_lineName, .inl (k_a_lineName, 18, .inl f_a_lineName)), (a_columnName, .inl (k_a_columnName, 13, .inl f_a_columnName))] ++ va_pl LP fp))) (va_Qv (fun _ : Unit => True) (fun _ t => ∃ (e_v_goals : Int32) (e_v_lines : Int32) (e_v_columns : Int32) (e_f_a_lineName : Nat → Int32) (e_f_a_columnName : Nat → Int32) (e_fp : Nat → va_E), iv e_v_goals 0 18 ∧ iv e_v_lines 0 18 ∧ iv e_v_columns 0 12 ∧ ivf e_f_a_lineName 0 99 ∧ ivf e_f_a_columnName 0 99 ∧ pok cI cJ LP sh e_fp ∧ va_P (dC, dI) vwCl ([(o, .inr (8, [.ref a_entry, .ref a_lineName, .ref a_columnName, .int e_v_goals, .int e_v_lines, .int e_v_columns, .long 1])), (a_entry, .inl (k_a_entry, 18, .inr (.inr (.inr (.inr (rows_of 18 R_a_entry)))))), (a_lineName, .inl (k_a_lineName, 18, .inl e_f_a_lineName)), (a_columnName, .inl (k_a_columnName, 13, .inl e_f_a_columnName))] ++ va_pl LP e_fp) t.heap ∧ va_D (va_A ([(o, .inr (8, [.ref a_entry, .ref a_lineName, .ref a_columnName, .int v_goals, .int v_lines, .int v_columns, .long v_base])), (a_entry, .inl (k_a_entry, 18, .inr (.inr (.inr (.inr (rows_of 18 R_a_entry)))))), (a_lineName, .inl (k_a_lineName, 18, .inl f_a_lineName)), (a_columnName, .inl (k_a_columnName, 13, .inl f_a_columnName))] ++ va_pl LP fp) sz) ([(o, .inr (8, [.ref a_entry, .ref a_lineName, .ref a_columnName, .int e_v_goals, .int e_v_lines, .int e_v_columns, .long 1])), (a_entry, .inl (k_a_entry, 18, .inr (.inr (.inr (.inr (rows_of 18 R_a_entry)))))), (a_lineName, .inl (k_a_lineName, 18, .inl e_f_a_lineName)), (a_columnName, .inl (k_a_columnName, 13, .inl e_f_a_columnName))] ++ va_pl LP e_fp)) (va_A ([(o, .inr (8, [.ref a_entry, .ref a_lineName, .ref a_columnName, .int v_goals, .int v_lines, .int v_columns, .long v_base])), (a_entry, .inl (k_a_entry, 18, .inr (.inr (.inr (.inr (rows_of 18 R_a_entry)))))), (a_lineName, .inl (k_a_lineName, 18, .inl f_a_lineName)), (a_columnName, .inl (k_a_columnName, 13, .inl f_a_columnName))] ++ va_pl LP fp) sz)) 0 0 (va_A ([(o, .inr (8, [.ref a_entry, .ref a_lineName, .ref a_columnName, .int v_goals, .int v_lines, .int v_columns, .long v_base])), (a_entry, .inl (k_a_entry, 18, .inr (.inr (.inr (.inr (rows_of 18 R_a_entry)))))), (a_lineName, .inl (k_a_lineName, 18, .inl f_a_lineName)), (a_columnName, .inl (k_a_columnName, 13, .inl f_a_columnName))] ++ va_pl LP fp) sz) := by
  refine Met.ofW (cc := cX8_start) (maxL := 5) (ret := none) (by decide) rfl ?_
  intro p e s m args below meth c s₁ B hml hv
  obtain ⟨rfl, hsz, hP, hK, hD0⟩ := hv
  have hx := B.exec
  have hb := B.bytes
  have hr := B.returns
  have hts := atoms_spec (ws := wsX8_start) B.pre
  have hown : s.vm.findClass RX8 = some m.cls := findClass_of_methodNamed B.named
  have hlocks := B.notSynchronized
  subst hsz
  have hD := hD0.self (sz := s.heap.size)
  generalize hAe : va_A ([(o, .inr (8, [.ref a_entry, .ref a_lineName, .ref a_columnName, .int v_goals, .int v_lines, .int v_columns, .long v_base])), (a_entry, .inl (k_a_entry, 18, .inr (.inr (.inr (.inr (rows_of 18 R_a_entry)))))), (a_lineName, .inl (k_a_lineName, 18, .inl f_a_lineName)), (a_columnName, .inl (k_a_columnName, 13, .inl f_a_columnName))] ++ va_pl LP fp) s.heap.size = A at hD ⊢
  have hA : ∀ q : Nat, s.heap.size ≤ q → A q := fun q h => by rw [← hAe]; exact Or.inr h
  have hS : va_S A s.heap s.heap [] := va_S.rf
  have hP : va_P (dC, dI) vwCl ([(o, .inr (8, [.ref a_entry, .ref a_lineName, .ref a_columnName, .int v_goals, .int v_lines, .int v_columns, .long v_base])), (a_entry, .inl (k_a_entry, 18, .inr (.inr (.inr (.inr (rows_of 18 R_a_entry)))))), (a_lineName, .inl (k_a_lineName, 18, .inl f_a_lineName)), (a_columnName, .inl (k_a_columnName, 13, .inl f_a_columnName))] ++ va_pl LP fp) s.heap := hP
  have hl := lv_entry ([.ref o, .int p0, .int p1, .int p2]) (n := 5) (Nat.le_of_ble_eq_true rfl)
  rw [lg_entry_eq]
  generalize (lg_sl ([.ref o, .int p0, .int p1, .int p2]) ++ List.replicate (5 - (lg_sl ([.ref o, .int p0, .int p1, .int p2])).length) Slot.unset).toArray = ls at hl ⊢
  have hl : lv_has ls 5 [(0, .ref o), (1, .int p0), (2, .int p1), (3, .int p2)] := hl
  refine lv_aload_n hx hb dX8_start_0 rfl (lv_at hl 0 rfl) ?_
  refine lv_iload_n hx hb dX8_start_1 rfl (lv_at hl 1 rfl) ?_
  refine lv_bipush (v := 18) hx hb dX8_start_2 (by decide) ?_
  refine va_mmin hx hb (by rw [hml]; exact hl.1.symm) hown (hts _ kk_X8_start_0) (hts _ kk_X8_start_1) (hts _ kk_X8_start_2) (hts _ kk_X8_start_3) (Nat.le_of_ble_eq_true rfl) (Nat.le_of_ble_eq_true rfl) (Nat.le_of_ble_eq_true rfl) (Nat.le_of_ble_eq_true rfl) dX8_start_4 ?_
  refine lv_topi (fun x1 ex1 => ?_)
  have bp0 := hp0.u
  have tx1 := i32_min2 ex1 rfl (show (18 : Int32).toInt = 18 by decide)
  refine va_put (D := (dC, dI)) (ci := 8) (v := .int x1) (ty := .int) (C := RX8) (T := TX8) (N := 7) hx hb hts iw_X8_start_X8 tyX8 tyX8_ok nmX8 hown hK hP hD hS 0 rfl rfl 3 (by decide) (hts _ kk_X8_start_4) (fun _ h9 => h9) rfl (by decide +kernel) rfl rfl (Nat.le_of_ble_eq_true rfl) dX8_start_7 (fun H locs hP hD hS => ?_)
  have hP : va_P (dC, dI) vwCl ([(o, .inr (8, [.ref a_entry, .ref a_lineName, .ref a_columnName, .int x1, .int v_lines, .int v_columns, .long v_base])), (a_entry, .inl (k_a_entry, 18, .inr (.inr (.inr (.inr (rows_of 18 R_a_entry)))))), (a_lineName, .inl (k_a_lineName, 18, .inl f_a_lineName)), (a_columnName, .inl (k_a_columnName, 13, .inl f_a_columnName))] ++ va_pl LP fp) H := hP
  have hD : va_D A ([(o, .inr (8, [.ref a_entry, .ref a_lineName, .ref a_columnName, .int x1, .int v_lines, .int v_columns, .long v_base])), (a_entry, .inl (k_a_entry, 18, .inr (.inr (.inr (.inr (rows_of 18 R_a_entry)))))), (a_lineName, .inl (k_a_lineName, 18, .inl f_a_lineName)), (a_columnName, .inl (k_a_columnName, 13, .inl f_a_columnName))] ++ va_pl LP fp) := hD
  refine lv_aload_n hx hb dX8_start_10 rfl (lv_at hl 0 rfl) ?_
  refine lv_iload_n hx hb dX8_start_11 rfl (lv_at hl 2 rfl) ?_
  refine lv_bipush (v := 18) hx hb dX8_start_12 (by decide) ?_
  refine va_mmin hx hb (by rw [hml]; exact hl.1.symm) hown (hts _ kk_X8_start_0) (hts _ kk_X8_start_1) (hts _ kk_X8_start_2) (hts _ kk_X8_start_3) (Nat.le_of_ble_eq_true rfl) (Nat.le_of_ble_eq_true rfl) (Nat.le_of_ble_eq_true rfl) (Nat.le_of_ble_eq_true rfl) dX8_start_14 ?_
  refine lv_topi (fun x2 ex2 => ?_)
  have bp1 := hp1.u
  have tx2 := i32_min2 ex2 rfl (show (18 : Int32).toInt = 18 by decide)
  refine va_put (D := (dC, dI)) (ci := 8) (v := .int x2) (ty := .int) (C := RX8) (T := TX8) (N := 7) hx hb hts iw_X8_start_X8 tyX8 tyX8_ok nmX8 hown hK hP hD hS 0 rfl rfl 4 (by decide) (hts _ kk_X8_start_5) (fun _ h9 => h9) rfl (by decide +kernel) rfl rfl (Nat.le_of_ble_eq_true rfl) dX8_start_17 (fun H locs hP hD hS => ?_)
  have hP : va_P (dC, dI) vwCl ([(o, .inr (8, [.ref a_entry, .ref a_lineName, .ref a_columnName, .int x1, .int x2, .int v_columns, .long v_base])), (a_entry, .inl (k_a_entry, 18, .inr (.inr (.inr (.inr (rows_of 18 R_a_entry)))))), (a_lineName, .inl (k_a_lineName, 18, .inl f_a_lineName)), (a_columnName, .inl (k_a_columnName, 13, .inl f_a_columnName))] ++ va_pl LP fp) H := hP
  have hD : va_D A ([(o, .inr (8, [.ref a_entry, .ref a_lineName, .ref a_columnName, .int x1, .int x2, .int v_columns, .long v_base])), (a_entry, .inl (k_a_entry, 18, .inr (.inr (.inr (.inr (rows_of 18 R_a_entry)))))), (a_lineName, .inl (k_a_lineName, 18, .inl f_a_lineName)), (a_columnName, .inl (k_a_columnName, 13, .inl f_a_columnName))] ++ va_pl LP fp) := hD
  refine lv_aload_n hx hb dX8_start_20 rfl (lv_at hl 0 rfl) ?_
  refine lv_iload_n hx hb dX8_start_21 rfl (lv_at hl 3 rfl) ?_
  refine lv_bipush (v := 12) hx hb dX8_start_22 (by decide) ?_
  refine va_mmin hx hb (by rw [hml]; exact hl.1.symm) hown (hts _ kk_X8_start_0) (hts _ kk_X8_start_1) (hts _ kk_X8_start_2) (hts _ kk_X8_start_3) (Nat.le_of_ble_eq_true rfl) (Nat.le_of_ble_eq_true rfl) (Nat.le_of_ble_eq_true rfl) (Nat.le_of_ble_eq_true rfl) dX8_start_24 ?_
  refine lv_topi (fun x3 ex3 => ?_)
  have bp2 := hp2.u
  have tx3 := i32_min2 ex3 rfl (show (12 : Int32).toInt = 12 by decide)
  refine va_put (D := (dC, dI)) (ci := 8) (v := .int x3) (ty := .int) (C := RX8) (T := TX8) (N := 7) hx hb hts iw_X8_start_X8 tyX8 tyX8_ok nmX8 hown hK hP hD hS 0 rfl rfl 5 (by decide) (hts _ kk_X8_start_6) (fun _ h9 => h9) rfl (by decide +kernel) rfl rfl (Nat.le_of_ble_eq_true rfl) dX8_start_27 (fun H locs hP hD hS => ?_)
  have hP : va_P (dC, dI) vwCl ([(o, .inr (8, [.ref a_entry, .ref a_lineName, .ref a_columnName, .int x1, .int x2, .int x3, .long v_base])), (a_entry, .inl (k_a_entry, 18, .inr (.inr (.inr (.inr (rows_of 18 R_a_entry)))))), (a_lineName, .inl (k_a_lineName, 18, .inl f_a_lineName)), (a_columnName, .inl (k_a_columnName, 13, .inl f_a_columnName))] ++ va_pl LP fp) H := hP
  have hD : va_D A ([(o, .inr (8, [.ref a_entry, .ref a_lineName, .ref a_columnName, .int x1, .int x2, .int x3, .long v_base])), (a_entry, .inl (k_a_entry, 18, .inr (.inr (.inr (.inr (rows_of 18 R_a_entry)))))), (a_lineName, .inl (k_a_lineName, 18, .inl f_a_lineName)), (a_columnName, .inl (k_a_columnName, 13, .inl f_a_columnName))] ++ va_pl LP fp) := hD
  refine lv_aload_n hx hb dX8_start_30 rfl (lv_at hl 0 rfl) ?_
  refine lv_lconst (v := 1) hx hb dX8_start_31 (by decide) ?_
  refine va_put (D := (dC, dI)) (ci := 8) (v := .long 1) (ty := .long) (C := RX8) (T := TX8) (N := 7) hx hb hts iw_X8_start_X8 tyX8 tyX8_ok nmX8 hown hK hP hD hS 0 rfl rfl 6 (by decide) (hts _ kk_X8_start_7) (fun _ h9 => h9) rfl (by decide +kernel) rfl rfl (Nat.le_of_ble_eq_true rfl) dX8_start_32 (fun H locs hP hD hS => ?_)
  have hP : va_P (dC, dI) vwCl ([(o, .inr (8, [.ref a_entry, .ref a_lineName, .ref a_columnName, .int x1, .int x2, .int x3, .long 1])), (a_entry, .inl (k_a_entry, 18, .inr (.inr (.inr (.inr (rows_of 18 R_a_entry)))))), (a_lineName, .inl (k_a_lineName, 18, .inl f_a_lineName)), (a_columnName, .inl (k_a_columnName, 13, .inl f_a_columnName))] ++ va_pl LP fp) H := hP
  have hD : va_D A ([(o, .inr (8, [.ref a_entry, .ref a_lineName, .ref a_columnName, .int x1, .int x2, .int x3, .long 1])), (a_entry, .inl (k_a_entry, 18, .inr (.inr (.inr (.inr (rows_of 18 R_a_entry)))))), (a_lineName, .inl (k_a_lineName, 18, .inl f_a_lineName)), (a_columnName, .inl (k_a_columnName, 13, .inl f_a_columnName))] ++ va_pl LP fp) := hD
  refine lv_iconst (v := 0) hx hb dX8_start_35 (by decide) ?_
  refine lv_istore (lv' := [(4, .int 0), (0, .ref o), (1, .int p0), (2, .int p1), (3, .int p2)]) hx hb dX8_start_36 hl (by decide) rfl (fun ls hl => ?_)
  refine tl_loop (I := fun nn H locs ls => ∃ (v4 : Int32) (f5 : Nat → Int32) (f6 : Nat → va_E), nn = (18 - v4.toInt).toNat ∧ iv v4 0 18 ∧ ivf f5 0 99 ∧ pok cI cJ LP sh f6 ∧  va_P (dC, dI) vwCl ([(o, .inr (8, [.ref a_entry, .ref a_lineName, .ref a_columnName, .int x1, .int x2, .int x3, .long 1])), (a_entry, .inl (k_a_entry, 18, .inr (.inr (.inr (.inr (rows_of 18 R_a_entry)))))), (a_lineName, .inl (k_a_lineName, 18, .inl f5)), (a_columnName, .inl (k_a_columnName, 13, .inl f_a_columnName))] ++ va_pl LP f6) H ∧ va_D A ([(o, .inr (8, [.ref a_entry, .ref a_lineName, .ref a_columnName, .int x1, .int x2, .int x3, .long 1])), (a_entry, .inl (k_a_entry, 18, .inr (.inr (.inr (.inr (rows_of 18 R_a_entry)))))), (a_lineName, .inl (k_a_lineName, 18, .inl f5)), (a_columnName, .inl (k_a_columnName, 13, .inl f_a_columnName))] ++ va_pl LP f6) ∧ va_S A s.heap H locs ∧ lv_has ls 5 [(4, .int v4), (0, .ref o), (1, .int p0), (2, .int p1), (3, .int p2)]) ?_ ⟨0, f_a_lineName, fp, rfl, (iv.m (by decide)), hf_a_lineName, hfp, hP, hD, hS, lv_sub hl [0, 1, 2, 3, 4] rfl⟩
  clear hP hD hS hl
  intro nn38 H locs ls hI ih38
  obtain ⟨v4, f5, f6, hn38, hv4, hf5, hf6, hP, hD, hS, hl⟩ := hI
  have bv4 := hv4.u
  refine lv_iload hx hb dX8_start_38 (lv_at hl 0 rfl) ?_
  refine lv_aload_n hx hb dX8_start_40 rfl (lv_at hl 1 rfl) ?_
  refine va_get (D := (dC, dI)) (ci := 8) (v := .int x2) (C := RX8) (T := TX8) (N := 7) hx hb hts iw_X8_start_X8 hown hK hP 0 rfl rfl 4 (by decide) (hts _ kk_X8_start_5) (fun _ h9 => h9) rfl dX8_start_41 ?_
  refine lv_icmp_ge (tgt := 78) hx hb dX8_start_44 (by decide) (fun c7 => ?_) (fun c7 => ?_)
  · have c79 := i32_le c7 rfl rfl
    refine lv_iconst (v := 1) hx hb dX8_start_78 (by decide) ?_
    refine lv_istore (lv' := [(4, .int 1), (0, .ref o), (1, .int p0), (2, .int p1), (3, .int p2)]) hx hb dX8_start_79 hl (by decide) rfl (fun ls hl => ?_)
    refine tl_loop (I := fun nn H locs ls => ∃ (v8 : Int32) (f9 : Nat → Int32), nn = (18 - v8.toInt).toNat ∧ iv v8 1 18 ∧ ivf f9 0 99 ∧  va_P (dC, dI) vwCl ([(o, .inr (8, [.ref a_entry, .ref a_lineName, .ref a_columnName, .int x1, .int x2, .int x3, .long 1])), (a_entry, .inl (k_a_entry, 18, .inr (.inr (.inr (.inr (rows_of 18 R_a_entry)))))), (a_lineName, .inl (k_a_lineName, 18, .inl f5)), (a_columnName, .inl (k_a_columnName, 13, .inl f9))] ++ va_pl LP f6) H ∧ va_D A ([(o, .inr (8, [.ref a_entry, .ref a_lineName, .ref a_columnName, .int x1, .int x2, .int x3, .long 1])), (a_entry, .inl (k_a_entry, 18, .inr (.inr (.inr (.inr (rows_of 18 R_a_entry)))))), (a_lineName, .inl (k_a_lineName, 18, .inl f5)), (a_columnName, .inl (k_a_columnName, 13, .inl f9))] ++ va_pl LP f6) ∧ va_S A s.heap H locs ∧ lv_has ls 5 [(4, .int v8), (0, .ref o), (1, .int p0), (2, .int p1), (3, .int p2)]) ?_ ⟨1, f_a_columnName, rfl, (iv.m (by decide)), hf_a_columnName, hP, hD, hS, lv_sub hl [0, 1, 2, 3, 4] rfl⟩
    clear hP hD hS hl
    intro nn81 H locs ls hI ih81
    obtain ⟨v8, f9, hn81, hv8, hf9, hP, hD, hS, hl⟩ := hI
    have bv8 := hv8.u
    refine lv_iload hx hb dX8_start_81 (lv_at hl 0 rfl) ?_
    refine lv_aload_n hx hb dX8_start_83 rfl (lv_at hl 1 rfl) ?_
    refine va_get (D := (dC, dI)) (ci := 8) (v := .int x3) (C := RX8) (T := TX8) (N := 7) hx hb hts iw_X8_start_X8 hown hK hP 0 rfl rfl 5 (by decide) (hts _ kk_X8_start_6) (fun _ h9 => h9) rfl dX8_start_84 ?_
    refine lv_icmp_gt (tgt := 107) hx hb dX8_start_87 (by decide) (fun c10 => ?_) (fun c10 => ?_)
    · have c109 := i32_lt c10 rfl rfl
      have hP9 := hP.part (cx := [(o, .inr (8, [.ref a_entry, .ref a_lineName, .ref a_columnName, .int x1, .int x2, .int x3, .long 1])), (a_entry, .inl (k_a_entry, 18, .inr (.inr (.inr (.inr (rows_of 18 R_a_entry)))))), (a_lineName, .inl (k_a_lineName, 18, .inl f5)), (a_columnName, .inl (k_a_columnName, 13, .inl f9))]) [0, 1, 2, 3] rfl
      have hD9 := hD.part (cx := [(o, .inr (8, [.ref a_entry, .ref a_lineName, .ref a_columnName, .int x1, .int x2, .int x3, .long 1])), (a_entry, .inl (k_a_entry, 18, .inr (.inr (.inr (.inr (rows_of 18 R_a_entry)))))), (a_lineName, .inl (k_a_lineName, 18, .inl f5)), (a_columnName, .inl (k_a_columnName, 13, .inl f9))]) [0, 1, 2, 3] (by decide) rfl
      exact W.vret hx hb hr (fun t ht hW => ⟨⟨(), rfl, trivial, x1, x2, x3, f5, f9, f6, (iv.m (by omega)), (iv.m (by omega)), (iv.m (by omega)), hf5, hf9, hf6, by rw [ht]; exact hP9, hD9⟩, hS.F ht⟩) hS.2.2 dX8_start_107
    · have c109 := i32_nlt c10 rfl rfl
      refine lv_aload_n hx hb dX8_start_90 rfl (lv_at hl 1 rfl) ?_
      refine va_get (D := (dC, dI)) (ci := 8) (v := .ref a_columnName) (C := RX8) (T := TX8) (N := 7) hx hb hts iw_X8_start_X8 hown hK hP 0 rfl rfl 2 (by decide) (hts _ kk_X8_start_8) (fun _ h9 => h9) rfl dX8_start_91 ?_
      refine lv_iload hx hb dX8_start_94 (lv_at hl 0 rfl) ?_
      refine lv_iload hx hb dX8_start_96 (lv_at hl 0 rfl) ?_
      refine lv_iconst (v := 1) hx hb dX8_start_98 (by decide) ?_
      refine lv_isub hx hb dX8_start_99 ?_
      refine lv_topi (fun x11 ex11 => ?_)
      have tx11 := i32_sub ex11 rfl (show (1 : Int32).toInt = 1 by decide) (by omega) (by omega)
      refine va_iast hx hb hK hP hD hS 3 2 rfl rfl (vq_in v8 13 (by omega)) dX8_start_100 (fun H locs hP hD hS => ?_)
      have hP : va_P (dC, dI) vwCl ([(o, .inr (8, [.ref a_entry, .ref a_lineName, .ref a_columnName, .int x1, .int x2, .int x3, .long 1])), (a_entry, .inl (k_a_entry, 18, .inr (.inr (.inr (.inr (rows_of 18 R_a_entry)))))), (a_lineName, .inl (k_a_lineName, 18, .inl f5)), (a_columnName, .inl (k_a_columnName, 13, .inl (upd f9 (Int32.toNatClampNeg v8) x11)))] ++ va_pl LP f6) H := hP
      have hD : va_D A ([(o, .inr (8, [.ref a_entry, .ref a_lineName, .ref a_columnName, .int x1, .int x2, .int x3, .long 1])), (a_entry, .inl (k_a_entry, 18, .inr (.inr (.inr (.inr (rows_of 18 R_a_entry)))))), (a_lineName, .inl (k_a_lineName, 18, .inl f5)), (a_columnName, .inl (k_a_columnName, 13, .inl (upd f9 (Int32.toNatClampNeg v8) x11)))] ++ va_pl LP f6) := hD
      have hf12 : ivf (upd f9 (Int32.toNatClampNeg v8) x11) 0 99 := ivf.up hf9 (iv.m (by omega)) _
      have wf12 : (upd f9 (Int32.toNatClampNeg v8) x11) (Int32.toNatClampNeg v8) = x11 := pk_us
      generalize upd f9 (Int32.toNatClampNeg v8) x11 = f12 at hP hD hf12 wf12
      have hP : va_P (dC, dI) vwCl ([(o, .inr (8, [.ref a_entry, .ref a_lineName, .ref a_columnName, .int x1, .int x2, .int x3, .long 1])), (a_entry, .inl (k_a_entry, 18, .inr (.inr (.inr (.inr (rows_of 18 R_a_entry)))))), (a_lineName, .inl (k_a_lineName, 18, .inl f5)), (a_columnName, .inl (k_a_columnName, 13, .inl f12))] ++ va_pl LP f6) H := hP
      have hD : va_D A ([(o, .inr (8, [.ref a_entry, .ref a_lineName, .ref a_columnName, .int x1, .int x2, .int x3, .long 1])), (a_entry, .inl (k_a_entry, 18, .inr (.inr (.inr (.inr (rows_of 18 R_a_entry)))))), (a_lineName, .inl (k_a_lineName, 18, .inl f5)), (a_columnName, .inl (k_a_columnName, 13, .inl f12))] ++ va_pl LP f6) := hD
      obtain ⟨x13, ex13⟩ : ∃ z : Int32, v8 + Int32.ofInt 1 = z := ⟨_, rfl⟩
      have tx13 := i32_inc ex13 rfl (by decide) (by omega) (by omega)
      refine lv_iinc (v := x13) (lv' := [(4, .int x13), (0, .ref o), (1, .int p0), (2, .int p1), (3, .int p2)]) hx hb dX8_start_101 hl (k := 0) rfl ex13 (by decide) rfl (fun ls hl => ?_)
      refine lv_goto (tgt := 81) hx hb dX8_start_104 (by decide) ?_
      exact ih81 _ _ _ _ (by omega) ⟨x13, f12, rfl, (iv.m (by omega)), hf12, hP, hD, hS, lv_sub hl [0, 1, 2, 3, 4] rfl⟩
  · have c79 := i32_nle c7 rfl rfl
    refine lv_aload_n hx hb dX8_start_47 rfl (lv_at hl 1 rfl) ?_
    refine va_get (D := (dC, dI)) (ci := 8) (v := .ref a_entry) (C := RX8) (T := TX8) (N := 7) hx hb hts iw_X8_start_X8 hown hK hP 0 rfl rfl 0 (by decide) (hts _ kk_X8_start_9) (fun _ h9 => h9) rfl dX8_start_48 ?_
    refine lv_iload hx hb dX8_start_51 (lv_at hl 0 rfl) ?_
    have hinrw14 : vp_in v4 18 := (vq_in v4 18 (by omega))
    refine va_aldA hx hb hK hP 1 0 rfl rfl hinrw14 dX8_start_53 ?_
    refine px_v (row_sel hinrw14) ?_
    obtain ⟨rw14, erw14⟩ : ∃ z : Nat, z = R_a_entry (Int32.toNatClampNeg v4) := ⟨_, rfl⟩
    rw [← erw14]
    have mrw14 : rw14 ∈ LP ∧ sh rw14 = 13 := by rw [erw14]; exact hRR_a_entry _ (vin_lt hinrw14)
    refine lv_lconst (v := 0) hx hb dX8_start_54 (by decide) ?_
    have hPc := hP.part (cx := []) [] rfl
    have hDc := hD.part (cx := []) [] (by decide) rfl
    have hKc := hK.sub (tys' := [(cI, .int), (cJ, .long)]) [3, 4] rfl
    have hFc := va_freeP (cx := []) hD hS hA [] rfl
    refine va_callv (va_runS (As := [.ref rw14, .long 0]) (rest := []) ⟨hx, hb, hml, hown, hts⟩ (ct_J7_fill_d0a16_R13 l dC dI rw14 0 LP sh f6 cI cJ hf6 mrw14 H.size) (va_cwS 2 hts gX8_start_J7_fill_d0a16 rfl rfl rfl (by decide +kernel) ⟨Nat.le_of_ble_eq_true rfl, Nat.le_of_ble_eq_true rfl⟩) ⟨fun a U g mk q => by obtain ⟨q0, q1, qP, qK, qD⟩ := q; exact ⟨q0, q1, qP, va_K.moved (u := U) (U := U.calling g mk a) (Vm.Alike.refl U.vm) qK, qD⟩, fun U hU hW => ⟨rfl, by rw [hU], by rw [hU]; exact hPc, va_K.moved hW.alike hKc, hDc.weaken (fun _ _ _ _ => trivial)⟩⟩ rfl rfl hl.1 rfl (lv_room (Nat.le_of_ble_eq_true rfl)) dX8_start_55 ⟨Nat.le_of_ble_eq_true rfl, Nat.le_of_ble_eq_true rfl⟩) hS (fun q _ h => hFc q h) hFc (fun u t H1 locs ht hvm hw hB hz1 hk1 hS => ?_)
    obtain ⟨fp16, hfp16, hP1, hD1⟩ := hB
    rw [ht] at hP1
    obtain ⟨hP, hD⟩ := va_joinP (X := [(o, .inr (8, [.ref a_entry, .ref a_lineName, .ref a_columnName, .int x1, .int x2, .int x3, .long 1])), (a_entry, .inl (k_a_entry, 18, .inr (.inr (.inr (.inr (rows_of 18 R_a_entry)))))), (a_lineName, .inl (k_a_lineName, 18, .inl f5)), (a_columnName, .inl (k_a_columnName, 13, .inl f_a_columnName))]) (cx := []) (wr := [(o, .inr (8, [.ref a_entry, .ref a_lineName, .ref a_columnName, .int x1, .int x2, .int x3, .long 1])), (a_entry, .inl (k_a_entry, 18, .inr (.inr (.inr (.inr (rows_of 18 R_a_entry)))))), (a_lineName, .inl (k_a_lineName, 18, .inl f5)), (a_columnName, .inl (k_a_columnName, 13, .inl f_a_columnName))]) (rx := []) hP hD [] [0, 1, 2, 3] rfl rfl (by decide) (by decide) hk1 hFc hP1 hD1
    clear hPc hDc hKc hFc hP1 hD1 hk1 hz1
    generalize H1 = H at hP hS ⊢
    have hP : va_P (dC, dI) vwCl ([(o, .inr (8, [.ref a_entry, .ref a_lineName, .ref a_columnName, .int x1, .int x2, .int x3, .long 1])), (a_entry, .inl (k_a_entry, 18, .inr (.inr (.inr (.inr (rows_of 18 R_a_entry)))))), (a_lineName, .inl (k_a_lineName, 18, .inl f5)), (a_columnName, .inl (k_a_columnName, 13, .inl f_a_columnName))] ++ va_pl LP fp16) H := hP
    have hD : va_D A ([(o, .inr (8, [.ref a_entry, .ref a_lineName, .ref a_columnName, .int x1, .int x2, .int x3, .long 1])), (a_entry, .inl (k_a_entry, 18, .inr (.inr (.inr (.inr (rows_of 18 R_a_entry)))))), (a_lineName, .inl (k_a_lineName, 18, .inl f5)), (a_columnName, .inl (k_a_columnName, 13, .inl f_a_columnName))] ++ va_pl LP fp16) := hD
    refine W.widen (k := 0) (n := 0) (by decide) (by decide) ?_
    refine lv_aload_n hx hb dX8_start_58 rfl (lv_at hl 1 rfl) ?_
    refine va_get (D := (dC, dI)) (ci := 8) (v := .ref a_lineName) (C := RX8) (T := TX8) (N := 7) hx hb hts iw_X8_start_X8 hown hK hP 0 rfl rfl 1 (by decide) (hts _ kk_X8_start_10) (fun _ h9 => h9) rfl dX8_start_59 ?_
    refine lv_iload hx hb dX8_start_62 (lv_at hl 0 rfl) ?_
    refine lv_aload_n hx hb dX8_start_64 rfl (lv_at hl 1 rfl) ?_
    refine va_get (D := (dC, dI)) (ci := 8) (v := .int x3) (C := RX8) (T := TX8) (N := 7) hx hb hts iw_X8_start_X8 hown hK hP 0 rfl rfl 5 (by decide) (hts _ kk_X8_start_6) (fun _ h9 => h9) rfl dX8_start_65 ?_
    refine lv_iload hx hb dX8_start_68 (lv_at hl 0 rfl) ?_
    refine lv_iadd hx hb dX8_start_70 ?_
    refine lv_topi (fun x17 ex17 => ?_)
    have tx17 := i32_add ex17 rfl rfl (by omega) (by omega)
    refine va_iast hx hb hK hP hD hS 2 1 rfl rfl (vq_in v4 18 (by omega)) dX8_start_71 (fun H locs hP hD hS => ?_)
    have hP : va_P (dC, dI) vwCl ([(o, .inr (8, [.ref a_entry, .ref a_lineName, .ref a_columnName, .int x1, .int x2, .int x3, .long 1])), (a_entry, .inl (k_a_entry, 18, .inr (.inr (.inr (.inr (rows_of 18 R_a_entry)))))), (a_lineName, .inl (k_a_lineName, 18, .inl (upd f5 (Int32.toNatClampNeg v4) x17))), (a_columnName, .inl (k_a_columnName, 13, .inl f_a_columnName))] ++ va_pl LP fp16) H := hP
    have hD : va_D A ([(o, .inr (8, [.ref a_entry, .ref a_lineName, .ref a_columnName, .int x1, .int x2, .int x3, .long 1])), (a_entry, .inl (k_a_entry, 18, .inr (.inr (.inr (.inr (rows_of 18 R_a_entry)))))), (a_lineName, .inl (k_a_lineName, 18, .inl (upd f5 (Int32.toNatClampNeg v4) x17))), (a_columnName, .inl (k_a_columnName, 13, .inl f_a_columnName))] ++ va_pl LP fp16) := hD
    have hf18 : ivf (upd f5 (Int32.toNatClampNeg v4) x17) 0 99 := ivf.up hf5 (iv.m (by omega)) _
    have wf18 : (upd f5 (Int32.toNatClampNeg v4) x17) (Int32.toNatClampNeg v4) = x17 := pk_us
    generalize upd f5 (Int32.toNatClampNeg v4) x17 = f18 at hP hD hf18 wf18
    have hP : va_P (dC, dI) vwCl ([(o, .inr (8, [.ref a_entry, .ref a_lineName, .ref a_columnName, .int x1, .int x2, .int x3, .long 1])), (a_entry, .inl (k_a_entry, 18, .inr (.inr (.inr (.inr (rows_of 18 R_a_entry)))))), (a_lineName, .inl (k_a_lineName, 18, .inl f18)), (a_columnName, .inl (k_a_columnName, 13, .inl f_a_columnName))] ++ va_pl LP fp16) H := hP
    have hD : va_D A ([(o, .inr (8, [.ref a_entry, .ref a_lineName, .ref a_columnName, .int x1, .int x2, .int x3, .long 1])), (a_entry, .inl (k_a_entry, 18, .inr (.inr (.inr (.inr (rows_of 18 R_a_entry)))))), (a_lineName, .inl (k_a_lineName, 18, .inl f18)), (a_columnName, .inl (k_a_columnName, 13, .inl f_a_columnName))] ++ va_pl LP fp16) := hD
    obtain ⟨x19, ex19⟩ : ∃ z : Int32, v4 + Int32.ofInt 1 = z := ⟨_, rfl⟩
    have tx19 := i32_inc ex19 rfl (by decide) (by omega) (by omega)
    refine lv_iinc (v := x19) (lv' := [(4, .int x19), (0, .ref o), (1, .int p0), (2, .int p1), (3, .int p2)]) hx hb dX8_start_72 hl (k := 0) rfl ex19 (by decide) rfl (fun ls hl => ?_)
    refine lv_goto (tgt := 38) hx hb dX8_start_75 (by decide) ?_
    exact ih38 _ _ _ _ (by omega) ⟨x19, f18, fp16, rfl, (iv.m (by omega)), hf18, hfp16, hP, hD, hS, lv_sub hl [0, 1, 2, 3, 4] rfl⟩

set_option maxHeartbeats 4000000 in
set_option maxRecDepth 100000 in
theorem ct_X4_partsOf (l : Launch) (dC : Nat → ClassId) (dI : Nat → Nat → Nat) (o : Nat) (p0 : Int32) (a_above : Nat) (v_aboveLower : Int64) (o_table : Nat) (a_columnSign : Nat) (a_columnRate : Nat) (a_columnRoom : Nat) (v_columns : Int32) (v_rooms : Int32) (o_hire : Nat) (v_work : Int32) (v_keptSign : Int32) (v_joinedSign : Int32) (k_a_columnRate : ClassId) (f_a_columnRate : Nat → Int32) (hp0 : iv p0 0 11) (sz : Nat) : Met l yX4_partsOf wsX4_partsOf ({ frames := 0, cells := 0, slots := 0, locals := 0 }) (va_Pc [.ref o, .int p0] (fun U => U.heap.size = sz ∧ va_P (dC, dI) vwCl [(o, .inr (4, [.ref a_above, .long v_aboveLower, .ref o_table, .ref a_columnSign, .ref a_columnRate, .ref a_columnRoom, .int v_columns, .int v_rooms, .ref o_hire, .int v_work, .int v_keptSign, .int v_joinedSign])), (a_columnRate, .inl (k_a_columnRate, 12, .inl f_a_columnRate))] U.heap ∧ va_K (dC, dI) vwCl [(k_a_columnRate, .int)] U ∧ va_D (fun _ => True) [(o, .inr (4, [.ref a_above, .long v_aboveLower, .ref o_table, .ref a_columnSign, .ref a_columnRate, .ref a_columnRoom, .int v_columns, .int v_rooms, .ref o_hire, .int v_work, .int v_keptSign, .int v_joinedSign])), (a_columnRate, .inl (k_a_columnRate, 12, .inl f_a_columnRate))])) (va_Qi (fun (r u : Int32) => u = r) (fun (r : Int32) t => va_P (dC, dI) vwCl [(o, .inr (4, [.ref a_above, .long v_aboveLower, .ref o_table, .ref a_columnSign, .ref a_columnRate, .ref a_columnRoom, .int v_columns, .int v_rooms, .ref o_hire, .int v_work, .int v_keptSign, .int v_joinedSign])), (a_columnRate, .inl (k_a_columnRate, 12, .inl f_a_columnRate))] t.heap ∧ va_D (va_A [(o, .inr (4, [.ref a_above, .long v_aboveLower, .ref o_table, .ref a_columnSign, .ref a_columnRate, .ref a_columnRoom, .int v_columns, .int v_rooms, .ref o_hire, .int v_work, .int v_keptSign, .int v_joinedSign])), (a_columnRate, .inl (k_a_columnRate, 12, .inl f_a_columnRate))] sz) [(o, .inr (4, [.ref a_above, .long v_aboveLower, .ref o_table, .ref a_columnSign, .ref a_columnRate, .ref a_columnRoom, .int v_columns, .int v_rooms, .ref o_hire, .int v_work, .int v_keptSign, .int v_joinedSign])), (a_columnRate, .inl (k_a_columnRate, 12, .inl f_a_columnRate))]) (va_A [(o, .inr (4, [.ref a_above, .long v_aboveLower, .ref o_table, .ref a_columnSign, .ref a_columnRate, .ref a_columnRoom, .int v_columns, .int v_rooms, .ref o_hire, .int v_work, .int v_keptSign, .int v_joinedSign])), (a_columnRate, .inl (k_a_columnRate, 12, .inl f_a_columnRate))] sz)) 0 0 (va_A [(o, .inr (4, [.ref a_above, .long v_aboveLower, .ref o_table, .ref a_columnSign, .ref a_columnRate, .ref a_columnRoom, .int v_columns, .int v_rooms, .ref o_hire, .int v_work, .int v_keptSign, .int v_joinedSign])), (a_columnRate, .inl (k_a_columnRate, 12, .inl f_a_columnRate))] sz) := by
  refine Met.ofW (cc := cX4_partsOf) (maxL := 2) (ret := (some .int)) (by decide) rfl ?_
  intro p e s m args below meth c s₁ B hml hv
  obtain ⟨rfl, hsz, hP, hK, hD0⟩ := hv
  have hx := B.exec
  have hb := B.bytes
  have hr := B.returns
  have hts := atoms_spec (ws := wsX4_partsOf) B.pre
  have hown : s.vm.findClass RX4 = some m.cls := findClass_of_methodNamed B.named
  have hlocks := B.notSynchronized
  subst hsz
  have hD := hD0.self (sz := s.heap.size)
  generalize hAe : va_A [(o, .inr (4, [.ref a_above, .long v_aboveLower, .ref o_table, .ref a_columnSign, .ref a_columnRate, .ref a_columnRoom, .int v_columns, .int v_rooms, .ref o_hire, .int v_work, .int v_keptSign, .int v_joinedSign])), (a_columnRate, .inl (k_a_columnRate, 12, .inl f_a_columnRate))] s.heap.size = A at hD ⊢
  have hA : ∀ q : Nat, s.heap.size ≤ q → A q := fun q h => by rw [← hAe]; exact Or.inr h
  have hS : va_S A s.heap s.heap [] := va_S.rf
  have hP : va_P (dC, dI) vwCl [(o, .inr (4, [.ref a_above, .long v_aboveLower, .ref o_table, .ref a_columnSign, .ref a_columnRate, .ref a_columnRoom, .int v_columns, .int v_rooms, .ref o_hire, .int v_work, .int v_keptSign, .int v_joinedSign])), (a_columnRate, .inl (k_a_columnRate, 12, .inl f_a_columnRate))] s.heap := hP
  have hl := lv_entry ([.ref o, .int p0]) (n := 2) (Nat.le_of_ble_eq_true rfl)
  rw [lg_entry_eq]
  generalize (lg_sl ([.ref o, .int p0]) ++ List.replicate (2 - (lg_sl ([.ref o, .int p0])).length) Slot.unset).toArray = ls at hl ⊢
  have hl : lv_has ls 2 [(0, .ref o), (1, .int p0)] := hl
  refine lv_aload_n hx hb dX4_partsOf_0 rfl (lv_at hl 0 rfl) ?_
  refine va_get (D := (dC, dI)) (ci := 4) (v := .ref a_columnRate) (C := RX4) (T := TX4) (N := 12) hx hb hts iw_X4_partsOf_X4 hown hK hP 0 rfl rfl 4 (by decide) (hts _ kk_X4_partsOf_0) (fun _ h9 => h9) rfl dX4_partsOf_1 ?_
  refine lv_iload_n hx hb dX4_partsOf_4 rfl (lv_at hl 1 rfl) ?_
  have bp0 := hp0.u
  refine va_iald hx hb hK hP 1 0 rfl rfl (vq_in p0 12 (by omega)) dX4_partsOf_5 ?_
  refine lv_topi (fun x1 ex1 => ?_)
  refine lv_iconst (v := 1) hx hb dX4_partsOf_6 (by decide) ?_
  have bx1 := i32_rng x1
  refine lv_icmp_ge (tgt := 14) hx hb dX4_partsOf_7 (by decide) (fun c2 => ?_) (fun c2 => ?_)
  · have c29 := i32_le c2 (show (1 : Int32).toInt = 1 by decide) rfl
    refine lv_bipush (v := 60) hx hb dX4_partsOf_14 (by decide) ?_
    refine lv_aload_n hx hb dX4_partsOf_16 rfl (lv_at hl 0 rfl) ?_
    refine va_get (D := (dC, dI)) (ci := 4) (v := .ref a_columnRate) (C := RX4) (T := TX4) (N := 12) hx hb hts iw_X4_partsOf_X4 hown hK hP 0 rfl rfl 4 (by decide) (hts _ kk_X4_partsOf_0) (fun _ h9 => h9) rfl dX4_partsOf_17 ?_
    refine lv_iload_n hx hb dX4_partsOf_20 rfl (lv_at hl 1 rfl) ?_
    refine va_iald hx hb hK hP 1 0 rfl rfl (vq_in p0 12 (by omega)) dX4_partsOf_21 ?_
    refine lv_topi (fun x3 ex3 => ?_)
    have bx3 := i32_rng x3
    refine lv_idiv hx hb dX4_partsOf_22 (i32_nz (by omega)) ?_
    refine lv_topi (fun x4 ex4 => ?_)
    have hP9 := hP.sub (ws' := [(o, .inr (4, [.ref a_above, .long v_aboveLower, .ref o_table, .ref a_columnSign, .ref a_columnRate, .ref a_columnRoom, .int v_columns, .int v_rooms, .ref o_hire, .int v_work, .int v_keptSign, .int v_joinedSign])), (a_columnRate, .inl (k_a_columnRate, 12, .inl f_a_columnRate))]) [0, 1] rfl
    have hD9 := hD.sub (ws' := [(o, .inr (4, [.ref a_above, .long v_aboveLower, .ref o_table, .ref a_columnSign, .ref a_columnRate, .ref a_columnRoom, .int v_columns, .int v_rooms, .ref o_hire, .int v_work, .int v_keptSign, .int v_joinedSign])), (a_columnRate, .inl (k_a_columnRate, 12, .inl f_a_columnRate))]) [0, 1] (by decide) rfl
    exact W.iret (v := x4) hx hb hr (fun t ht hW => ⟨⟨x4, x4, rfl, rfl, by rw [ht]; exact hP9, hD9⟩, hS.F ht⟩) hS.2.2 dX4_partsOf_23
  · have c29 := i32_nle c2 (show (1 : Int32).toInt = 1 by decide) rfl
    refine lv_iconst (v := 0) hx hb dX4_partsOf_10 (by decide) ?_
    refine lv_goto (tgt := 23) hx hb dX4_partsOf_11 (by decide) ?_
    have hP9 := hP.sub (ws' := [(o, .inr (4, [.ref a_above, .long v_aboveLower, .ref o_table, .ref a_columnSign, .ref a_columnRate, .ref a_columnRoom, .int v_columns, .int v_rooms, .ref o_hire, .int v_work, .int v_keptSign, .int v_joinedSign])), (a_columnRate, .inl (k_a_columnRate, 12, .inl f_a_columnRate))]) [0, 1] rfl
    have hD9 := hD.sub (ws' := [(o, .inr (4, [.ref a_above, .long v_aboveLower, .ref o_table, .ref a_columnSign, .ref a_columnRate, .ref a_columnRoom, .int v_columns, .int v_rooms, .ref o_hire, .int v_work, .int v_keptSign, .int v_joinedSign])), (a_columnRate, .inl (k_a_columnRate, 12, .inl f_a_columnRate))]) [0, 1] (by decide) rfl
    exact W.iret (v := 0) hx hb hr (fun t ht hW => ⟨⟨0, 0, rfl, rfl, by rw [ht]; exact hP9, hD9⟩, hS.F ht⟩) hS.2.2 dX4_partsOf_23

set_option maxHeartbeats 4000000 in
set_option maxRecDepth 100000 in
theorem ct_X4_fillGoals (l : Launch) (dC : Nat → ClassId) (dI : Nat → Nat → Nat) (o : Nat) (p0 : Int32) (a_above : Nat) (v_aboveLower : Int64) (o_table : Nat) (a_columnSign : Nat) (a_columnRate : Nat) (a_columnRoom : Nat) (v_columns : Int32) (v_rooms : Int32) (o_hire : Nat) (v_work : Int32) (v_keptSign : Int32) (v_joinedSign : Int32) (table_a_entry : Nat) (table_a_lineName : Nat) (table_a_columnName : Nat) (table_v_goals : Int32) (table_v_lines : Int32) (table_v_columns : Int32) (table_v_base : Int64) (k_table_a_entry : ClassId) (R_table_a_entry : Nat → Nat) (k_a_columnSign : ClassId) (f_a_columnSign : Nat → Int32) (k_a_columnRate : ClassId) (f_a_columnRate : Nat → Int32) (hire_v_signs : Int32) (hire_v_works : Int32) (hire_v_whole : Int32) (hire_v_otherwise : Int32) (hire_v_least : Int32) (hire_v_rates : Int32) (hire_a_brings : Nat) (hire_a_costs : Nat) (hire_a_chances : Nat) (hire_a_rate : Nat) (hire_a_mark : Nat) (k_hire_a_chances : ClassId) (R_hire_a_chances : Nat → Nat) (LP : List Nat) (sh : Nat → Nat) (fp : Nat → va_E) (cI : ClassId) (cJ : ClassId) (hp0 : iv p0 1 5) (hv_columns : iv v_columns 0 12) (hv_work : iv v_work 0 4) (hv_keptSign : iv v_keptSign (-1) 3) (hv_joinedSign : iv v_joinedSign (-1) 3) (hf_a_columnSign : ivf f_a_columnSign 0 3) (hfp : pok cI cJ LP sh fp) (hRR_table_a_entry : ∀ i : Nat, i < 18 → R_table_a_entry i ∈ LP ∧ sh (R_table_a_entry i) = 13) (hRR_hire_a_chances : ∀ i : Nat, i < 5 → R_hire_a_chances i ∈ LP ∧ sh (R_hire_a_chances i) = 104) (hkj : v_keptSign.toInt = -1 ∨ 0 ≤ v_joinedSign.toInt) (sz : Nat) : Met l yX4_fillGoals wsX4_fillGoals ({ frames := 1, cells := 0, slots := 0, locals := 22 }) (va_Pc [.ref o, .int p0] (fun U => U.heap.size = sz ∧ va_P (dC, dI) vwCl ([(o, .inr (4, [.ref a_above, .long v_aboveLower, .ref o_table, .ref a_columnSign, .ref a_columnRate, .ref a_columnRoom, .int v_columns, .int v_rooms, .ref o_hire, .int v_work, .int v_keptSign, .int v_joinedSign])), (o_table, .inr (8, [.ref table_a_entry, .ref table_a_lineName, .ref table_a_columnName, .int table_v_goals, .int table_v_lines, .int table_v_columns, .long table_v_base])), (table_a_entry, .inl (k_table_a_entry, 18, .inr (.inr (.inr (.inr (rows_of 18 R_table_a_entry)))))), (a_columnSign, .inl (k_a_columnSign, 12, .inl f_a_columnSign)), (a_columnRate, .inl (k_a_columnRate, 12, .inl f_a_columnRate)), (o_hire, .inr (3, [.int hire_v_signs, .int hire_v_works, .int hire_v_whole, .int hire_v_otherwise, .int hire_v_least, .int hire_v_rates, .ref hire_a_brings, .ref hire_a_costs, .ref hire_a_chances, .ref hire_a_rate, .ref hire_a_mark])), (hire_a_chances, .inl (k_hire_a_chances, 5, .inr (.inr (.inr (.inr (rows_of 5 R_hire_a_chances))))))] ++ va_pl LP fp) U.heap ∧ va_K (dC, dI) vwCl [(k_table_a_entry, (.array .long)), (k_a_columnSign, .int), (k_a_columnRate, .int), (k_hire_a_chances, (.array .int)), (cI, .int), (cJ, .long)] U ∧ va_D (fun _ => True) ([(o, .inr (4, [.ref a_above, .long v_aboveLower, .ref o_table, .ref a_columnSign, .ref a_columnRate, .ref a_columnRoom, .int v_columns, .int v_rooms, .ref o_hire, .int v_work, .int v_keptSign, .int v_joinedSign])), (o_table, .inr (8, [.ref table_a_entry, .ref table_a_lineName, .ref table_a_columnName, .int table_v_goals, .int table_v_lines, .int table_v_columns, .long table_v_base])), (table_a_entry, .inl (k_table_a_entry, 18, .inr (.inr (.inr (.inr (rows_of 18 R_table_a_entry)))))), (a_columnSign, .inl (k_a_columnSign, 12, .inl f_a_columnSign)), (a_columnRate, .inl (k_a_columnRate, 12, .inl f_a_columnRate)), (o_hire, .inr (3, [.int hire_v_signs, .int hire_v_works, .int hire_v_whole, .int hire_v_otherwise, .int hire_v_least, .int hire_v_rates, .ref hire_a_brings, .ref hire_a_costs, .ref hire_a_chances, .ref hire_a_rate, .ref hire_a_mark])), (hire_a_chances, .inl (k_hire_a_chances, 5, .inr (.inr (.inr (.inr (rows_of 5 R_hire_a_chances))))))] ++ va_pl LP fp))) (va_Qv (fun _ : Unit => True) (fun _ t => ∃ (e_fp : Nat → va_E), pok cI cJ LP sh e_fp ∧ va_P (dC, dI) vwCl ([(o, .inr (4, [.ref a_above, .long v_aboveLower, .ref o_table, .ref a_columnSign, .ref a_columnRate, .ref a_columnRoom, .int v_columns, .int v_rooms, .ref o_hire, .int v_work, .int v_keptSign, .int v_joinedSign])), (o_table, .inr (8, [.ref table_a_entry, .ref table_a_lineName, .ref table_a_columnName, .int table_v_goals, .int table_v_lines, .int table_v_columns, .long table_v_base])), (table_a_entry, .inl (k_table_a_entry, 18, .inr (.inr (.inr (.inr (rows_of 18 R_table_a_entry)))))), (a_columnSign, .inl (k_a_columnSign, 12, .inl f_a_columnSign)), (a_columnRate, .inl (k_a_columnRate, 12, .inl f_a_columnRate)), (o_hire, .inr (3, [.int hire_v_signs, .int hire_v_works, .int hire_v_whole, .int hire_v_otherwise, .int hire_v_least, .int hire_v_rates, .ref hire_a_brings, .ref hire_a_costs, .ref hire_a_chances, .ref hire_a_rate, .ref hire_a_mark])), (hire_a_chances, .inl (k_hire_a_chances, 5, .inr (.inr (.inr (.inr (rows_of 5 R_hire_a_chances))))))] ++ va_pl LP e_fp) t.heap ∧ va_D (va_A ([(o, .inr (4, [.ref a_above, .long v_aboveLower, .ref o_table, .ref a_columnSign, .ref a_columnRate, .ref a_columnRoom, .int v_columns, .int v_rooms, .ref o_hire, .int v_work, .int v_keptSign, .int v_joinedSign])), (o_table, .inr (8, [.ref table_a_entry, .ref table_a_lineName, .ref table_a_columnName, .int table_v_goals, .int table_v_lines, .int table_v_columns, .long table_v_base])), (table_a_entry, .inl (k_table_a_entry, 18, .inr (.inr (.inr (.inr (rows_of 18 R_table_a_entry)))))), (a_columnSign, .inl (k_a_columnSign, 12, .inl f_a_columnSign)), (a_columnRate, .inl (k_a_columnRate, 12, .inl f_a_columnRate)), (o_hire, .inr (3, [.int hire_v_signs, .int hire_v_works, .int hire_v_whole, .int hire_v_otherwise, .int hire_v_least, .int hire_v_rates, .ref hire_a_brings, .ref hire_a_costs, .ref hire_a_chances, .ref hire_a_rate, .ref hire_a_mark])), (hire_a_chances, .inl (k_hire_a_chances, 5, .inr (.inr (.inr (.inr (rows_of 5 R_hire_a_chances))))))] ++ va_pl LP fp) sz) ([(o, .inr (4, [.ref a_above, .long v_aboveLower, .ref o_table, .ref a_columnSign, .ref a_columnRate, .ref a_columnRoom, .int v_columns, .int v_rooms, .ref o_hire, .int v_work, .int v_keptSign, .int v_joinedSign])), (o_table, .inr (8, [.ref table_a_entry, .ref table_a_lineName, .ref table_a_columnName, .int table_v_goals, .int table_v_lines, .int table_v_columns, .long table_v_base])), (table_a_entry, .inl (k_table_a_entry, 18, .inr (.inr (.inr (.inr (rows_of 18 R_table_a_entry)))))), (a_columnSign, .inl (k_a_columnSign, 12, .inl f_a_columnSign)), (a_columnRate, .inl (k_a_columnRate, 12, .inl f_a_columnRate)), (o_hire, .inr (3, [.int hire_v_signs, .int hire_v_works, .int hire_v_whole, .int hire_v_otherwise, .int hire_v_least, .int hire_v_rates, .ref hire_a_brings, .ref hire_a_costs, .ref hire_a_chances, .ref hire_a_rate, .ref hire_a_mark])), (hire_a_chances, .inl (k_hire_a_chances, 5, .inr (.inr (.inr (.inr (rows_of 5 R_hire_a_chances))))))] ++ va_pl LP e_fp)) (va_A ([(o, .inr (4, [.ref a_above, .long v_aboveLower, .ref o_table, .ref a_columnSign, .ref a_columnRate, .ref a_columnRoom, .int v_columns, .int v_rooms, .ref o_hire, .int v_work, .int v_keptSign, .int v_joinedSign])), (o_table, .inr (8, [.ref table_a_entry, .ref table_a_lineName, .ref table_a_columnName, .int table_v_goals, .int table_v_lines, .int table_v_columns, .long table_v_base])), (table_a_entry, .inl (k_table_a_entry, 18, .inr (.inr (.inr (.inr (rows_of 18 R_table_a_entry)))))), (a_columnSign, .inl (k_a_columnSign, 12, .inl f_a_columnSign)), (a_columnRate, .inl (k_a_columnRate, 12, .inl f_a_columnRate)), (o_hire, .inr (3, [.int hire_v_signs, .int hire_v_works, .int hire_v_whole, .int hire_v_otherwise, .int hire_v_least, .int hire_v_rates, .ref hire_a_brings, .ref hire_a_costs, .ref hire_a_chances, .ref hire_a_rate, .ref hire_a_mark])), (hire_a_chances, .inl (k_hire_a_chances, 5, .inr (.inr (.inr (.inr (rows_of 5 R_hire_a_chances))))))] ++ va_pl LP fp) sz)) 0 0 (va_A ([(o, .inr (4, [.ref a_above, .long v_aboveLower, .ref o_table, .ref a_columnSign, .ref a_columnRate, .ref a_columnRoom, .int v_columns, .int v_rooms, .ref o_hire, .int v_work, .int v_keptSign, .int v_joinedSign])), (o_table, .inr (8, [.ref table_a_entry, .ref table_a_lineName, .ref table_a_columnName, .int table_v_goals, .int table_v_lines, .int table_v_columns, .long table_v_base])), (table_a_entry, .inl (k_table_a_entry, 18, .inr (.inr (.inr (.inr (rows_of 18 R_table_a_entry)))))), (a_columnSign, .inl (k_a_columnSign, 12, .inl f_a_columnSign)), (a_columnRate, .inl (k_a_columnRate, 12, .inl f_a_columnRate)), (o_hire, .inr (3, [.int hire_v_signs, .int hire_v_works, .int hire_v_whole, .int hire_v_otherwise, .int hire_v_least, .int hire_v_rates, .ref hire_a_brings, .ref hire_a_costs, .ref hire_a_chances, .ref hire_a_rate, .ref hire_a_mark])), (hire_a_chances, .inl (k_hire_a_chances, 5, .inr (.inr (.inr (.inr (rows_of 5 R_hire_a_chances))))))] ++ va_pl LP fp) sz) := by
  refine Met.ofW (cc := cX4_fillGoals) (maxL := 5) (ret := none) (by decide) rfl ?_
  intro p e s m args below meth c s₁ B hml hv
  obtain ⟨rfl, hsz, hP, hK, hD0⟩ := hv
  have hx := B.exec
  have hb := B.bytes
  have hr := B.returns
  have hts := atoms_spec (ws := wsX4_fillGoals) B.pre
  have hown : s.vm.findClass RX4 = some m.cls := findClass_of_methodNamed B.named
  have hlocks := B.notSynchronized
  subst hsz
  have hD := hD0.self (sz := s.heap.size)
  generalize hAe : va_A ([(o, .inr (4, [.ref a_above, .long v_aboveLower, .ref o_table, .ref a_columnSign, .ref a_columnRate, .ref a_columnRoom, .int v_columns, .int v_rooms, .ref o_hire, .int v_work, .int v_keptSign, .int v_joinedSign])), (o_table, .inr (8, [.ref table_a_entry, .ref table_a_lineName, .ref table_a_columnName, .int table_v_goals, .int table_v_lines, .int table_v_columns, .long table_v_base])), (table_a_entry, .inl (k_table_a_entry, 18, .inr (.inr (.inr (.inr (rows_of 18 R_table_a_entry)))))), (a_columnSign, .inl (k_a_columnSign, 12, .inl f_a_columnSign)), (a_columnRate, .inl (k_a_columnRate, 12, .inl f_a_columnRate)), (o_hire, .inr (3, [.int hire_v_signs, .int hire_v_works, .int hire_v_whole, .int hire_v_otherwise, .int hire_v_least, .int hire_v_rates, .ref hire_a_brings, .ref hire_a_costs, .ref hire_a_chances, .ref hire_a_rate, .ref hire_a_mark])), (hire_a_chances, .inl (k_hire_a_chances, 5, .inr (.inr (.inr (.inr (rows_of 5 R_hire_a_chances))))))] ++ va_pl LP fp) s.heap.size = A at hD ⊢
  have hA : ∀ q : Nat, s.heap.size ≤ q → A q := fun q h => by rw [← hAe]; exact Or.inr h
  have hS : va_S A s.heap s.heap [] := va_S.rf
  have hP : va_P (dC, dI) vwCl ([(o, .inr (4, [.ref a_above, .long v_aboveLower, .ref o_table, .ref a_columnSign, .ref a_columnRate, .ref a_columnRoom, .int v_columns, .int v_rooms, .ref o_hire, .int v_work, .int v_keptSign, .int v_joinedSign])), (o_table, .inr (8, [.ref table_a_entry, .ref table_a_lineName, .ref table_a_columnName, .int table_v_goals, .int table_v_lines, .int table_v_columns, .long table_v_base])), (table_a_entry, .inl (k_table_a_entry, 18, .inr (.inr (.inr (.inr (rows_of 18 R_table_a_entry)))))), (a_columnSign, .inl (k_a_columnSign, 12, .inl f_a_columnSign)), (a_columnRate, .inl (k_a_columnRate, 12, .inl f_a_columnRate)), (o_hire, .inr (3, [.int hire_v_signs, .int hire_v_works, .int hire_v_whole, .int hire_v_otherwise, .int hire_v_least, .int hire_v_rates, .ref hire_a_brings, .ref hire_a_costs, .ref hire_a_chances, .ref hire_a_rate, .ref hire_a_mark])), (hire_a_chances, .inl (k_hire_a_chances, 5, .inr (.inr (.inr (.inr (rows_of 5 R_hire_a_chances))))))] ++ va_pl LP fp) s.heap := hP
  have hl := lv_entry ([.ref o, .int p0]) (n := 5) (Nat.le_of_ble_eq_true rfl)
  rw [lg_entry_eq]
  generalize (lg_sl ([.ref o, .int p0]) ++ List.replicate (5 - (lg_sl ([.ref o, .int p0])).length) Slot.unset).toArray = ls at hl ⊢
  have hl : lv_has ls 5 [(0, .ref o), (1, .int p0)] := hl
  refine lv_iconst (v := 0) hx hb dX4_fillGoals_0 (by decide) ?_
  refine lv_istore_n (lv' := [(2, .int 0), (0, .ref o), (1, .int p0)]) hx hb dX4_fillGoals_1 rfl hl (by decide) rfl (fun ls hl => ?_)
  refine tl_loop (I := fun nn H locs ls => ∃ (v1 : Int32) (f2 : Nat → va_E), nn = (12 - v1.toInt).toNat ∧ iv v1 0 12 ∧ pok cI cJ LP sh f2 ∧  va_P (dC, dI) vwCl ([(o, .inr (4, [.ref a_above, .long v_aboveLower, .ref o_table, .ref a_columnSign, .ref a_columnRate, .ref a_columnRoom, .int v_columns, .int v_rooms, .ref o_hire, .int v_work, .int v_keptSign, .int v_joinedSign])), (o_table, .inr (8, [.ref table_a_entry, .ref table_a_lineName, .ref table_a_columnName, .int table_v_goals, .int table_v_lines, .int table_v_columns, .long table_v_base])), (table_a_entry, .inl (k_table_a_entry, 18, .inr (.inr (.inr (.inr (rows_of 18 R_table_a_entry)))))), (a_columnSign, .inl (k_a_columnSign, 12, .inl f_a_columnSign)), (a_columnRate, .inl (k_a_columnRate, 12, .inl f_a_columnRate)), (o_hire, .inr (3, [.int hire_v_signs, .int hire_v_works, .int hire_v_whole, .int hire_v_otherwise, .int hire_v_least, .int hire_v_rates, .ref hire_a_brings, .ref hire_a_costs, .ref hire_a_chances, .ref hire_a_rate, .ref hire_a_mark])), (hire_a_chances, .inl (k_hire_a_chances, 5, .inr (.inr (.inr (.inr (rows_of 5 R_hire_a_chances))))))] ++ va_pl LP f2) H ∧ va_D A ([(o, .inr (4, [.ref a_above, .long v_aboveLower, .ref o_table, .ref a_columnSign, .ref a_columnRate, .ref a_columnRoom, .int v_columns, .int v_rooms, .ref o_hire, .int v_work, .int v_keptSign, .int v_joinedSign])), (o_table, .inr (8, [.ref table_a_entry, .ref table_a_lineName, .ref table_a_columnName, .int table_v_goals, .int table_v_lines, .int table_v_columns, .long table_v_base])), (table_a_entry, .inl (k_table_a_entry, 18, .inr (.inr (.inr (.inr (rows_of 18 R_table_a_entry)))))), (a_columnSign, .inl (k_a_columnSign, 12, .inl f_a_columnSign)), (a_columnRate, .inl (k_a_columnRate, 12, .inl f_a_columnRate)), (o_hire, .inr (3, [.int hire_v_signs, .int hire_v_works, .int hire_v_whole, .int hire_v_otherwise, .int hire_v_least, .int hire_v_rates, .ref hire_a_brings, .ref hire_a_costs, .ref hire_a_chances, .ref hire_a_rate, .ref hire_a_mark])), (hire_a_chances, .inl (k_hire_a_chances, 5, .inr (.inr (.inr (.inr (rows_of 5 R_hire_a_chances))))))] ++ va_pl LP f2) ∧ va_S A s.heap H locs ∧ lv_has ls 5 [(2, .int v1), (0, .ref o), (1, .int p0)]) ?_ ⟨0, fp, rfl, (iv.m (by decide)), hfp, hP, hD, hS, lv_sub hl [0, 1, 2] rfl⟩
  clear hP hD hS hl
  intro nn2 H locs ls hI ih2
  obtain ⟨v1, f2, hn2, hv1, hf2, hP, hD, hS, hl⟩ := hI
  have bv1 := hv1.u
  refine lv_iload_n hx hb dX4_fillGoals_2 rfl (lv_at hl 0 rfl) ?_
  refine lv_aload_n hx hb dX4_fillGoals_3 rfl (lv_at hl 1 rfl) ?_
  refine va_get (D := (dC, dI)) (ci := 4) (v := .int v_columns) (C := RX4) (T := TX4) (N := 12) hx hb hts iw_X4_fillGoals_X4 hown hK hP 0 rfl rfl 6 (by decide) (hts _ kk_X4_fillGoals_0) (fun _ h9 => h9) rfl dX4_fillGoals_4 ?_
  have bv_columns := hv_columns.u
  refine lv_icmp_ge (tgt := 84) hx hb dX4_fillGoals_7 (by decide) (fun c3 => ?_) (fun c3 => ?_)
  · have c39 := i32_le c3 rfl rfl
    have hP9 := hP.part (cx := [(o, .inr (4, [.ref a_above, .long v_aboveLower, .ref o_table, .ref a_columnSign, .ref a_columnRate, .ref a_columnRoom, .int v_columns, .int v_rooms, .ref o_hire, .int v_work, .int v_keptSign, .int v_joinedSign])), (o_table, .inr (8, [.ref table_a_entry, .ref table_a_lineName, .ref table_a_columnName, .int table_v_goals, .int table_v_lines, .int table_v_columns, .long table_v_base])), (table_a_entry, .inl (k_table_a_entry, 18, .inr (.inr (.inr (.inr (rows_of 18 R_table_a_entry)))))), (a_columnSign, .inl (k_a_columnSign, 12, .inl f_a_columnSign)), (a_columnRate, .inl (k_a_columnRate, 12, .inl f_a_columnRate)), (o_hire, .inr (3, [.int hire_v_signs, .int hire_v_works, .int hire_v_whole, .int hire_v_otherwise, .int hire_v_least, .int hire_v_rates, .ref hire_a_brings, .ref hire_a_costs, .ref hire_a_chances, .ref hire_a_rate, .ref hire_a_mark])), (hire_a_chances, .inl (k_hire_a_chances, 5, .inr (.inr (.inr (.inr (rows_of 5 R_hire_a_chances))))))]) [0, 1, 2, 3, 4, 5, 6] rfl
    have hD9 := hD.part (cx := [(o, .inr (4, [.ref a_above, .long v_aboveLower, .ref o_table, .ref a_columnSign, .ref a_columnRate, .ref a_columnRoom, .int v_columns, .int v_rooms, .ref o_hire, .int v_work, .int v_keptSign, .int v_joinedSign])), (o_table, .inr (8, [.ref table_a_entry, .ref table_a_lineName, .ref table_a_columnName, .int table_v_goals, .int table_v_lines, .int table_v_columns, .long table_v_base])), (table_a_entry, .inl (k_table_a_entry, 18, .inr (.inr (.inr (.inr (rows_of 18 R_table_a_entry)))))), (a_columnSign, .inl (k_a_columnSign, 12, .inl f_a_columnSign)), (a_columnRate, .inl (k_a_columnRate, 12, .inl f_a_columnRate)), (o_hire, .inr (3, [.int hire_v_signs, .int hire_v_works, .int hire_v_whole, .int hire_v_otherwise, .int hire_v_least, .int hire_v_rates, .ref hire_a_brings, .ref hire_a_costs, .ref hire_a_chances, .ref hire_a_rate, .ref hire_a_mark])), (hire_a_chances, .inl (k_hire_a_chances, 5, .inr (.inr (.inr (.inr (rows_of 5 R_hire_a_chances))))))]) [0, 1, 2, 3, 4, 5, 6] (by decide) rfl
    exact W.vret hx hb hr (fun t ht hW => ⟨⟨(), rfl, trivial, f2, hf2, by rw [ht]; exact hP9, hD9⟩, hS.F ht⟩) hS.2.2 dX4_fillGoals_84
  · have c39 := i32_nle c3 rfl rfl
    refine lv_aload_n hx hb dX4_fillGoals_10 rfl (lv_at hl 1 rfl) ?_
    refine va_get (D := (dC, dI)) (ci := 4) (v := .ref a_columnSign) (C := RX4) (T := TX4) (N := 12) hx hb hts iw_X4_fillGoals_X4 hown hK hP 0 rfl rfl 3 (by decide) (hts _ kk_X4_fillGoals_1) (fun _ h9 => h9) rfl dX4_fillGoals_11 ?_
    refine lv_iload_n hx hb dX4_fillGoals_14 rfl (lv_at hl 0 rfl) ?_
    refine va_iald hx hb hK hP 3 1 rfl rfl (vq_in v1 12 (by omega)) dX4_fillGoals_15 ?_
    refine lv_topi (fun x4 ex4 => ?_)
    have hx4 : iv x4 0 3 := iv.of (hf_a_columnSign _) ex4
    refine lv_istore_n (lv' := [(3, .int x4), (2, .int v1), (0, .ref o), (1, .int p0)]) hx hb dX4_fillGoals_16 rfl hl (by decide) rfl (fun ls hl => ?_)
    refine lv_aload_n hx hb dX4_fillGoals_17 rfl (lv_at hl 2 rfl) ?_
    refine lv_iload_n hx hb dX4_fillGoals_18 rfl (lv_at hl 1 rfl) ?_
    have hPc := hP.sub (ws' := [(o, .inr (4, [.ref a_above, .long v_aboveLower, .ref o_table, .ref a_columnSign, .ref a_columnRate, .ref a_columnRoom, .int v_columns, .int v_rooms, .ref o_hire, .int v_work, .int v_keptSign, .int v_joinedSign])), (a_columnRate, .inl (k_a_columnRate, 12, .inl f_a_columnRate))]) [0, 4] rfl
    have hDc := hD.sub (ws' := [(o, .inr (4, [.ref a_above, .long v_aboveLower, .ref o_table, .ref a_columnSign, .ref a_columnRate, .ref a_columnRoom, .int v_columns, .int v_rooms, .ref o_hire, .int v_work, .int v_keptSign, .int v_joinedSign])), (a_columnRate, .inl (k_a_columnRate, 12, .inl f_a_columnRate))]) [0, 4] (by decide) rfl
    have hKc := hK.sub (tys' := [(k_a_columnRate, .int)]) [2] rfl
    have hFc := va_free (wc := [(o, .inr (4, [.ref a_above, .long v_aboveLower, .ref o_table, .ref a_columnSign, .ref a_columnRate, .ref a_columnRoom, .int v_columns, .int v_rooms, .ref o_hire, .int v_work, .int v_keptSign, .int v_joinedSign])), (a_columnRate, .inl (k_a_columnRate, 12, .inl f_a_columnRate))]) hD hS hA [0, 4] rfl
    refine va_calli (va_runV (As := [.int v1]) (rest := []) ⟨hx, hb, hml, hown, hts⟩ (ct_X4_partsOf l dC dI o v1 a_above v_aboveLower o_table a_columnSign a_columnRate a_columnRoom v_columns v_rooms o_hire v_work v_keptSign v_joinedSign k_a_columnRate f_a_columnRate (iv.m (by omega)) H.size) (cwV 1 hts gX4_fillGoals_X4_partsOf rfl rfl rfl (by decide +kernel) ⟨Nat.le_of_ble_eq_true rfl, Nat.le_of_ble_eq_true rfl⟩) ⟨fun a U g mk q => by obtain ⟨q0, q1, qP, qK, qD⟩ := q; exact ⟨q0, q1, qP, va_K.moved (u := U) (U := U.calling g mk a) (Vm.Alike.refl U.vm) qK, qD⟩, va_recv hKc hPc (ci := 4) (q0 := 0) rfl rfl, fun U hU hW => ⟨rfl, by rw [hU], by rw [hU]; exact hPc, va_K.moved hW.alike hKc, hDc.weaken (fun _ _ _ _ => trivial)⟩⟩ rfl rfl hl.1 rfl (lv_room (Nat.le_of_ble_eq_true rfl)) dX4_fillGoals_19 ⟨Nat.le_of_ble_eq_true rfl, Nat.le_of_ble_eq_true rfl⟩) hS (fun q _ h => hFc q h) hFc (fun r5 u t H1 locs ht hvm hw hB hz1 hk1 hS => ?_)
    have hw : r5 = u := hw.symm
    subst hw
    obtain ⟨hP1, hD1⟩ := hB
    rw [ht] at hP1
    obtain ⟨hP, hD⟩ := va_joinQ (X := [(o, .inr (4, [.ref a_above, .long v_aboveLower, .ref o_table, .ref a_columnSign, .ref a_columnRate, .ref a_columnRoom, .int v_columns, .int v_rooms, .ref o_hire, .int v_work, .int v_keptSign, .int v_joinedSign])), (o_table, .inr (8, [.ref table_a_entry, .ref table_a_lineName, .ref table_a_columnName, .int table_v_goals, .int table_v_lines, .int table_v_columns, .long table_v_base])), (table_a_entry, .inl (k_table_a_entry, 18, .inr (.inr (.inr (.inr (rows_of 18 R_table_a_entry)))))), (a_columnSign, .inl (k_a_columnSign, 12, .inl f_a_columnSign)), (a_columnRate, .inl (k_a_columnRate, 12, .inl f_a_columnRate)), (o_hire, .inr (3, [.int hire_v_signs, .int hire_v_works, .int hire_v_whole, .int hire_v_otherwise, .int hire_v_least, .int hire_v_rates, .ref hire_a_brings, .ref hire_a_costs, .ref hire_a_chances, .ref hire_a_rate, .ref hire_a_mark])), (hire_a_chances, .inl (k_hire_a_chances, 5, .inr (.inr (.inr (.inr (rows_of 5 R_hire_a_chances))))))]) (cx := [(o, .inr (4, [.ref a_above, .long v_aboveLower, .ref o_table, .ref a_columnSign, .ref a_columnRate, .ref a_columnRoom, .int v_columns, .int v_rooms, .ref o_hire, .int v_work, .int v_keptSign, .int v_joinedSign])), (a_columnRate, .inl (k_a_columnRate, 12, .inl f_a_columnRate))]) (wr := [(o_table, .inr (8, [.ref table_a_entry, .ref table_a_lineName, .ref table_a_columnName, .int table_v_goals, .int table_v_lines, .int table_v_columns, .long table_v_base])), (table_a_entry, .inl (k_table_a_entry, 18, .inr (.inr (.inr (.inr (rows_of 18 R_table_a_entry)))))), (a_columnSign, .inl (k_a_columnSign, 12, .inl f_a_columnSign)), (o_hire, .inr (3, [.int hire_v_signs, .int hire_v_works, .int hire_v_whole, .int hire_v_otherwise, .int hire_v_least, .int hire_v_rates, .ref hire_a_brings, .ref hire_a_costs, .ref hire_a_chances, .ref hire_a_rate, .ref hire_a_mark])), (hire_a_chances, .inl (k_hire_a_chances, 5, .inr (.inr (.inr (.inr (rows_of 5 R_hire_a_chances))))))]) (w1 := [(o, .inr (4, [.ref a_above, .long v_aboveLower, .ref o_table, .ref a_columnSign, .ref a_columnRate, .ref a_columnRoom, .int v_columns, .int v_rooms, .ref o_hire, .int v_work, .int v_keptSign, .int v_joinedSign])), (a_columnRate, .inl (k_a_columnRate, 12, .inl f_a_columnRate))]) hP hD [0, 4] [1, 2, 3, 5, 6] rfl rfl (by decide) (by decide) hk1 hFc hP1 hD1
    clear hPc hDc hKc hFc hP1 hD1 hk1 hz1
    generalize H1 = H at hP hS ⊢
    have hP : va_P (dC, dI) vwCl ([(o_table, .inr (8, [.ref table_a_entry, .ref table_a_lineName, .ref table_a_columnName, .int table_v_goals, .int table_v_lines, .int table_v_columns, .long table_v_base])), (table_a_entry, .inl (k_table_a_entry, 18, .inr (.inr (.inr (.inr (rows_of 18 R_table_a_entry)))))), (a_columnSign, .inl (k_a_columnSign, 12, .inl f_a_columnSign)), (o_hire, .inr (3, [.int hire_v_signs, .int hire_v_works, .int hire_v_whole, .int hire_v_otherwise, .int hire_v_least, .int hire_v_rates, .ref hire_a_brings, .ref hire_a_costs, .ref hire_a_chances, .ref hire_a_rate, .ref hire_a_mark])), (hire_a_chances, .inl (k_hire_a_chances, 5, .inr (.inr (.inr (.inr (rows_of 5 R_hire_a_chances)))))), (o, .inr (4, [.ref a_above, .long v_aboveLower, .ref o_table, .ref a_columnSign, .ref a_columnRate, .ref a_columnRoom, .int v_columns, .int v_rooms, .ref o_hire, .int v_work, .int v_keptSign, .int v_joinedSign])), (a_columnRate, .inl (k_a_columnRate, 12, .inl f_a_columnRate))] ++ va_pl LP f2) H := hP
    have hD : va_D A ([(o_table, .inr (8, [.ref table_a_entry, .ref table_a_lineName, .ref table_a_columnName, .int table_v_goals, .int table_v_lines, .int table_v_columns, .long table_v_base])), (table_a_entry, .inl (k_table_a_entry, 18, .inr (.inr (.inr (.inr (rows_of 18 R_table_a_entry)))))), (a_columnSign, .inl (k_a_columnSign, 12, .inl f_a_columnSign)), (o_hire, .inr (3, [.int hire_v_signs, .int hire_v_works, .int hire_v_whole, .int hire_v_otherwise, .int hire_v_least, .int hire_v_rates, .ref hire_a_brings, .ref hire_a_costs, .ref hire_a_chances, .ref hire_a_rate, .ref hire_a_mark])), (hire_a_chances, .inl (k_hire_a_chances, 5, .inr (.inr (.inr (.inr (rows_of 5 R_hire_a_chances)))))), (o, .inr (4, [.ref a_above, .long v_aboveLower, .ref o_table, .ref a_columnSign, .ref a_columnRate, .ref a_columnRoom, .int v_columns, .int v_rooms, .ref o_hire, .int v_work, .int v_keptSign, .int v_joinedSign])), (a_columnRate, .inl (k_a_columnRate, 12, .inl f_a_columnRate))] ++ va_pl LP f2) := hD
    refine W.widen (k := 0) (n := 0) (by decide) (by decide) ?_
    refine lv_istore (lv' := [(4, .int r5), (3, .int x4), (2, .int v1), (0, .ref o), (1, .int p0)]) hx hb dX4_fillGoals_22 hl (by decide) rfl (fun ls hl => ?_)
    refine lv_aload_n hx hb dX4_fillGoals_24 rfl (lv_at hl 3 rfl) ?_
    refine va_get (D := (dC, dI)) (ci := 4) (v := .ref o_table) (C := RX4) (T := TX4) (N := 12) hx hb hts iw_X4_fillGoals_X4 hown hK hP 5 rfl rfl 2 (by decide) (hts _ kk_X4_fillGoals_2) (fun _ h9 => h9) rfl dX4_fillGoals_25 ?_
    refine va_get (D := (dC, dI)) (ci := 8) (v := .ref table_a_entry) (C := RX8) (T := TX8) (N := 7) hx hb hts iw_X4_fillGoals_X8 hown hK hP 0 rfl rfl 0 (by decide) (hts _ kk_X4_fillGoals_3) (fun _ h9 => h9) rfl dX4_fillGoals_28 ?_
    refine lv_iconst (v := 0) hx hb dX4_fillGoals_31 (by decide) ?_
    have hinrw6 : vp_in 0 18 := (vq_in 0 18 (by decide))
    refine va_aldA hx hb hK hP 1 0 rfl rfl hinrw6 dX4_fillGoals_32 ?_
    refine px_v (row_sel hinrw6) ?_
    obtain ⟨rw6, erw6⟩ : ∃ z : Nat, z = R_table_a_entry (Int32.toNatClampNeg 0) := ⟨_, rfl⟩
    rw [← erw6]
    have mrw6 : rw6 ∈ LP ∧ sh rw6 = 13 := by rw [erw6]; exact hRR_table_a_entry _ (vin_lt hinrw6)
    refine lv_iload_n hx hb dX4_fillGoals_33 rfl (lv_at hl 2 rfl) ?_
    refine lv_iconst (v := 1) hx hb dX4_fillGoals_34 (by decide) ?_
    refine lv_iadd hx hb dX4_fillGoals_35 ?_
    refine lv_topi (fun x7 ex7 => ?_)
    have tx7 := i32_add ex7 rfl (show (1 : Int32).toInt = 1 by decide) (by omega) (by omega)
    refine lv_iload hx hb dX4_fillGoals_36 (lv_at hl 0 rfl) ?_
    refine lv_i2l (v := (r5).toInt64) hx hb dX4_fillGoals_38 rfl ?_
    refine lv_lneg hx hb dX4_fillGoals_39 ?_
    refine lv_topl (fun y8 ey8 => ?_)
    have hy8 : jv y8 (-2147483647) 2147483648 := jv.neg ey8 (jv.i (show iv r5 (-2147483648) 2147483647 from i32_rng r5)) (by decide) (by decide) (by decide) (by decide)
    refine lv_aload_n hx hb dX4_fillGoals_40 rfl (lv_at hl 3 rfl) ?_
    refine lv_aload_n hx hb dX4_fillGoals_41 rfl (lv_at hl 3 rfl) ?_
    refine va_get (D := (dC, dI)) (ci := 4) (v := .int v_work) (C := RX4) (T := TX4) (N := 12) hx hb hts iw_X4_fillGoals_X4 hown hK hP 5 rfl rfl 9 (by decide) (hts _ kk_X4_fillGoals_4) (fun _ h9 => h9) rfl dX4_fillGoals_42 ?_
    refine lv_iload_n hx hb dX4_fillGoals_45 rfl (lv_at hl 1 rfl) ?_
    have bv_keptSign := hv_keptSign.u
    have bv_joinedSign := hv_joinedSign.u
    have hPc := hP.part (cx := [(o, .inr (4, [.ref a_above, .long v_aboveLower, .ref o_table, .ref a_columnSign, .ref a_columnRate, .ref a_columnRoom, .int v_columns, .int v_rooms, .ref o_hire, .int v_work, .int v_keptSign, .int v_joinedSign])), (o_hire, .inr (3, [.int hire_v_signs, .int hire_v_works, .int hire_v_whole, .int hire_v_otherwise, .int hire_v_least, .int hire_v_rates, .ref hire_a_brings, .ref hire_a_costs, .ref hire_a_chances, .ref hire_a_rate, .ref hire_a_mark])), (hire_a_chances, .inl (k_hire_a_chances, 5, .inr (.inr (.inr (.inr (rows_of 5 R_hire_a_chances))))))]) [5, 3, 4] rfl
    have hDc := hD.part (cx := [(o, .inr (4, [.ref a_above, .long v_aboveLower, .ref o_table, .ref a_columnSign, .ref a_columnRate, .ref a_columnRoom, .int v_columns, .int v_rooms, .ref o_hire, .int v_work, .int v_keptSign, .int v_joinedSign])), (o_hire, .inr (3, [.int hire_v_signs, .int hire_v_works, .int hire_v_whole, .int hire_v_otherwise, .int hire_v_least, .int hire_v_rates, .ref hire_a_brings, .ref hire_a_costs, .ref hire_a_chances, .ref hire_a_rate, .ref hire_a_mark])), (hire_a_chances, .inl (k_hire_a_chances, 5, .inr (.inr (.inr (.inr (rows_of 5 R_hire_a_chances))))))]) [5, 3, 4] (by decide) rfl
    have hKc := hK.sub (tys' := [(k_hire_a_chances, (.array .int)), (cI, .int), (cJ, .long)]) [3, 4, 5] rfl
    have hFc := va_freeP (cx := [(o, .inr (4, [.ref a_above, .long v_aboveLower, .ref o_table, .ref a_columnSign, .ref a_columnRate, .ref a_columnRoom, .int v_columns, .int v_rooms, .ref o_hire, .int v_work, .int v_keptSign, .int v_joinedSign])), (o_hire, .inr (3, [.int hire_v_signs, .int hire_v_works, .int hire_v_whole, .int hire_v_otherwise, .int hire_v_least, .int hire_v_rates, .ref hire_a_brings, .ref hire_a_costs, .ref hire_a_chances, .ref hire_a_rate, .ref hire_a_mark])), (hire_a_chances, .inl (k_hire_a_chances, 5, .inr (.inr (.inr (.inr (rows_of 5 R_hire_a_chances))))))]) hD hS hA [5, 3, 4] rfl
    refine va_calli (va_runV (As := [.int v_work, .int x4]) (rest := [.long y8, .int x7, .ref rw6]) ⟨hx, hb, hml, hown, hts⟩ (ct_X4_chanceOf l dC dI o v_work x4 a_above v_aboveLower o_table a_columnSign a_columnRate a_columnRoom v_columns v_rooms o_hire v_work v_keptSign v_joinedSign hire_v_signs hire_v_works hire_v_whole hire_v_otherwise hire_v_least hire_v_rates hire_a_brings hire_a_costs hire_a_chances hire_a_rate hire_a_mark k_hire_a_chances R_hire_a_chances LP sh f2 cI cJ hv_work hx4 hv_keptSign hv_joinedSign hf2 hRR_hire_a_chances (by first | omega | (simp; done) | decide) H.size) (cwV 2 hts gX4_fillGoals_X4_chanceOf rfl rfl rfl (by decide +kernel) ⟨Nat.le_of_ble_eq_true rfl, Nat.le_of_ble_eq_true rfl⟩) ⟨fun a U g mk q => by obtain ⟨q0, q1, qP, qK, qD⟩ := q; exact ⟨q0, q1, qP, va_K.moved (u := U) (U := U.calling g mk a) (Vm.Alike.refl U.vm) qK, qD⟩, va_recv hKc hPc (ci := 4) (q0 := 0) rfl rfl, fun U hU hW => ⟨rfl, by rw [hU], by rw [hU]; exact hPc, va_K.moved hW.alike hKc, hDc.weaken (fun _ _ _ _ => trivial)⟩⟩ rfl rfl hl.1 rfl (lv_room (Nat.le_of_ble_eq_true rfl)) dX4_fillGoals_46 ⟨Nat.le_of_ble_eq_true rfl, Nat.le_of_ble_eq_true rfl⟩) hS (fun q _ h => hFc q h) hFc (fun r9 u t H1 locs ht hvm hw hB hz1 hk1 hS => ?_)
    have hw : r9 = u := hw.symm
    subst hw
    obtain ⟨hr9, hP1, hD1⟩ := hB
    rw [ht] at hP1
    obtain ⟨hP, hD⟩ := va_joinP (X := [(o_table, .inr (8, [.ref table_a_entry, .ref table_a_lineName, .ref table_a_columnName, .int table_v_goals, .int table_v_lines, .int table_v_columns, .long table_v_base])), (table_a_entry, .inl (k_table_a_entry, 18, .inr (.inr (.inr (.inr (rows_of 18 R_table_a_entry)))))), (a_columnSign, .inl (k_a_columnSign, 12, .inl f_a_columnSign)), (o_hire, .inr (3, [.int hire_v_signs, .int hire_v_works, .int hire_v_whole, .int hire_v_otherwise, .int hire_v_least, .int hire_v_rates, .ref hire_a_brings, .ref hire_a_costs, .ref hire_a_chances, .ref hire_a_rate, .ref hire_a_mark])), (hire_a_chances, .inl (k_hire_a_chances, 5, .inr (.inr (.inr (.inr (rows_of 5 R_hire_a_chances)))))), (o, .inr (4, [.ref a_above, .long v_aboveLower, .ref o_table, .ref a_columnSign, .ref a_columnRate, .ref a_columnRoom, .int v_columns, .int v_rooms, .ref o_hire, .int v_work, .int v_keptSign, .int v_joinedSign])), (a_columnRate, .inl (k_a_columnRate, 12, .inl f_a_columnRate))]) (cx := [(o, .inr (4, [.ref a_above, .long v_aboveLower, .ref o_table, .ref a_columnSign, .ref a_columnRate, .ref a_columnRoom, .int v_columns, .int v_rooms, .ref o_hire, .int v_work, .int v_keptSign, .int v_joinedSign])), (o_hire, .inr (3, [.int hire_v_signs, .int hire_v_works, .int hire_v_whole, .int hire_v_otherwise, .int hire_v_least, .int hire_v_rates, .ref hire_a_brings, .ref hire_a_costs, .ref hire_a_chances, .ref hire_a_rate, .ref hire_a_mark])), (hire_a_chances, .inl (k_hire_a_chances, 5, .inr (.inr (.inr (.inr (rows_of 5 R_hire_a_chances))))))]) (wr := [(o_table, .inr (8, [.ref table_a_entry, .ref table_a_lineName, .ref table_a_columnName, .int table_v_goals, .int table_v_lines, .int table_v_columns, .long table_v_base])), (table_a_entry, .inl (k_table_a_entry, 18, .inr (.inr (.inr (.inr (rows_of 18 R_table_a_entry)))))), (a_columnSign, .inl (k_a_columnSign, 12, .inl f_a_columnSign)), (a_columnRate, .inl (k_a_columnRate, 12, .inl f_a_columnRate))]) (rx := [(o, .inr (4, [.ref a_above, .long v_aboveLower, .ref o_table, .ref a_columnSign, .ref a_columnRate, .ref a_columnRoom, .int v_columns, .int v_rooms, .ref o_hire, .int v_work, .int v_keptSign, .int v_joinedSign])), (o_hire, .inr (3, [.int hire_v_signs, .int hire_v_works, .int hire_v_whole, .int hire_v_otherwise, .int hire_v_least, .int hire_v_rates, .ref hire_a_brings, .ref hire_a_costs, .ref hire_a_chances, .ref hire_a_rate, .ref hire_a_mark])), (hire_a_chances, .inl (k_hire_a_chances, 5, .inr (.inr (.inr (.inr (rows_of 5 R_hire_a_chances))))))]) hP hD [5, 3, 4] [0, 1, 2, 6] rfl rfl (by decide) (by decide) hk1 hFc hP1 hD1
    clear hPc hDc hKc hFc hP1 hD1 hk1 hz1
    generalize H1 = H at hP hS ⊢
    have hP : va_P (dC, dI) vwCl ([(o_table, .inr (8, [.ref table_a_entry, .ref table_a_lineName, .ref table_a_columnName, .int table_v_goals, .int table_v_lines, .int table_v_columns, .long table_v_base])), (table_a_entry, .inl (k_table_a_entry, 18, .inr (.inr (.inr (.inr (rows_of 18 R_table_a_entry)))))), (a_columnSign, .inl (k_a_columnSign, 12, .inl f_a_columnSign)), (a_columnRate, .inl (k_a_columnRate, 12, .inl f_a_columnRate)), (o, .inr (4, [.ref a_above, .long v_aboveLower, .ref o_table, .ref a_columnSign, .ref a_columnRate, .ref a_columnRoom, .int v_columns, .int v_rooms, .ref o_hire, .int v_work, .int v_keptSign, .int v_joinedSign])), (o_hire, .inr (3, [.int hire_v_signs, .int hire_v_works, .int hire_v_whole, .int hire_v_otherwise, .int hire_v_least, .int hire_v_rates, .ref hire_a_brings, .ref hire_a_costs, .ref hire_a_chances, .ref hire_a_rate, .ref hire_a_mark])), (hire_a_chances, .inl (k_hire_a_chances, 5, .inr (.inr (.inr (.inr (rows_of 5 R_hire_a_chances))))))] ++ va_pl LP f2) H := hP
    have hD : va_D A ([(o_table, .inr (8, [.ref table_a_entry, .ref table_a_lineName, .ref table_a_columnName, .int table_v_goals, .int table_v_lines, .int table_v_columns, .long table_v_base])), (table_a_entry, .inl (k_table_a_entry, 18, .inr (.inr (.inr (.inr (rows_of 18 R_table_a_entry)))))), (a_columnSign, .inl (k_a_columnSign, 12, .inl f_a_columnSign)), (a_columnRate, .inl (k_a_columnRate, 12, .inl f_a_columnRate)), (o, .inr (4, [.ref a_above, .long v_aboveLower, .ref o_table, .ref a_columnSign, .ref a_columnRate, .ref a_columnRoom, .int v_columns, .int v_rooms, .ref o_hire, .int v_work, .int v_keptSign, .int v_joinedSign])), (o_hire, .inr (3, [.int hire_v_signs, .int hire_v_works, .int hire_v_whole, .int hire_v_otherwise, .int hire_v_least, .int hire_v_rates, .ref hire_a_brings, .ref hire_a_costs, .ref hire_a_chances, .ref hire_a_rate, .ref hire_a_mark])), (hire_a_chances, .inl (k_hire_a_chances, 5, .inr (.inr (.inr (.inr (rows_of 5 R_hire_a_chances))))))] ++ va_pl LP f2) := hD
    refine W.widen (k := 0) (n := 0) (by decide) (by decide) ?_
    refine lv_i2l (v := (r9).toInt64) hx hb dX4_fillGoals_49 rfl ?_
    refine lv_lmul hx hb dX4_fillGoals_50 ?_
    refine lv_topl (fun y10 ey10 => ?_)
    have hy10 : jv y10 (-42949672960) 42949672960 := jv.mula (B := 2147483648) (D := 20) ey10 hy8 (jv.i (show iv r9 0 20 from hr9)) (by decide) (by decide) (by decide) (by decide) (by decide) (by decide)
    obtain ⟨gk11, hgk11⟩ := pok_13 (hf2) mrw6
    obtain ⟨kk12, hkk12⟩ := va_pl_get (X := [(o_table, .inr (8, [.ref table_a_entry, .ref table_a_lineName, .ref table_a_columnName, .int table_v_goals, .int table_v_lines, .int table_v_columns, .long table_v_base])), (table_a_entry, .inl (k_table_a_entry, 18, .inr (.inr (.inr (.inr (rows_of 18 R_table_a_entry)))))), (a_columnSign, .inl (k_a_columnSign, 12, .inl f_a_columnSign)), (a_columnRate, .inl (k_a_columnRate, 12, .inl f_a_columnRate)), (o, .inr (4, [.ref a_above, .long v_aboveLower, .ref o_table, .ref a_columnSign, .ref a_columnRate, .ref a_columnRoom, .int v_columns, .int v_rooms, .ref o_hire, .int v_work, .int v_keptSign, .int v_joinedSign])), (o_hire, .inr (3, [.int hire_v_signs, .int hire_v_works, .int hire_v_whole, .int hire_v_otherwise, .int hire_v_least, .int hire_v_rates, .ref hire_a_brings, .ref hire_a_costs, .ref hire_a_chances, .ref hire_a_rate, .ref hire_a_mark])), (hire_a_chances, .inl (k_hire_a_chances, 5, .inr (.inr (.inr (.inr (rows_of 5 R_hire_a_chances))))))]) (f := f2) mrw6.1
    have qkk12 := hkk12
    rw [hgk11] at qkk12
    have hDo := hD
    refine va_last hx hb hK hP hD hS kk12 5 qkk12 rfl (vq_in x7 13 (by omega)) dX4_fillGoals_51 (fun H locs hP hD hS => ?_)
    rw [va_pl_set hDo mrw6.1 hkk12] at hP hD
    have hfp13 := pok_up13 hf2 mrw6 (Int32.toNatClampNeg x7) y10 gk11
    generalize va_up f2 rw6 _ = fp13 at hP hD hfp13
    have hP : va_P (dC, dI) vwCl ([(o_table, .inr (8, [.ref table_a_entry, .ref table_a_lineName, .ref table_a_columnName, .int table_v_goals, .int table_v_lines, .int table_v_columns, .long table_v_base])), (table_a_entry, .inl (k_table_a_entry, 18, .inr (.inr (.inr (.inr (rows_of 18 R_table_a_entry)))))), (a_columnSign, .inl (k_a_columnSign, 12, .inl f_a_columnSign)), (a_columnRate, .inl (k_a_columnRate, 12, .inl f_a_columnRate)), (o, .inr (4, [.ref a_above, .long v_aboveLower, .ref o_table, .ref a_columnSign, .ref a_columnRate, .ref a_columnRoom, .int v_columns, .int v_rooms, .ref o_hire, .int v_work, .int v_keptSign, .int v_joinedSign])), (o_hire, .inr (3, [.int hire_v_signs, .int hire_v_works, .int hire_v_whole, .int hire_v_otherwise, .int hire_v_least, .int hire_v_rates, .ref hire_a_brings, .ref hire_a_costs, .ref hire_a_chances, .ref hire_a_rate, .ref hire_a_mark])), (hire_a_chances, .inl (k_hire_a_chances, 5, .inr (.inr (.inr (.inr (rows_of 5 R_hire_a_chances))))))] ++ va_pl LP fp13) H := hP
    have hD : va_D A ([(o_table, .inr (8, [.ref table_a_entry, .ref table_a_lineName, .ref table_a_columnName, .int table_v_goals, .int table_v_lines, .int table_v_columns, .long table_v_base])), (table_a_entry, .inl (k_table_a_entry, 18, .inr (.inr (.inr (.inr (rows_of 18 R_table_a_entry)))))), (a_columnSign, .inl (k_a_columnSign, 12, .inl f_a_columnSign)), (a_columnRate, .inl (k_a_columnRate, 12, .inl f_a_columnRate)), (o, .inr (4, [.ref a_above, .long v_aboveLower, .ref o_table, .ref a_columnSign, .ref a_columnRate, .ref a_columnRoom, .int v_columns, .int v_rooms, .ref o_hire, .int v_work, .int v_keptSign, .int v_joinedSign])), (o_hire, .inr (3, [.int hire_v_signs, .int hire_v_works, .int hire_v_whole, .int hire_v_otherwise, .int hire_v_least, .int hire_v_rates, .ref hire_a_brings, .ref hire_a_costs, .ref hire_a_chances, .ref hire_a_rate, .ref hire_a_mark])), (hire_a_chances, .inl (k_hire_a_chances, 5, .inr (.inr (.inr (.inr (rows_of 5 R_hire_a_chances))))))] ++ va_pl LP fp13) := hD
    refine lv_iconst (v := 1) hx hb dX4_fillGoals_52 (by decide) ?_
    refine lv_iload_n hx hb dX4_fillGoals_53 rfl (lv_at hl 1 rfl) ?_
    refine lv_iadd hx hb dX4_fillGoals_54 ?_
    refine lv_topi (fun x14 ex14 => ?_)
    have bx4 := hx4.u
    have tx14 := i32_add ex14 (show (1 : Int32).toInt = 1 by decide) rfl (by omega) (by omega)
    refine lv_iload_n hx hb dX4_fillGoals_55 rfl (lv_at hl 4 rfl) ?_
    have bp0 := hp0.u
    refine lv_icmp_ge (tgt := 78) hx hb dX4_fillGoals_56 (by decide) (fun c15 => ?_) (fun c15 => ?_)
    · have c159 := i32_le c15 rfl rfl
      obtain ⟨x16, ex16⟩ : ∃ z : Int32, v1 + Int32.ofInt 1 = z := ⟨_, rfl⟩
      have tx16 := i32_inc ex16 rfl (by decide) (by omega) (by omega)
      refine lv_iinc (v := x16) (lv' := [(2, .int x16), (4, .int r5), (3, .int x4), (0, .ref o), (1, .int p0)]) hx hb dX4_fillGoals_78 hl (k := 2) rfl ex16 (by decide) rfl (fun ls hl => ?_)
      refine lv_goto (tgt := 2) hx hb dX4_fillGoals_81 (by decide) ?_
      exact ih2 _ _ _ _ (by omega) ⟨x16, fp13, rfl, (iv.m (by omega)), hfp13, hP.part [4, 0, 1, 2, 3, 5, 6] rfl, hD.part [4, 0, 1, 2, 3, 5, 6] (by decide) rfl, hS, lv_sub hl [0, 3, 4] rfl⟩
    · have c159 := i32_nle c15 rfl rfl
      refine lv_aload_n hx hb dX4_fillGoals_59 rfl (lv_at hl 3 rfl) ?_
      refine va_get (D := (dC, dI)) (ci := 4) (v := .ref o_table) (C := RX4) (T := TX4) (N := 12) hx hb hts iw_X4_fillGoals_X4 hown hK hP 4 rfl rfl 2 (by decide) (hts _ kk_X4_fillGoals_2) (fun _ h9 => h9) rfl dX4_fillGoals_60 ?_
      refine va_get (D := (dC, dI)) (ci := 8) (v := .ref table_a_entry) (C := RX8) (T := TX8) (N := 7) hx hb hts iw_X4_fillGoals_X8 hown hK hP 0 rfl rfl 0 (by decide) (hts _ kk_X4_fillGoals_3) (fun _ h9 => h9) rfl dX4_fillGoals_63 ?_
      refine lv_iconst (v := 1) hx hb dX4_fillGoals_66 (by decide) ?_
      refine lv_iload_n hx hb dX4_fillGoals_67 rfl (lv_at hl 1 rfl) ?_
      refine lv_iadd hx hb dX4_fillGoals_68 ?_
      refine lv_topi (fun x17 ex17 => ?_)
      have tx17 := i32_add ex17 (show (1 : Int32).toInt = 1 by decide) rfl (by omega) (by omega)
      have hinrw18 : vp_in x17 18 := (vq_in x17 18 (by omega))
      refine va_aldA hx hb hK hP 1 0 rfl rfl hinrw18 dX4_fillGoals_69 ?_
      refine px_v (row_sel hinrw18) ?_
      obtain ⟨rw18, erw18⟩ : ∃ z : Nat, z = R_table_a_entry (Int32.toNatClampNeg x17) := ⟨_, rfl⟩
      rw [← erw18]
      have mrw18 : rw18 ∈ LP ∧ sh rw18 = 13 := by rw [erw18]; exact hRR_table_a_entry _ (vin_lt hinrw18)
      refine lv_iload_n hx hb dX4_fillGoals_70 rfl (lv_at hl 2 rfl) ?_
      refine lv_iconst (v := 1) hx hb dX4_fillGoals_71 (by decide) ?_
      refine lv_iadd hx hb dX4_fillGoals_72 ?_
      refine lv_topi (fun x19 ex19 => ?_)
      have tx19 := i32_add ex19 rfl (show (1 : Int32).toInt = 1 by decide) (by omega) (by omega)
      refine lv_iload hx hb dX4_fillGoals_73 (lv_at hl 0 rfl) ?_
      refine lv_ineg hx hb dX4_fillGoals_75 ?_
      refine lv_topi (fun x20 ex20 => ?_)
      refine lv_i2l (v := (x20).toInt64) hx hb dX4_fillGoals_76 rfl ?_
      obtain ⟨gk21, hgk21⟩ := pok_13 (hfp13) mrw18
      obtain ⟨kk22, hkk22⟩ := va_pl_get (X := [(o_table, .inr (8, [.ref table_a_entry, .ref table_a_lineName, .ref table_a_columnName, .int table_v_goals, .int table_v_lines, .int table_v_columns, .long table_v_base])), (table_a_entry, .inl (k_table_a_entry, 18, .inr (.inr (.inr (.inr (rows_of 18 R_table_a_entry)))))), (a_columnSign, .inl (k_a_columnSign, 12, .inl f_a_columnSign)), (a_columnRate, .inl (k_a_columnRate, 12, .inl f_a_columnRate)), (o, .inr (4, [.ref a_above, .long v_aboveLower, .ref o_table, .ref a_columnSign, .ref a_columnRate, .ref a_columnRoom, .int v_columns, .int v_rooms, .ref o_hire, .int v_work, .int v_keptSign, .int v_joinedSign])), (o_hire, .inr (3, [.int hire_v_signs, .int hire_v_works, .int hire_v_whole, .int hire_v_otherwise, .int hire_v_least, .int hire_v_rates, .ref hire_a_brings, .ref hire_a_costs, .ref hire_a_chances, .ref hire_a_rate, .ref hire_a_mark])), (hire_a_chances, .inl (k_hire_a_chances, 5, .inr (.inr (.inr (.inr (rows_of 5 R_hire_a_chances))))))]) (f := fp13) mrw18.1
      have qkk22 := hkk22
      rw [hgk21] at qkk22
      have hDo := hD
      refine va_last hx hb hK hP hD hS kk22 5 qkk22 rfl (vq_in x19 13 (by omega)) dX4_fillGoals_77 (fun H locs hP hD hS => ?_)
      rw [va_pl_set hDo mrw18.1 hkk22] at hP hD
      have hfp23 := pok_up13 hfp13 mrw18 (Int32.toNatClampNeg x19) ((x20).toInt64) gk21
      generalize va_up fp13 rw18 _ = fp23 at hP hD hfp23
      have hP : va_P (dC, dI) vwCl ([(o_table, .inr (8, [.ref table_a_entry, .ref table_a_lineName, .ref table_a_columnName, .int table_v_goals, .int table_v_lines, .int table_v_columns, .long table_v_base])), (table_a_entry, .inl (k_table_a_entry, 18, .inr (.inr (.inr (.inr (rows_of 18 R_table_a_entry)))))), (a_columnSign, .inl (k_a_columnSign, 12, .inl f_a_columnSign)), (a_columnRate, .inl (k_a_columnRate, 12, .inl f_a_columnRate)), (o, .inr (4, [.ref a_above, .long v_aboveLower, .ref o_table, .ref a_columnSign, .ref a_columnRate, .ref a_columnRoom, .int v_columns, .int v_rooms, .ref o_hire, .int v_work, .int v_keptSign, .int v_joinedSign])), (o_hire, .inr (3, [.int hire_v_signs, .int hire_v_works, .int hire_v_whole, .int hire_v_otherwise, .int hire_v_least, .int hire_v_rates, .ref hire_a_brings, .ref hire_a_costs, .ref hire_a_chances, .ref hire_a_rate, .ref hire_a_mark])), (hire_a_chances, .inl (k_hire_a_chances, 5, .inr (.inr (.inr (.inr (rows_of 5 R_hire_a_chances))))))] ++ va_pl LP fp23) H := hP
      have hD : va_D A ([(o_table, .inr (8, [.ref table_a_entry, .ref table_a_lineName, .ref table_a_columnName, .int table_v_goals, .int table_v_lines, .int table_v_columns, .long table_v_base])), (table_a_entry, .inl (k_table_a_entry, 18, .inr (.inr (.inr (.inr (rows_of 18 R_table_a_entry)))))), (a_columnSign, .inl (k_a_columnSign, 12, .inl f_a_columnSign)), (a_columnRate, .inl (k_a_columnRate, 12, .inl f_a_columnRate)), (o, .inr (4, [.ref a_above, .long v_aboveLower, .ref o_table, .ref a_columnSign, .ref a_columnRate, .ref a_columnRoom, .int v_columns, .int v_rooms, .ref o_hire, .int v_work, .int v_keptSign, .int v_joinedSign])), (o_hire, .inr (3, [.int hire_v_signs, .int hire_v_works, .int hire_v_whole, .int hire_v_otherwise, .int hire_v_least, .int hire_v_rates, .ref hire_a_brings, .ref hire_a_costs, .ref hire_a_chances, .ref hire_a_rate, .ref hire_a_mark])), (hire_a_chances, .inl (k_hire_a_chances, 5, .inr (.inr (.inr (.inr (rows_of 5 R_hire_a_chances))))))] ++ va_pl LP fp23) := hD
      obtain ⟨x24, ex24⟩ : ∃ z : Int32, v1 + Int32.ofInt 1 = z := ⟨_, rfl⟩
      have tx24 := i32_inc ex24 rfl (by decide) (by omega) (by omega)
      refine lv_iinc (v := x24) (lv' := [(2, .int x24), (4, .int r5), (3, .int x4), (0, .ref o), (1, .int p0)]) hx hb dX4_fillGoals_78 hl (k := 2) rfl ex24 (by decide) rfl (fun ls hl => ?_)
      refine lv_goto (tgt := 2) hx hb dX4_fillGoals_81 (by decide) ?_
      exact ih2 _ _ _ _ (by omega) ⟨x24, fp23, rfl, (iv.m (by omega)), hfp23, hP.part [4, 0, 1, 2, 3, 5, 6] rfl, hD.part [4, 0, 1, 2, 3, 5, 6] (by decide) rfl, hS, lv_sub hl [0, 3, 4] rfl⟩

set_option maxHeartbeats 4000000 in
set_option maxRecDepth 100000 in
theorem ct_X4_fillLines (l : Launch) (dC : Nat → ClassId) (dI : Nat → Nat → Nat) (o : Nat) (p0 : Int32) (a_above : Nat) (v_aboveLower : Int64) (o_table : Nat) (a_columnSign : Nat) (a_columnRate : Nat) (a_columnRoom : Nat) (v_columns : Int32) (v_rooms : Int32) (o_hire : Nat) (v_work : Int32) (v_keptSign : Int32) (v_joinedSign : Int32) (table_a_entry : Nat) (table_a_lineName : Nat) (table_a_columnName : Nat) (table_v_goals : Int32) (table_v_lines : Int32) (table_v_columns : Int32) (table_v_base : Int64) (k_table_a_entry : ClassId) (R_table_a_entry : Nat → Nat) (k_a_columnSign : ClassId) (f_a_columnSign : Nat → Int32) (hire_v_signs : Int32) (hire_v_works : Int32) (hire_v_whole : Int32) (hire_v_otherwise : Int32) (hire_v_least : Int32) (hire_v_rates : Int32) (hire_a_brings : Nat) (hire_a_costs : Nat) (hire_a_chances : Nat) (hire_a_rate : Nat) (hire_a_mark : Nat) (k_hire_a_costs : ClassId) (f_hire_a_costs : Nat → Int32) (k_hire_a_chances : ClassId) (R_hire_a_chances : Nat → Nat) (k_hire_a_rate : ClassId) (f_hire_a_rate : Nat → Int32) (k_hire_a_mark : ClassId) (f_hire_a_mark : Nat → Int32) (LP : List Nat) (sh : Nat → Nat) (fp : Nat → va_E) (cI : ClassId) (cJ : ClassId) (hp0 : iv p0 1 5) (hv_columns : iv v_columns 0 12) (hv_work : iv v_work 0 4) (hv_keptSign : iv v_keptSign (-1) 3) (hv_joinedSign : iv v_joinedSign (-1) 3) (hf_a_columnSign : ivf f_a_columnSign 0 3) (hhire_v_works : iv hire_v_works 0 5) (hhire_v_whole : iv hire_v_whole 2 10) (hhire_v_rates : iv hire_v_rates 1 3) (hfp : pok cI cJ LP sh fp) (hRR_table_a_entry : ∀ i : Nat, i < 18 → R_table_a_entry i ∈ LP ∧ sh (R_table_a_entry i) = 13) (hRR_hire_a_chances : ∀ i : Nat, i < 5 → R_hire_a_chances i ∈ LP ∧ sh (R_hire_a_chances i) = 104) (hkj : v_keptSign.toInt = -1 ∨ 0 ≤ v_joinedSign.toInt) (sz : Nat) : Met l yX4_fillLines wsX4_fillLines ({ frames := 3, cells := 0, slots := 0, locals := 60 }) (va_Pc [.ref o, .int p0] (fun U => U.heap.size = sz ∧ va_P (dC, dI) vwCl ([(o, .inr (4, [.ref a_above, .long v_aboveLower, .ref o_table, .ref a_columnSign, .ref a_columnRate, .ref a_columnRoom, .int v_columns, .int v_rooms, .ref o_hire, .int v_work, .int v_keptSign, .int v_joinedSign])), (o_table, .inr (8, [.ref table_a_entry, .ref table_a_lineName, .ref table_a_columnName, .int table_v_goals, .int table_v_lines, .int table_v_columns, .long table_v_base])), (table_a_entry, .inl (k_table_a_entry, 18, .inr (.inr (.inr (.inr (rows_of 18 R_table_a_entry)))))), (a_columnSign, .inl (k_a_columnSign, 12, .inl f_a_columnSign)), (o_hire, .inr (3, [.int hire_v_signs, .int hire_v_works, .int hire_v_whole, .int hire_v_otherwise, .int hire_v_least, .int hire_v_rates, .ref hire_a_brings, .ref hire_a_costs, .ref hire_a_chances, .ref hire_a_rate, .ref hire_a_mark])), (hire_a_costs, .inl (k_hire_a_costs, 5, .inl f_hire_a_costs)), (hire_a_chances, .inl (k_hire_a_chances, 5, .inr (.inr (.inr (.inr (rows_of 5 R_hire_a_chances)))))), (hire_a_rate, .inl (k_hire_a_rate, 3, .inl f_hire_a_rate)), (hire_a_mark, .inl (k_hire_a_mark, 2, .inl f_hire_a_mark))] ++ va_pl LP fp) U.heap ∧ va_K (dC, dI) vwCl [(k_table_a_entry, (.array .long)), (k_a_columnSign, .int), (k_hire_a_costs, .int), (k_hire_a_chances, (.array .int)), (k_hire_a_rate, .int), (k_hire_a_mark, .int), (cI, .int), (cJ, .long)] U ∧ va_D (fun _ => True) ([(o, .inr (4, [.ref a_above, .long v_aboveLower, .ref o_table, .ref a_columnSign, .ref a_columnRate, .ref a_columnRoom, .int v_columns, .int v_rooms, .ref o_hire, .int v_work, .int v_keptSign, .int v_joinedSign])), (o_table, .inr (8, [.ref table_a_entry, .ref table_a_lineName, .ref table_a_columnName, .int table_v_goals, .int table_v_lines, .int table_v_columns, .long table_v_base])), (table_a_entry, .inl (k_table_a_entry, 18, .inr (.inr (.inr (.inr (rows_of 18 R_table_a_entry)))))), (a_columnSign, .inl (k_a_columnSign, 12, .inl f_a_columnSign)), (o_hire, .inr (3, [.int hire_v_signs, .int hire_v_works, .int hire_v_whole, .int hire_v_otherwise, .int hire_v_least, .int hire_v_rates, .ref hire_a_brings, .ref hire_a_costs, .ref hire_a_chances, .ref hire_a_rate, .ref hire_a_mark])), (hire_a_costs, .inl (k_hire_a_costs, 5, .inl f_hire_a_costs)), (hire_a_chances, .inl (k_hire_a_chances, 5, .inr (.inr (.inr (.inr (rows_of 5 R_hire_a_chances)))))), (hire_a_rate, .inl (k_hire_a_rate, 3, .inl f_hire_a_rate)), (hire_a_mark, .inl (k_hire_a_mark, 2, .inl f_hire_a_mark))] ++ va_pl LP fp))) (va_Qv (fun _ : Unit => True) (fun _ t => ∃ (e_fp : Nat → va_E), pok cI cJ LP sh e_fp ∧ va_P (dC, dI) vwCl ([(o, .inr (4, [.ref a_above, .long v_aboveLower, .ref o_table, .ref a_columnSign, .ref a_columnRate, .ref a_columnRoom, .int v_columns, .int v_rooms, .ref o_hire, .int v_work, .int v_keptSign, .int v_joinedSign])), (o_table, .inr (8, [.ref table_a_entry, .ref table_a_lineName, .ref table_a_columnName, .int table_v_goals, .int table_v_lines, .int table_v_columns, .long table_v_base])), (table_a_entry, .inl (k_table_a_entry, 18, .inr (.inr (.inr (.inr (rows_of 18 R_table_a_entry)))))), (a_columnSign, .inl (k_a_columnSign, 12, .inl f_a_columnSign)), (o_hire, .inr (3, [.int hire_v_signs, .int hire_v_works, .int hire_v_whole, .int hire_v_otherwise, .int hire_v_least, .int hire_v_rates, .ref hire_a_brings, .ref hire_a_costs, .ref hire_a_chances, .ref hire_a_rate, .ref hire_a_mark])), (hire_a_costs, .inl (k_hire_a_costs, 5, .inl f_hire_a_costs)), (hire_a_chances, .inl (k_hire_a_chances, 5, .inr (.inr (.inr (.inr (rows_of 5 R_hire_a_chances)))))), (hire_a_rate, .inl (k_hire_a_rate, 3, .inl f_hire_a_rate)), (hire_a_mark, .inl (k_hire_a_mark, 2, .inl f_hire_a_mark))] ++ va_pl LP e_fp) t.heap ∧ va_D (va_A ([(o, .inr (4, [.ref a_above, .long v_aboveLower, .ref o_table, .ref a_columnSign, .ref a_columnRate, .ref a_columnRoom, .int v_columns, .int v_rooms, .ref o_hire, .int v_work, .int v_keptSign, .int v_joinedSign])), (o_table, .inr (8, [.ref table_a_entry, .ref table_a_lineName, .ref table_a_columnName, .int table_v_goals, .int table_v_lines, .int table_v_columns, .long table_v_base])), (table_a_entry, .inl (k_table_a_entry, 18, .inr (.inr (.inr (.inr (rows_of 18 R_table_a_entry)))))), (a_columnSign, .inl (k_a_columnSign, 12, .inl f_a_columnSign)), (o_hire, .inr (3, [.int hire_v_signs, .int hire_v_works, .int hire_v_whole, .int hire_v_otherwise, .int hire_v_least, .int hire_v_rates, .ref hire_a_brings, .ref hire_a_costs, .ref hire_a_chances, .ref hire_a_rate, .ref hire_a_mark])), (hire_a_costs, .inl (k_hire_a_costs, 5, .inl f_hire_a_costs)), (hire_a_chances, .inl (k_hire_a_chances, 5, .inr (.inr (.inr (.inr (rows_of 5 R_hire_a_chances)))))), (hire_a_rate, .inl (k_hire_a_rate, 3, .inl f_hire_a_rate)), (hire_a_mark, .inl (k_hire_a_mark, 2, .inl f_hire_a_mark))] ++ va_pl LP fp) sz) ([(o, .inr (4, [.ref a_above, .long v_aboveLower, .ref o_table, .ref a_columnSign, .ref a_columnRate, .ref a_columnRoom, .int v_columns, .int v_rooms, .ref o_hire, .int v_work, .int v_keptSign, .int v_joinedSign])), (o_table, .inr (8, [.ref table_a_entry, .ref table_a_lineName, .ref table_a_columnName, .int table_v_goals, .int table_v_lines, .int table_v_columns, .long table_v_base])), (table_a_entry, .inl (k_table_a_entry, 18, .inr (.inr (.inr (.inr (rows_of 18 R_table_a_entry)))))), (a_columnSign, .inl (k_a_columnSign, 12, .inl f_a_columnSign)), (o_hire, .inr (3, [.int hire_v_signs, .int hire_v_works, .int hire_v_whole, .int hire_v_otherwise, .int hire_v_least, .int hire_v_rates, .ref hire_a_brings, .ref hire_a_costs, .ref hire_a_chances, .ref hire_a_rate, .ref hire_a_mark])), (hire_a_costs, .inl (k_hire_a_costs, 5, .inl f_hire_a_costs)), (hire_a_chances, .inl (k_hire_a_chances, 5, .inr (.inr (.inr (.inr (rows_of 5 R_hire_a_chances)))))), (hire_a_rate, .inl (k_hire_a_rate, 3, .inl f_hire_a_rate)), (hire_a_mark, .inl (k_hire_a_mark, 2, .inl f_hire_a_mark))] ++ va_pl LP e_fp)) (va_A ([(o, .inr (4, [.ref a_above, .long v_aboveLower, .ref o_table, .ref a_columnSign, .ref a_columnRate, .ref a_columnRoom, .int v_columns, .int v_rooms, .ref o_hire, .int v_work, .int v_keptSign, .int v_joinedSign])), (o_table, .inr (8, [.ref table_a_entry, .ref table_a_lineName, .ref table_a_columnName, .int table_v_goals, .int table_v_lines, .int table_v_columns, .long table_v_base])), (table_a_entry, .inl (k_table_a_entry, 18, .inr (.inr (.inr (.inr (rows_of 18 R_table_a_entry)))))), (a_columnSign, .inl (k_a_columnSign, 12, .inl f_a_columnSign)), (o_hire, .inr (3, [.int hire_v_signs, .int hire_v_works, .int hire_v_whole, .int hire_v_otherwise, .int hire_v_least, .int hire_v_rates, .ref hire_a_brings, .ref hire_a_costs, .ref hire_a_chances, .ref hire_a_rate, .ref hire_a_mark])), (hire_a_costs, .inl (k_hire_a_costs, 5, .inl f_hire_a_costs)), (hire_a_chances, .inl (k_hire_a_chances, 5, .inr (.inr (.inr (.inr (rows_of 5 R_hire_a_chances)))))), (hire_a_rate, .inl (k_hire_a_rate, 3, .inl f_hire_a_rate)), (hire_a_mark, .inl (k_hire_a_mark, 2, .inl f_hire_a_mark))] ++ va_pl LP fp) sz)) 0 0 (va_A ([(o, .inr (4, [.ref a_above, .long v_aboveLower, .ref o_table, .ref a_columnSign, .ref a_columnRate, .ref a_columnRoom, .int v_columns, .int v_rooms, .ref o_hire, .int v_work, .int v_keptSign, .int v_joinedSign])), (o_table, .inr (8, [.ref table_a_entry, .ref table_a_lineName, .ref table_a_columnName, .int table_v_goals, .int table_v_lines, .int table_v_columns, .long table_v_base])), (table_a_entry, .inl (k_table_a_entry, 18, .inr (.inr (.inr (.inr (rows_of 18 R_table_a_entry)))))), (a_columnSign, .inl (k_a_columnSign, 12, .inl f_a_columnSign)), (o_hire, .inr (3, [.int hire_v_signs, .int hire_v_works, .int hire_v_whole, .int hire_v_otherwise, .int hire_v_least, .int hire_v_rates, .ref hire_a_brings, .ref hire_a_costs, .ref hire_a_chances, .ref hire_a_rate, .ref hire_a_mark])), (hire_a_costs, .inl (k_hire_a_costs, 5, .inl f_hire_a_costs)), (hire_a_chances, .inl (k_hire_a_chances, 5, .inr (.inr (.inr (.inr (rows_of 5 R_hire_a_chances)))))), (hire_a_rate, .inl (k_hire_a_rate, 3, .inl f_hire_a_rate)), (hire_a_mark, .inl (k_hire_a_mark, 2, .inl f_hire_a_mark))] ++ va_pl LP fp) sz) := by
  refine Met.ofW (cc := cX4_fillLines) (maxL := 6) (ret := none) (by decide) rfl ?_
  intro p e s m args below meth c s₁ B hml hv
  obtain ⟨rfl, hsz, hP, hK, hD0⟩ := hv
  have hx := B.exec
  have hb := B.bytes
  have hr := B.returns
  have hts := atoms_spec (ws := wsX4_fillLines) B.pre
  have hown : s.vm.findClass RX4 = some m.cls := findClass_of_methodNamed B.named
  have hlocks := B.notSynchronized
  subst hsz
  have hD := hD0.self (sz := s.heap.size)
  generalize hAe : va_A ([(o, .inr (4, [.ref a_above, .long v_aboveLower, .ref o_table, .ref a_columnSign, .ref a_columnRate, .ref a_columnRoom, .int v_columns, .int v_rooms, .ref o_hire, .int v_work, .int v_keptSign, .int v_joinedSign])), (o_table, .inr (8, [.ref table_a_entry, .ref table_a_lineName, .ref table_a_columnName, .int table_v_goals, .int table_v_lines, .int table_v_columns, .long table_v_base])), (table_a_entry, .inl (k_table_a_entry, 18, .inr (.inr (.inr (.inr (rows_of 18 R_table_a_entry)))))), (a_columnSign, .inl (k_a_columnSign, 12, .inl f_a_columnSign)), (o_hire, .inr (3, [.int hire_v_signs, .int hire_v_works, .int hire_v_whole, .int hire_v_otherwise, .int hire_v_least, .int hire_v_rates, .ref hire_a_brings, .ref hire_a_costs, .ref hire_a_chances, .ref hire_a_rate, .ref hire_a_mark])), (hire_a_costs, .inl (k_hire_a_costs, 5, .inl f_hire_a_costs)), (hire_a_chances, .inl (k_hire_a_chances, 5, .inr (.inr (.inr (.inr (rows_of 5 R_hire_a_chances)))))), (hire_a_rate, .inl (k_hire_a_rate, 3, .inl f_hire_a_rate)), (hire_a_mark, .inl (k_hire_a_mark, 2, .inl f_hire_a_mark))] ++ va_pl LP fp) s.heap.size = A at hD ⊢
  have hA : ∀ q : Nat, s.heap.size ≤ q → A q := fun q h => by rw [← hAe]; exact Or.inr h
  have hS : va_S A s.heap s.heap [] := va_S.rf
  have hP : va_P (dC, dI) vwCl ([(o, .inr (4, [.ref a_above, .long v_aboveLower, .ref o_table, .ref a_columnSign, .ref a_columnRate, .ref a_columnRoom, .int v_columns, .int v_rooms, .ref o_hire, .int v_work, .int v_keptSign, .int v_joinedSign])), (o_table, .inr (8, [.ref table_a_entry, .ref table_a_lineName, .ref table_a_columnName, .int table_v_goals, .int table_v_lines, .int table_v_columns, .long table_v_base])), (table_a_entry, .inl (k_table_a_entry, 18, .inr (.inr (.inr (.inr (rows_of 18 R_table_a_entry)))))), (a_columnSign, .inl (k_a_columnSign, 12, .inl f_a_columnSign)), (o_hire, .inr (3, [.int hire_v_signs, .int hire_v_works, .int hire_v_whole, .int hire_v_otherwise, .int hire_v_least, .int hire_v_rates, .ref hire_a_brings, .ref hire_a_costs, .ref hire_a_chances, .ref hire_a_rate, .ref hire_a_mark])), (hire_a_costs, .inl (k_hire_a_costs, 5, .inl f_hire_a_costs)), (hire_a_chances, .inl (k_hire_a_chances, 5, .inr (.inr (.inr (.inr (rows_of 5 R_hire_a_chances)))))), (hire_a_rate, .inl (k_hire_a_rate, 3, .inl f_hire_a_rate)), (hire_a_mark, .inl (k_hire_a_mark, 2, .inl f_hire_a_mark))] ++ va_pl LP fp) s.heap := hP
  have hl := lv_entry ([.ref o, .int p0]) (n := 6) (Nat.le_of_ble_eq_true rfl)
  rw [lg_entry_eq]
  generalize (lg_sl ([.ref o, .int p0]) ++ List.replicate (6 - (lg_sl ([.ref o, .int p0])).length) Slot.unset).toArray = ls at hl ⊢
  have hl : lv_has ls 6 [(0, .ref o), (1, .int p0)] := hl
  refine lv_iconst (v := 0) hx hb dX4_fillLines_0 (by decide) ?_
  refine lv_istore_n (lv' := [(2, .int 0), (0, .ref o), (1, .int p0)]) hx hb dX4_fillLines_1 rfl hl (by decide) rfl (fun ls hl => ?_)
  refine tl_loop (I := fun nn H locs ls => ∃ (v1 : Int32) (f2 : Nat → va_E), nn = (5 - v1.toInt).toNat ∧ iv v1 0 5 ∧ pok cI cJ LP sh f2 ∧  va_P (dC, dI) vwCl ([(o, .inr (4, [.ref a_above, .long v_aboveLower, .ref o_table, .ref a_columnSign, .ref a_columnRate, .ref a_columnRoom, .int v_columns, .int v_rooms, .ref o_hire, .int v_work, .int v_keptSign, .int v_joinedSign])), (o_table, .inr (8, [.ref table_a_entry, .ref table_a_lineName, .ref table_a_columnName, .int table_v_goals, .int table_v_lines, .int table_v_columns, .long table_v_base])), (table_a_entry, .inl (k_table_a_entry, 18, .inr (.inr (.inr (.inr (rows_of 18 R_table_a_entry)))))), (a_columnSign, .inl (k_a_columnSign, 12, .inl f_a_columnSign)), (o_hire, .inr (3, [.int hire_v_signs, .int hire_v_works, .int hire_v_whole, .int hire_v_otherwise, .int hire_v_least, .int hire_v_rates, .ref hire_a_brings, .ref hire_a_costs, .ref hire_a_chances, .ref hire_a_rate, .ref hire_a_mark])), (hire_a_costs, .inl (k_hire_a_costs, 5, .inl f_hire_a_costs)), (hire_a_chances, .inl (k_hire_a_chances, 5, .inr (.inr (.inr (.inr (rows_of 5 R_hire_a_chances)))))), (hire_a_rate, .inl (k_hire_a_rate, 3, .inl f_hire_a_rate)), (hire_a_mark, .inl (k_hire_a_mark, 2, .inl f_hire_a_mark))] ++ va_pl LP f2) H ∧ va_D A ([(o, .inr (4, [.ref a_above, .long v_aboveLower, .ref o_table, .ref a_columnSign, .ref a_columnRate, .ref a_columnRoom, .int v_columns, .int v_rooms, .ref o_hire, .int v_work, .int v_keptSign, .int v_joinedSign])), (o_table, .inr (8, [.ref table_a_entry, .ref table_a_lineName, .ref table_a_columnName, .int table_v_goals, .int table_v_lines, .int table_v_columns, .long table_v_base])), (table_a_entry, .inl (k_table_a_entry, 18, .inr (.inr (.inr (.inr (rows_of 18 R_table_a_entry)))))), (a_columnSign, .inl (k_a_columnSign, 12, .inl f_a_columnSign)), (o_hire, .inr (3, [.int hire_v_signs, .int hire_v_works, .int hire_v_whole, .int hire_v_otherwise, .int hire_v_least, .int hire_v_rates, .ref hire_a_brings, .ref hire_a_costs, .ref hire_a_chances, .ref hire_a_rate, .ref hire_a_mark])), (hire_a_costs, .inl (k_hire_a_costs, 5, .inl f_hire_a_costs)), (hire_a_chances, .inl (k_hire_a_chances, 5, .inr (.inr (.inr (.inr (rows_of 5 R_hire_a_chances)))))), (hire_a_rate, .inl (k_hire_a_rate, 3, .inl f_hire_a_rate)), (hire_a_mark, .inl (k_hire_a_mark, 2, .inl f_hire_a_mark))] ++ va_pl LP f2) ∧ va_S A s.heap H locs ∧ lv_has ls 6 [(2, .int v1), (0, .ref o), (1, .int p0)]) ?_ ⟨0, fp, rfl, (iv.m (by decide)), hfp, hP, hD, hS, lv_sub hl [0, 1, 2] rfl⟩
  clear hP hD hS hl
  intro nn2 H locs ls hI ih2
  obtain ⟨v1, f2, hn2, hv1, hf2, hP, hD, hS, hl⟩ := hI
  have bv1 := hv1.u
  refine lv_iload_n hx hb dX4_fillLines_2 rfl (lv_at hl 0 rfl) ?_
  refine lv_aload_n hx hb dX4_fillLines_3 rfl (lv_at hl 1 rfl) ?_
  refine va_get (D := (dC, dI)) (ci := 4) (v := .ref o_hire) (C := RX4) (T := TX4) (N := 12) hx hb hts iw_X4_fillLines_X4 hown hK hP 0 rfl rfl 8 (by decide) (hts _ kk_X4_fillLines_0) (fun _ h9 => h9) rfl dX4_fillLines_4 ?_
  refine va_get (D := (dC, dI)) (ci := 3) (v := .int hire_v_works) (C := RX3) (T := TX3) (N := 11) hx hb hts iw_X4_fillLines_X3 hown hK hP 4 rfl rfl 1 (by decide) (hts _ kk_X4_fillLines_1) (fun _ h9 => h9) rfl dX4_fillLines_7 ?_
  have bhire_v_works := hhire_v_works.u
  refine lv_icmp_ge (tgt := 121) hx hb dX4_fillLines_10 (by decide) (fun c3 => ?_) (fun c3 => ?_)
  · have c39 := i32_le c3 rfl rfl
    have hP9 := hP.part (cx := [(o, .inr (4, [.ref a_above, .long v_aboveLower, .ref o_table, .ref a_columnSign, .ref a_columnRate, .ref a_columnRoom, .int v_columns, .int v_rooms, .ref o_hire, .int v_work, .int v_keptSign, .int v_joinedSign])), (o_table, .inr (8, [.ref table_a_entry, .ref table_a_lineName, .ref table_a_columnName, .int table_v_goals, .int table_v_lines, .int table_v_columns, .long table_v_base])), (table_a_entry, .inl (k_table_a_entry, 18, .inr (.inr (.inr (.inr (rows_of 18 R_table_a_entry)))))), (a_columnSign, .inl (k_a_columnSign, 12, .inl f_a_columnSign)), (o_hire, .inr (3, [.int hire_v_signs, .int hire_v_works, .int hire_v_whole, .int hire_v_otherwise, .int hire_v_least, .int hire_v_rates, .ref hire_a_brings, .ref hire_a_costs, .ref hire_a_chances, .ref hire_a_rate, .ref hire_a_mark])), (hire_a_costs, .inl (k_hire_a_costs, 5, .inl f_hire_a_costs)), (hire_a_chances, .inl (k_hire_a_chances, 5, .inr (.inr (.inr (.inr (rows_of 5 R_hire_a_chances)))))), (hire_a_rate, .inl (k_hire_a_rate, 3, .inl f_hire_a_rate)), (hire_a_mark, .inl (k_hire_a_mark, 2, .inl f_hire_a_mark))]) [0, 1, 2, 3, 4, 5, 6, 7, 8] rfl
    have hD9 := hD.part (cx := [(o, .inr (4, [.ref a_above, .long v_aboveLower, .ref o_table, .ref a_columnSign, .ref a_columnRate, .ref a_columnRoom, .int v_columns, .int v_rooms, .ref o_hire, .int v_work, .int v_keptSign, .int v_joinedSign])), (o_table, .inr (8, [.ref table_a_entry, .ref table_a_lineName, .ref table_a_columnName, .int table_v_goals, .int table_v_lines, .int table_v_columns, .long table_v_base])), (table_a_entry, .inl (k_table_a_entry, 18, .inr (.inr (.inr (.inr (rows_of 18 R_table_a_entry)))))), (a_columnSign, .inl (k_a_columnSign, 12, .inl f_a_columnSign)), (o_hire, .inr (3, [.int hire_v_signs, .int hire_v_works, .int hire_v_whole, .int hire_v_otherwise, .int hire_v_least, .int hire_v_rates, .ref hire_a_brings, .ref hire_a_costs, .ref hire_a_chances, .ref hire_a_rate, .ref hire_a_mark])), (hire_a_costs, .inl (k_hire_a_costs, 5, .inl f_hire_a_costs)), (hire_a_chances, .inl (k_hire_a_chances, 5, .inr (.inr (.inr (.inr (rows_of 5 R_hire_a_chances)))))), (hire_a_rate, .inl (k_hire_a_rate, 3, .inl f_hire_a_rate)), (hire_a_mark, .inl (k_hire_a_mark, 2, .inl f_hire_a_mark))]) [0, 1, 2, 3, 4, 5, 6, 7, 8] (by decide) rfl
    exact W.vret hx hb hr (fun t ht hW => ⟨⟨(), rfl, trivial, f2, hf2, by rw [ht]; exact hP9, hD9⟩, hS.F ht⟩) hS.2.2 dX4_fillLines_121
  · have c39 := i32_nle c3 rfl rfl
    refine lv_aload_n hx hb dX4_fillLines_13 rfl (lv_at hl 1 rfl) ?_
    refine va_get (D := (dC, dI)) (ci := 4) (v := .ref o_table) (C := RX4) (T := TX4) (N := 12) hx hb hts iw_X4_fillLines_X4 hown hK hP 0 rfl rfl 2 (by decide) (hts _ kk_X4_fillLines_2) (fun _ h9 => h9) rfl dX4_fillLines_14 ?_
    refine va_get (D := (dC, dI)) (ci := 8) (v := .ref table_a_entry) (C := RX8) (T := TX8) (N := 7) hx hb hts iw_X4_fillLines_X8 hown hK hP 1 rfl rfl 0 (by decide) (hts _ kk_X4_fillLines_3) (fun _ h9 => h9) rfl dX4_fillLines_17 ?_
    refine lv_iload_n hx hb dX4_fillLines_20 rfl (lv_at hl 2 rfl) ?_
    refine lv_iload_n hx hb dX4_fillLines_21 rfl (lv_at hl 0 rfl) ?_
    refine lv_iadd hx hb dX4_fillLines_22 ?_
    refine lv_topi (fun x4 ex4 => ?_)
    have bp0 := hp0.u
    have tx4 := i32_add ex4 rfl rfl (by omega) (by omega)
    have hinrw5 : vp_in x4 18 := (vq_in x4 18 (by omega))
    refine va_aldA hx hb hK hP 2 0 rfl rfl hinrw5 dX4_fillLines_23 ?_
    refine px_v (row_sel hinrw5) ?_
    obtain ⟨rw5, erw5⟩ : ∃ z : Nat, z = R_table_a_entry (Int32.toNatClampNeg x4) := ⟨_, rfl⟩
    rw [← erw5]
    have mrw5 : rw5 ∈ LP ∧ sh rw5 = 13 := by rw [erw5]; exact hRR_table_a_entry _ (vin_lt hinrw5)
    refine lv_astore_n (lv' := [(3, .ref rw5), (2, .int v1), (0, .ref o), (1, .int p0)]) hx hb dX4_fillLines_24 rfl hl (by decide) rfl (fun ls hl => ?_)
    refine lv_aload_n hx hb dX4_fillLines_25 rfl (lv_at hl 0 rfl) ?_
    refine lv_iconst (v := 0) hx hb dX4_fillLines_26 (by decide) ?_
    refine lv_aload_n hx hb dX4_fillLines_27 rfl (lv_at hl 2 rfl) ?_
    refine va_get (D := (dC, dI)) (ci := 4) (v := .ref o_hire) (C := RX4) (T := TX4) (N := 12) hx hb hts iw_X4_fillLines_X4 hown hK hP 0 rfl rfl 8 (by decide) (hts _ kk_X4_fillLines_0) (fun _ h9 => h9) rfl dX4_fillLines_28 ?_
    refine va_get (D := (dC, dI)) (ci := 3) (v := .int hire_v_whole) (C := RX3) (T := TX3) (N := 11) hx hb hts iw_X4_fillLines_X3 hown hK hP 4 rfl rfl 2 (by decide) (hts _ kk_X4_fillLines_4) (fun _ h9 => h9) rfl dX4_fillLines_31 ?_
    refine lv_i2l (v := (hire_v_whole).toInt64) hx hb dX4_fillLines_34 rfl ?_
    refine lv_lneg hx hb dX4_fillLines_35 ?_
    refine lv_topl (fun y6 ey6 => ?_)
    have hy6 : jv y6 (-10) (-2) := jv.neg ey6 (jv.i (show iv hire_v_whole 2 10 from hhire_v_whole)) (by decide) (by decide) (by decide) (by decide)
    refine lv_aload_n hx hb dX4_fillLines_36 rfl (lv_at hl 2 rfl) ?_
    refine va_get (D := (dC, dI)) (ci := 4) (v := .ref o_hire) (C := RX4) (T := TX4) (N := 12) hx hb hts iw_X4_fillLines_X4 hown hK hP 0 rfl rfl 8 (by decide) (hts _ kk_X4_fillLines_0) (fun _ h9 => h9) rfl dX4_fillLines_37 ?_
    refine lv_aload_n hx hb dX4_fillLines_40 rfl (lv_at hl 2 rfl) ?_
    refine va_get (D := (dC, dI)) (ci := 4) (v := .int v_work) (C := RX4) (T := TX4) (N := 12) hx hb hts iw_X4_fillLines_X4 hown hK hP 0 rfl rfl 9 (by decide) (hts _ kk_X4_fillLines_5) (fun _ h9 => h9) rfl dX4_fillLines_41 ?_
    refine lv_iload_n hx hb dX4_fillLines_44 rfl (lv_at hl 1 rfl) ?_
    have hPc := hP.sub (ws' := [(o_hire, .inr (3, [.int hire_v_signs, .int hire_v_works, .int hire_v_whole, .int hire_v_otherwise, .int hire_v_least, .int hire_v_rates, .ref hire_a_brings, .ref hire_a_costs, .ref hire_a_chances, .ref hire_a_rate, .ref hire_a_mark])), (hire_a_costs, .inl (k_hire_a_costs, 5, .inl f_hire_a_costs)), (hire_a_rate, .inl (k_hire_a_rate, 3, .inl f_hire_a_rate)), (hire_a_mark, .inl (k_hire_a_mark, 2, .inl f_hire_a_mark))]) [4, 5, 7, 8] rfl
    have hDc := hD.sub (ws' := [(o_hire, .inr (3, [.int hire_v_signs, .int hire_v_works, .int hire_v_whole, .int hire_v_otherwise, .int hire_v_least, .int hire_v_rates, .ref hire_a_brings, .ref hire_a_costs, .ref hire_a_chances, .ref hire_a_rate, .ref hire_a_mark])), (hire_a_costs, .inl (k_hire_a_costs, 5, .inl f_hire_a_costs)), (hire_a_rate, .inl (k_hire_a_rate, 3, .inl f_hire_a_rate)), (hire_a_mark, .inl (k_hire_a_mark, 2, .inl f_hire_a_mark))]) [4, 5, 7, 8] (by decide) rfl
    have hKc := hK.sub (tys' := [(k_hire_a_costs, .int), (k_hire_a_rate, .int), (k_hire_a_mark, .int)]) [2, 4, 5] rfl
    have hFc := va_free (wc := [(o_hire, .inr (3, [.int hire_v_signs, .int hire_v_works, .int hire_v_whole, .int hire_v_otherwise, .int hire_v_least, .int hire_v_rates, .ref hire_a_brings, .ref hire_a_costs, .ref hire_a_chances, .ref hire_a_rate, .ref hire_a_mark])), (hire_a_costs, .inl (k_hire_a_costs, 5, .inl f_hire_a_costs)), (hire_a_rate, .inl (k_hire_a_rate, 3, .inl f_hire_a_rate)), (hire_a_mark, .inl (k_hire_a_mark, 2, .inl f_hire_a_mark))]) hD hS hA [4, 5, 7, 8] rfl
    refine va_calli (va_runV (As := [.int v_work, .int v1]) (rest := [.long y6, .int 0, .ref rw5]) ⟨hx, hb, hml, hown, hts⟩ (ct_X3_lackOf l dC dI o_hire v_work v1 hire_v_signs hire_v_works hire_v_whole hire_v_otherwise hire_v_least hire_v_rates hire_a_brings hire_a_costs hire_a_chances hire_a_rate hire_a_mark k_hire_a_costs f_hire_a_costs k_hire_a_rate f_hire_a_rate k_hire_a_mark f_hire_a_mark hv_work (iv.m (by omega)) hhire_v_rates H.size) (cwV 2 hts gX4_fillLines_X3_lackOf rfl rfl rfl (by decide +kernel) ⟨Nat.le_of_ble_eq_true rfl, Nat.le_of_ble_eq_true rfl⟩) ⟨fun a U g mk q => by obtain ⟨q0, q1, qP, qK, qD⟩ := q; exact ⟨q0, q1, qP, va_K.moved (u := U) (U := U.calling g mk a) (Vm.Alike.refl U.vm) qK, qD⟩, va_recv hKc hPc (ci := 3) (q0 := 0) rfl rfl, fun U hU hW => ⟨rfl, by rw [hU], by rw [hU]; exact hPc, va_K.moved hW.alike hKc, hDc.weaken (fun _ _ _ _ => trivial)⟩⟩ rfl rfl hl.1 rfl (lv_room (Nat.le_of_ble_eq_true rfl)) dX4_fillLines_45 ⟨Nat.le_of_ble_eq_true rfl, Nat.le_of_ble_eq_true rfl⟩) hS (fun q _ h => hFc q h) hFc (fun r7 u t H1 locs ht hvm hw hB hz1 hk1 hS => ?_)
    have hw : r7 = u := hw.symm
    subst hw
    obtain ⟨hP1, hD1⟩ := hB
    rw [ht] at hP1
    obtain ⟨hP, hD⟩ := va_joinQ (X := [(o, .inr (4, [.ref a_above, .long v_aboveLower, .ref o_table, .ref a_columnSign, .ref a_columnRate, .ref a_columnRoom, .int v_columns, .int v_rooms, .ref o_hire, .int v_work, .int v_keptSign, .int v_joinedSign])), (o_table, .inr (8, [.ref table_a_entry, .ref table_a_lineName, .ref table_a_columnName, .int table_v_goals, .int table_v_lines, .int table_v_columns, .long table_v_base])), (table_a_entry, .inl (k_table_a_entry, 18, .inr (.inr (.inr (.inr (rows_of 18 R_table_a_entry)))))), (a_columnSign, .inl (k_a_columnSign, 12, .inl f_a_columnSign)), (o_hire, .inr (3, [.int hire_v_signs, .int hire_v_works, .int hire_v_whole, .int hire_v_otherwise, .int hire_v_least, .int hire_v_rates, .ref hire_a_brings, .ref hire_a_costs, .ref hire_a_chances, .ref hire_a_rate, .ref hire_a_mark])), (hire_a_costs, .inl (k_hire_a_costs, 5, .inl f_hire_a_costs)), (hire_a_chances, .inl (k_hire_a_chances, 5, .inr (.inr (.inr (.inr (rows_of 5 R_hire_a_chances)))))), (hire_a_rate, .inl (k_hire_a_rate, 3, .inl f_hire_a_rate)), (hire_a_mark, .inl (k_hire_a_mark, 2, .inl f_hire_a_mark))]) (cx := [(o_hire, .inr (3, [.int hire_v_signs, .int hire_v_works, .int hire_v_whole, .int hire_v_otherwise, .int hire_v_least, .int hire_v_rates, .ref hire_a_brings, .ref hire_a_costs, .ref hire_a_chances, .ref hire_a_rate, .ref hire_a_mark])), (hire_a_costs, .inl (k_hire_a_costs, 5, .inl f_hire_a_costs)), (hire_a_rate, .inl (k_hire_a_rate, 3, .inl f_hire_a_rate)), (hire_a_mark, .inl (k_hire_a_mark, 2, .inl f_hire_a_mark))]) (wr := [(o, .inr (4, [.ref a_above, .long v_aboveLower, .ref o_table, .ref a_columnSign, .ref a_columnRate, .ref a_columnRoom, .int v_columns, .int v_rooms, .ref o_hire, .int v_work, .int v_keptSign, .int v_joinedSign])), (o_table, .inr (8, [.ref table_a_entry, .ref table_a_lineName, .ref table_a_columnName, .int table_v_goals, .int table_v_lines, .int table_v_columns, .long table_v_base])), (table_a_entry, .inl (k_table_a_entry, 18, .inr (.inr (.inr (.inr (rows_of 18 R_table_a_entry)))))), (a_columnSign, .inl (k_a_columnSign, 12, .inl f_a_columnSign)), (hire_a_chances, .inl (k_hire_a_chances, 5, .inr (.inr (.inr (.inr (rows_of 5 R_hire_a_chances))))))]) (w1 := [(o_hire, .inr (3, [.int hire_v_signs, .int hire_v_works, .int hire_v_whole, .int hire_v_otherwise, .int hire_v_least, .int hire_v_rates, .ref hire_a_brings, .ref hire_a_costs, .ref hire_a_chances, .ref hire_a_rate, .ref hire_a_mark])), (hire_a_costs, .inl (k_hire_a_costs, 5, .inl f_hire_a_costs)), (hire_a_rate, .inl (k_hire_a_rate, 3, .inl f_hire_a_rate)), (hire_a_mark, .inl (k_hire_a_mark, 2, .inl f_hire_a_mark))]) hP hD [4, 5, 7, 8] [0, 1, 2, 3, 6] rfl rfl (by decide) (by decide) hk1 hFc hP1 hD1
    clear hPc hDc hKc hFc hP1 hD1 hk1 hz1
    generalize H1 = H at hP hS ⊢
    have hP : va_P (dC, dI) vwCl ([(o, .inr (4, [.ref a_above, .long v_aboveLower, .ref o_table, .ref a_columnSign, .ref a_columnRate, .ref a_columnRoom, .int v_columns, .int v_rooms, .ref o_hire, .int v_work, .int v_keptSign, .int v_joinedSign])), (o_table, .inr (8, [.ref table_a_entry, .ref table_a_lineName, .ref table_a_columnName, .int table_v_goals, .int table_v_lines, .int table_v_columns, .long table_v_base])), (table_a_entry, .inl (k_table_a_entry, 18, .inr (.inr (.inr (.inr (rows_of 18 R_table_a_entry)))))), (a_columnSign, .inl (k_a_columnSign, 12, .inl f_a_columnSign)), (hire_a_chances, .inl (k_hire_a_chances, 5, .inr (.inr (.inr (.inr (rows_of 5 R_hire_a_chances)))))), (o_hire, .inr (3, [.int hire_v_signs, .int hire_v_works, .int hire_v_whole, .int hire_v_otherwise, .int hire_v_least, .int hire_v_rates, .ref hire_a_brings, .ref hire_a_costs, .ref hire_a_chances, .ref hire_a_rate, .ref hire_a_mark])), (hire_a_costs, .inl (k_hire_a_costs, 5, .inl f_hire_a_costs)), (hire_a_rate, .inl (k_hire_a_rate, 3, .inl f_hire_a_rate)), (hire_a_mark, .inl (k_hire_a_mark, 2, .inl f_hire_a_mark))] ++ va_pl LP f2) H := hP
    have hD : va_D A ([(o, .inr (4, [.ref a_above, .long v_aboveLower, .ref o_table, .ref a_columnSign, .ref a_columnRate, .ref a_columnRoom, .int v_columns, .int v_rooms, .ref o_hire, .int v_work, .int v_keptSign, .int v_joinedSign])), (o_table, .inr (8, [.ref table_a_entry, .ref table_a_lineName, .ref table_a_columnName, .int table_v_goals, .int table_v_lines, .int table_v_columns, .long table_v_base])), (table_a_entry, .inl (k_table_a_entry, 18, .inr (.inr (.inr (.inr (rows_of 18 R_table_a_entry)))))), (a_columnSign, .inl (k_a_columnSign, 12, .inl f_a_columnSign)), (hire_a_chances, .inl (k_hire_a_chances, 5, .inr (.inr (.inr (.inr (rows_of 5 R_hire_a_chances)))))), (o_hire, .inr (3, [.int hire_v_signs, .int hire_v_works, .int hire_v_whole, .int hire_v_otherwise, .int hire_v_least, .int hire_v_rates, .ref hire_a_brings, .ref hire_a_costs, .ref hire_a_chances, .ref hire_a_rate, .ref hire_a_mark])), (hire_a_costs, .inl (k_hire_a_costs, 5, .inl f_hire_a_costs)), (hire_a_rate, .inl (k_hire_a_rate, 3, .inl f_hire_a_rate)), (hire_a_mark, .inl (k_hire_a_mark, 2, .inl f_hire_a_mark))] ++ va_pl LP f2) := hD
    refine W.widen (k := 0) (n := 0) (by decide) (by decide) ?_
    refine lv_i2l (v := (r7).toInt64) hx hb dX4_fillLines_48 rfl ?_
    refine lv_lmul hx hb dX4_fillLines_49 ?_
    refine lv_topl (fun y8 ey8 => ?_)
    have hy8 : jv y8 (-21474836480) 21474836480 := jv.mula (B := 10) (D := 2147483648) ey8 hy6 (jv.i (show iv r7 (-2147483648) 2147483647 from i32_rng r7)) (by decide) (by decide) (by decide) (by decide) (by decide) (by decide)
    obtain ⟨gk9, hgk9⟩ := pok_13 (hf2) mrw5
    obtain ⟨kk10, hkk10⟩ := va_pl_get (X := [(o, .inr (4, [.ref a_above, .long v_aboveLower, .ref o_table, .ref a_columnSign, .ref a_columnRate, .ref a_columnRoom, .int v_columns, .int v_rooms, .ref o_hire, .int v_work, .int v_keptSign, .int v_joinedSign])), (o_table, .inr (8, [.ref table_a_entry, .ref table_a_lineName, .ref table_a_columnName, .int table_v_goals, .int table_v_lines, .int table_v_columns, .long table_v_base])), (table_a_entry, .inl (k_table_a_entry, 18, .inr (.inr (.inr (.inr (rows_of 18 R_table_a_entry)))))), (a_columnSign, .inl (k_a_columnSign, 12, .inl f_a_columnSign)), (hire_a_chances, .inl (k_hire_a_chances, 5, .inr (.inr (.inr (.inr (rows_of 5 R_hire_a_chances)))))), (o_hire, .inr (3, [.int hire_v_signs, .int hire_v_works, .int hire_v_whole, .int hire_v_otherwise, .int hire_v_least, .int hire_v_rates, .ref hire_a_brings, .ref hire_a_costs, .ref hire_a_chances, .ref hire_a_rate, .ref hire_a_mark])), (hire_a_costs, .inl (k_hire_a_costs, 5, .inl f_hire_a_costs)), (hire_a_rate, .inl (k_hire_a_rate, 3, .inl f_hire_a_rate)), (hire_a_mark, .inl (k_hire_a_mark, 2, .inl f_hire_a_mark))]) (f := f2) mrw5.1
    have qkk10 := hkk10
    rw [hgk9] at qkk10
    have hDo := hD
    refine va_last hx hb hK hP hD hS kk10 7 qkk10 rfl (vq_in 0 13 (by decide)) dX4_fillLines_50 (fun H locs hP hD hS => ?_)
    rw [va_pl_set hDo mrw5.1 hkk10] at hP hD
    have hfp11 := pok_up13 hf2 mrw5 (Int32.toNatClampNeg 0) y8 gk9
    generalize va_up f2 rw5 _ = fp11 at hP hD hfp11
    have hP : va_P (dC, dI) vwCl ([(o, .inr (4, [.ref a_above, .long v_aboveLower, .ref o_table, .ref a_columnSign, .ref a_columnRate, .ref a_columnRoom, .int v_columns, .int v_rooms, .ref o_hire, .int v_work, .int v_keptSign, .int v_joinedSign])), (o_table, .inr (8, [.ref table_a_entry, .ref table_a_lineName, .ref table_a_columnName, .int table_v_goals, .int table_v_lines, .int table_v_columns, .long table_v_base])), (table_a_entry, .inl (k_table_a_entry, 18, .inr (.inr (.inr (.inr (rows_of 18 R_table_a_entry)))))), (a_columnSign, .inl (k_a_columnSign, 12, .inl f_a_columnSign)), (hire_a_chances, .inl (k_hire_a_chances, 5, .inr (.inr (.inr (.inr (rows_of 5 R_hire_a_chances)))))), (o_hire, .inr (3, [.int hire_v_signs, .int hire_v_works, .int hire_v_whole, .int hire_v_otherwise, .int hire_v_least, .int hire_v_rates, .ref hire_a_brings, .ref hire_a_costs, .ref hire_a_chances, .ref hire_a_rate, .ref hire_a_mark])), (hire_a_costs, .inl (k_hire_a_costs, 5, .inl f_hire_a_costs)), (hire_a_rate, .inl (k_hire_a_rate, 3, .inl f_hire_a_rate)), (hire_a_mark, .inl (k_hire_a_mark, 2, .inl f_hire_a_mark))] ++ va_pl LP fp11) H := hP
    have hD : va_D A ([(o, .inr (4, [.ref a_above, .long v_aboveLower, .ref o_table, .ref a_columnSign, .ref a_columnRate, .ref a_columnRoom, .int v_columns, .int v_rooms, .ref o_hire, .int v_work, .int v_keptSign, .int v_joinedSign])), (o_table, .inr (8, [.ref table_a_entry, .ref table_a_lineName, .ref table_a_columnName, .int table_v_goals, .int table_v_lines, .int table_v_columns, .long table_v_base])), (table_a_entry, .inl (k_table_a_entry, 18, .inr (.inr (.inr (.inr (rows_of 18 R_table_a_entry)))))), (a_columnSign, .inl (k_a_columnSign, 12, .inl f_a_columnSign)), (hire_a_chances, .inl (k_hire_a_chances, 5, .inr (.inr (.inr (.inr (rows_of 5 R_hire_a_chances)))))), (o_hire, .inr (3, [.int hire_v_signs, .int hire_v_works, .int hire_v_whole, .int hire_v_otherwise, .int hire_v_least, .int hire_v_rates, .ref hire_a_brings, .ref hire_a_costs, .ref hire_a_chances, .ref hire_a_rate, .ref hire_a_mark])), (hire_a_costs, .inl (k_hire_a_costs, 5, .inl f_hire_a_costs)), (hire_a_rate, .inl (k_hire_a_rate, 3, .inl f_hire_a_rate)), (hire_a_mark, .inl (k_hire_a_mark, 2, .inl f_hire_a_mark))] ++ va_pl LP fp11) := hD
    refine lv_iconst (v := 0) hx hb dX4_fillLines_51 (by decide) ?_
    refine lv_istore (lv' := [(4, .int 0), (3, .ref rw5), (2, .int v1), (0, .ref o), (1, .int p0)]) hx hb dX4_fillLines_52 hl (by decide) rfl (fun ls hl => ?_)
    refine tl_loop (I := fun nn H locs ls => ∃ (v12 : Int32) (f13 : Nat → va_E), nn = (12 - v12.toInt).toNat ∧ iv v12 0 12 ∧ pok cI cJ LP sh f13 ∧  va_P (dC, dI) vwCl ([(o, .inr (4, [.ref a_above, .long v_aboveLower, .ref o_table, .ref a_columnSign, .ref a_columnRate, .ref a_columnRoom, .int v_columns, .int v_rooms, .ref o_hire, .int v_work, .int v_keptSign, .int v_joinedSign])), (o_table, .inr (8, [.ref table_a_entry, .ref table_a_lineName, .ref table_a_columnName, .int table_v_goals, .int table_v_lines, .int table_v_columns, .long table_v_base])), (table_a_entry, .inl (k_table_a_entry, 18, .inr (.inr (.inr (.inr (rows_of 18 R_table_a_entry)))))), (a_columnSign, .inl (k_a_columnSign, 12, .inl f_a_columnSign)), (hire_a_chances, .inl (k_hire_a_chances, 5, .inr (.inr (.inr (.inr (rows_of 5 R_hire_a_chances)))))), (o_hire, .inr (3, [.int hire_v_signs, .int hire_v_works, .int hire_v_whole, .int hire_v_otherwise, .int hire_v_least, .int hire_v_rates, .ref hire_a_brings, .ref hire_a_costs, .ref hire_a_chances, .ref hire_a_rate, .ref hire_a_mark])), (hire_a_costs, .inl (k_hire_a_costs, 5, .inl f_hire_a_costs)), (hire_a_rate, .inl (k_hire_a_rate, 3, .inl f_hire_a_rate)), (hire_a_mark, .inl (k_hire_a_mark, 2, .inl f_hire_a_mark))] ++ va_pl LP f13) H ∧ va_D A ([(o, .inr (4, [.ref a_above, .long v_aboveLower, .ref o_table, .ref a_columnSign, .ref a_columnRate, .ref a_columnRoom, .int v_columns, .int v_rooms, .ref o_hire, .int v_work, .int v_keptSign, .int v_joinedSign])), (o_table, .inr (8, [.ref table_a_entry, .ref table_a_lineName, .ref table_a_columnName, .int table_v_goals, .int table_v_lines, .int table_v_columns, .long table_v_base])), (table_a_entry, .inl (k_table_a_entry, 18, .inr (.inr (.inr (.inr (rows_of 18 R_table_a_entry)))))), (a_columnSign, .inl (k_a_columnSign, 12, .inl f_a_columnSign)), (hire_a_chances, .inl (k_hire_a_chances, 5, .inr (.inr (.inr (.inr (rows_of 5 R_hire_a_chances)))))), (o_hire, .inr (3, [.int hire_v_signs, .int hire_v_works, .int hire_v_whole, .int hire_v_otherwise, .int hire_v_least, .int hire_v_rates, .ref hire_a_brings, .ref hire_a_costs, .ref hire_a_chances, .ref hire_a_rate, .ref hire_a_mark])), (hire_a_costs, .inl (k_hire_a_costs, 5, .inl f_hire_a_costs)), (hire_a_rate, .inl (k_hire_a_rate, 3, .inl f_hire_a_rate)), (hire_a_mark, .inl (k_hire_a_mark, 2, .inl f_hire_a_mark))] ++ va_pl LP f13) ∧ va_S A s.heap H locs ∧ lv_has ls 6 [(4, .int v12), (3, .ref rw5), (2, .int v1), (0, .ref o), (1, .int p0)]) ?_ ⟨0, fp11, rfl, (iv.m (by decide)), hfp11, hP, hD, hS, lv_sub hl [0, 1, 2, 3, 4] rfl⟩
    clear hP hD hS hl
    intro nn54 H locs ls hI ih54
    obtain ⟨v12, f13, hn54, hv12, hf13, hP, hD, hS, hl⟩ := hI
    have bv12 := hv12.u
    refine lv_iload hx hb dX4_fillLines_54 (lv_at hl 0 rfl) ?_
    refine lv_aload_n hx hb dX4_fillLines_56 rfl (lv_at hl 3 rfl) ?_
    refine va_get (D := (dC, dI)) (ci := 4) (v := .int v_columns) (C := RX4) (T := TX4) (N := 12) hx hb hts iw_X4_fillLines_X4 hown hK hP 0 rfl rfl 6 (by decide) (hts _ kk_X4_fillLines_6) (fun _ h9 => h9) rfl dX4_fillLines_57 ?_
    have bv_columns := hv_columns.u
    refine lv_icmp_ge (tgt := 115) hx hb dX4_fillLines_60 (by decide) (fun c14 => ?_) (fun c14 => ?_)
    · have c149 := i32_le c14 rfl rfl
      obtain ⟨x15, ex15⟩ : ∃ z : Int32, v1 + Int32.ofInt 1 = z := ⟨_, rfl⟩
      have tx15 := i32_inc ex15 rfl (by decide) (by omega) (by omega)
      refine lv_iinc (v := x15) (lv' := [(2, .int x15), (4, .int v12), (3, .ref rw5), (0, .ref o), (1, .int p0)]) hx hb dX4_fillLines_115 hl (k := 2) rfl ex15 (by decide) rfl (fun ls hl => ?_)
      refine lv_goto (tgt := 2) hx hb dX4_fillLines_118 (by decide) ?_
      exact ih2 _ _ _ _ (by omega) ⟨x15, f13, rfl, (iv.m (by omega)), hf13, hP.part [0, 1, 2, 3, 5, 6, 4, 7, 8] rfl, hD.part [0, 1, 2, 3, 5, 6, 4, 7, 8] (by decide) rfl, hS, lv_sub hl [0, 3, 4] rfl⟩
    · have c149 := i32_nle c14 rfl rfl
      refine lv_aload_n hx hb dX4_fillLines_63 rfl (lv_at hl 3 rfl) ?_
      refine va_get (D := (dC, dI)) (ci := 4) (v := .ref a_columnSign) (C := RX4) (T := TX4) (N := 12) hx hb hts iw_X4_fillLines_X4 hown hK hP 0 rfl rfl 3 (by decide) (hts _ kk_X4_fillLines_7) (fun _ h9 => h9) rfl dX4_fillLines_64 ?_
      refine lv_iload hx hb dX4_fillLines_67 (lv_at hl 0 rfl) ?_
      refine va_iald hx hb hK hP 3 1 rfl rfl (vq_in v12 12 (by omega)) dX4_fillLines_69 ?_
      refine lv_topi (fun x16 ex16 => ?_)
      have hx16 : iv x16 0 3 := iv.of (hf_a_columnSign _) ex16
      refine lv_istore (lv' := [(5, .int x16), (4, .int v12), (3, .ref rw5), (2, .int v1), (0, .ref o), (1, .int p0)]) hx hb dX4_fillLines_70 hl (by decide) rfl (fun ls hl => ?_)
      refine lv_aload_n hx hb dX4_fillLines_72 rfl (lv_at hl 2 rfl) ?_
      refine lv_iload hx hb dX4_fillLines_73 (lv_at hl 1 rfl) ?_
      refine lv_iconst (v := 1) hx hb dX4_fillLines_75 (by decide) ?_
      refine lv_iadd hx hb dX4_fillLines_76 ?_
      refine lv_topi (fun x17 ex17 => ?_)
      have tx17 := i32_add ex17 rfl (show (1 : Int32).toInt = 1 by decide) (by omega) (by omega)
      refine lv_iload_n hx hb dX4_fillLines_77 rfl (lv_at hl 3 rfl) ?_
      refine lv_aload_n hx hb dX4_fillLines_78 rfl (lv_at hl 4 rfl) ?_
      refine va_get (D := (dC, dI)) (ci := 4) (v := .int v_work) (C := RX4) (T := TX4) (N := 12) hx hb hts iw_X4_fillLines_X4 hown hK hP 0 rfl rfl 9 (by decide) (hts _ kk_X4_fillLines_5) (fun _ h9 => h9) rfl dX4_fillLines_79 ?_
      have bv_work := hv_work.u
      refine lv_icmp_ne (tgt := 89) hx hb dX4_fillLines_82 (by decide) (fun c18 => ?_) (fun c18 => ?_)
      · have c189 := i32_ne c18 rfl rfl
        refine lv_aload_n hx hb dX4_fillLines_89 rfl (lv_at hl 4 rfl) ?_
        refine lv_iload_n hx hb dX4_fillLines_90 rfl (lv_at hl 3 rfl) ?_
        refine lv_iload hx hb dX4_fillLines_91 (lv_at hl 0 rfl) ?_
        have bv_keptSign := hv_keptSign.u
        have bv_joinedSign := hv_joinedSign.u
        have hPc := hP.part (cx := [(o, .inr (4, [.ref a_above, .long v_aboveLower, .ref o_table, .ref a_columnSign, .ref a_columnRate, .ref a_columnRoom, .int v_columns, .int v_rooms, .ref o_hire, .int v_work, .int v_keptSign, .int v_joinedSign])), (o_hire, .inr (3, [.int hire_v_signs, .int hire_v_works, .int hire_v_whole, .int hire_v_otherwise, .int hire_v_least, .int hire_v_rates, .ref hire_a_brings, .ref hire_a_costs, .ref hire_a_chances, .ref hire_a_rate, .ref hire_a_mark])), (hire_a_chances, .inl (k_hire_a_chances, 5, .inr (.inr (.inr (.inr (rows_of 5 R_hire_a_chances))))))]) [0, 5, 4] rfl
        have hDc := hD.part (cx := [(o, .inr (4, [.ref a_above, .long v_aboveLower, .ref o_table, .ref a_columnSign, .ref a_columnRate, .ref a_columnRoom, .int v_columns, .int v_rooms, .ref o_hire, .int v_work, .int v_keptSign, .int v_joinedSign])), (o_hire, .inr (3, [.int hire_v_signs, .int hire_v_works, .int hire_v_whole, .int hire_v_otherwise, .int hire_v_least, .int hire_v_rates, .ref hire_a_brings, .ref hire_a_costs, .ref hire_a_chances, .ref hire_a_rate, .ref hire_a_mark])), (hire_a_chances, .inl (k_hire_a_chances, 5, .inr (.inr (.inr (.inr (rows_of 5 R_hire_a_chances))))))]) [0, 5, 4] (by decide) rfl
        have hKc := hK.sub (tys' := [(k_hire_a_chances, (.array .int)), (cI, .int), (cJ, .long)]) [3, 6, 7] rfl
        have hFc := va_freeP (cx := [(o, .inr (4, [.ref a_above, .long v_aboveLower, .ref o_table, .ref a_columnSign, .ref a_columnRate, .ref a_columnRoom, .int v_columns, .int v_rooms, .ref o_hire, .int v_work, .int v_keptSign, .int v_joinedSign])), (o_hire, .inr (3, [.int hire_v_signs, .int hire_v_works, .int hire_v_whole, .int hire_v_otherwise, .int hire_v_least, .int hire_v_rates, .ref hire_a_brings, .ref hire_a_costs, .ref hire_a_chances, .ref hire_a_rate, .ref hire_a_mark])), (hire_a_chances, .inl (k_hire_a_chances, 5, .inr (.inr (.inr (.inr (rows_of 5 R_hire_a_chances))))))]) hD hS hA [0, 5, 4] rfl
        refine va_calli (va_runV (As := [.int v1, .int x16]) (rest := [.int x17, .ref rw5]) ⟨hx, hb, hml, hown, hts⟩ (ct_X4_chanceOf l dC dI o v1 x16 a_above v_aboveLower o_table a_columnSign a_columnRate a_columnRoom v_columns v_rooms o_hire v_work v_keptSign v_joinedSign hire_v_signs hire_v_works hire_v_whole hire_v_otherwise hire_v_least hire_v_rates hire_a_brings hire_a_costs hire_a_chances hire_a_rate hire_a_mark k_hire_a_chances R_hire_a_chances LP sh f13 cI cJ (iv.m (by omega)) hx16 hv_keptSign hv_joinedSign hf13 hRR_hire_a_chances (by first | omega | (simp; done) | decide) H.size) (cwV 2 hts gX4_fillLines_X4_chanceOf rfl rfl rfl (by decide +kernel) ⟨Nat.le_of_ble_eq_true rfl, Nat.le_of_ble_eq_true rfl⟩) ⟨fun a U g mk q => by obtain ⟨q0, q1, qP, qK, qD⟩ := q; exact ⟨q0, q1, qP, va_K.moved (u := U) (U := U.calling g mk a) (Vm.Alike.refl U.vm) qK, qD⟩, va_recv hKc hPc (ci := 4) (q0 := 0) rfl rfl, fun U hU hW => ⟨rfl, by rw [hU], by rw [hU]; exact hPc, va_K.moved hW.alike hKc, hDc.weaken (fun _ _ _ _ => trivial)⟩⟩ rfl rfl hl.1 rfl (lv_room (Nat.le_of_ble_eq_true rfl)) dX4_fillLines_93 ⟨Nat.le_of_ble_eq_true rfl, Nat.le_of_ble_eq_true rfl⟩) hS (fun q _ h => hFc q h) hFc (fun r19 u t H1 locs ht hvm hw hB hz1 hk1 hS => ?_)
        have hw : r19 = u := hw.symm
        subst hw
        obtain ⟨hr19, hP1, hD1⟩ := hB
        rw [ht] at hP1
        obtain ⟨hP, hD⟩ := va_joinP (X := [(o, .inr (4, [.ref a_above, .long v_aboveLower, .ref o_table, .ref a_columnSign, .ref a_columnRate, .ref a_columnRoom, .int v_columns, .int v_rooms, .ref o_hire, .int v_work, .int v_keptSign, .int v_joinedSign])), (o_table, .inr (8, [.ref table_a_entry, .ref table_a_lineName, .ref table_a_columnName, .int table_v_goals, .int table_v_lines, .int table_v_columns, .long table_v_base])), (table_a_entry, .inl (k_table_a_entry, 18, .inr (.inr (.inr (.inr (rows_of 18 R_table_a_entry)))))), (a_columnSign, .inl (k_a_columnSign, 12, .inl f_a_columnSign)), (hire_a_chances, .inl (k_hire_a_chances, 5, .inr (.inr (.inr (.inr (rows_of 5 R_hire_a_chances)))))), (o_hire, .inr (3, [.int hire_v_signs, .int hire_v_works, .int hire_v_whole, .int hire_v_otherwise, .int hire_v_least, .int hire_v_rates, .ref hire_a_brings, .ref hire_a_costs, .ref hire_a_chances, .ref hire_a_rate, .ref hire_a_mark])), (hire_a_costs, .inl (k_hire_a_costs, 5, .inl f_hire_a_costs)), (hire_a_rate, .inl (k_hire_a_rate, 3, .inl f_hire_a_rate)), (hire_a_mark, .inl (k_hire_a_mark, 2, .inl f_hire_a_mark))]) (cx := [(o, .inr (4, [.ref a_above, .long v_aboveLower, .ref o_table, .ref a_columnSign, .ref a_columnRate, .ref a_columnRoom, .int v_columns, .int v_rooms, .ref o_hire, .int v_work, .int v_keptSign, .int v_joinedSign])), (o_hire, .inr (3, [.int hire_v_signs, .int hire_v_works, .int hire_v_whole, .int hire_v_otherwise, .int hire_v_least, .int hire_v_rates, .ref hire_a_brings, .ref hire_a_costs, .ref hire_a_chances, .ref hire_a_rate, .ref hire_a_mark])), (hire_a_chances, .inl (k_hire_a_chances, 5, .inr (.inr (.inr (.inr (rows_of 5 R_hire_a_chances))))))]) (wr := [(o_table, .inr (8, [.ref table_a_entry, .ref table_a_lineName, .ref table_a_columnName, .int table_v_goals, .int table_v_lines, .int table_v_columns, .long table_v_base])), (table_a_entry, .inl (k_table_a_entry, 18, .inr (.inr (.inr (.inr (rows_of 18 R_table_a_entry)))))), (a_columnSign, .inl (k_a_columnSign, 12, .inl f_a_columnSign)), (hire_a_costs, .inl (k_hire_a_costs, 5, .inl f_hire_a_costs)), (hire_a_rate, .inl (k_hire_a_rate, 3, .inl f_hire_a_rate)), (hire_a_mark, .inl (k_hire_a_mark, 2, .inl f_hire_a_mark))]) (rx := [(o, .inr (4, [.ref a_above, .long v_aboveLower, .ref o_table, .ref a_columnSign, .ref a_columnRate, .ref a_columnRoom, .int v_columns, .int v_rooms, .ref o_hire, .int v_work, .int v_keptSign, .int v_joinedSign])), (o_hire, .inr (3, [.int hire_v_signs, .int hire_v_works, .int hire_v_whole, .int hire_v_otherwise, .int hire_v_least, .int hire_v_rates, .ref hire_a_brings, .ref hire_a_costs, .ref hire_a_chances, .ref hire_a_rate, .ref hire_a_mark])), (hire_a_chances, .inl (k_hire_a_chances, 5, .inr (.inr (.inr (.inr (rows_of 5 R_hire_a_chances))))))]) hP hD [0, 5, 4] [1, 2, 3, 6, 7, 8] rfl rfl (by decide) (by decide) hk1 hFc hP1 hD1
        clear hPc hDc hKc hFc hP1 hD1 hk1 hz1
        generalize H1 = H at hP hS ⊢
        have hP : va_P (dC, dI) vwCl ([(o_table, .inr (8, [.ref table_a_entry, .ref table_a_lineName, .ref table_a_columnName, .int table_v_goals, .int table_v_lines, .int table_v_columns, .long table_v_base])), (table_a_entry, .inl (k_table_a_entry, 18, .inr (.inr (.inr (.inr (rows_of 18 R_table_a_entry)))))), (a_columnSign, .inl (k_a_columnSign, 12, .inl f_a_columnSign)), (hire_a_costs, .inl (k_hire_a_costs, 5, .inl f_hire_a_costs)), (hire_a_rate, .inl (k_hire_a_rate, 3, .inl f_hire_a_rate)), (hire_a_mark, .inl (k_hire_a_mark, 2, .inl f_hire_a_mark)), (o, .inr (4, [.ref a_above, .long v_aboveLower, .ref o_table, .ref a_columnSign, .ref a_columnRate, .ref a_columnRoom, .int v_columns, .int v_rooms, .ref o_hire, .int v_work, .int v_keptSign, .int v_joinedSign])), (o_hire, .inr (3, [.int hire_v_signs, .int hire_v_works, .int hire_v_whole, .int hire_v_otherwise, .int hire_v_least, .int hire_v_rates, .ref hire_a_brings, .ref hire_a_costs, .ref hire_a_chances, .ref hire_a_rate, .ref hire_a_mark])), (hire_a_chances, .inl (k_hire_a_chances, 5, .inr (.inr (.inr (.inr (rows_of 5 R_hire_a_chances))))))] ++ va_pl LP f13) H := hP
        have hD : va_D A ([(o_table, .inr (8, [.ref table_a_entry, .ref table_a_lineName, .ref table_a_columnName, .int table_v_goals, .int table_v_lines, .int table_v_columns, .long table_v_base])), (table_a_entry, .inl (k_table_a_entry, 18, .inr (.inr (.inr (.inr (rows_of 18 R_table_a_entry)))))), (a_columnSign, .inl (k_a_columnSign, 12, .inl f_a_columnSign)), (hire_a_costs, .inl (k_hire_a_costs, 5, .inl f_hire_a_costs)), (hire_a_rate, .inl (k_hire_a_rate, 3, .inl f_hire_a_rate)), (hire_a_mark, .inl (k_hire_a_mark, 2, .inl f_hire_a_mark)), (o, .inr (4, [.ref a_above, .long v_aboveLower, .ref o_table, .ref a_columnSign, .ref a_columnRate, .ref a_columnRoom, .int v_columns, .int v_rooms, .ref o_hire, .int v_work, .int v_keptSign, .int v_joinedSign])), (o_hire, .inr (3, [.int hire_v_signs, .int hire_v_works, .int hire_v_whole, .int hire_v_otherwise, .int hire_v_least, .int hire_v_rates, .ref hire_a_brings, .ref hire_a_costs, .ref hire_a_chances, .ref hire_a_rate, .ref hire_a_mark])), (hire_a_chances, .inl (k_hire_a_chances, 5, .inr (.inr (.inr (.inr (rows_of 5 R_hire_a_chances))))))] ++ va_pl LP f13) := hD
        refine W.widen (k := 0) (n := 0) (by decide) (by decide) ?_
        refine lv_aload_n hx hb dX4_fillLines_96 rfl (lv_at hl 4 rfl) ?_
        refine lv_aload_n hx hb dX4_fillLines_97 rfl (lv_at hl 4 rfl) ?_
        refine va_get (D := (dC, dI)) (ci := 4) (v := .int v_work) (C := RX4) (T := TX4) (N := 12) hx hb hts iw_X4_fillLines_X4 hown hK hP 6 rfl rfl 9 (by decide) (hts _ kk_X4_fillLines_5) (fun _ h9 => h9) rfl dX4_fillLines_98 ?_
        refine lv_iload hx hb dX4_fillLines_101 (lv_at hl 0 rfl) ?_
        have hPc := hP.part (cx := [(o, .inr (4, [.ref a_above, .long v_aboveLower, .ref o_table, .ref a_columnSign, .ref a_columnRate, .ref a_columnRoom, .int v_columns, .int v_rooms, .ref o_hire, .int v_work, .int v_keptSign, .int v_joinedSign])), (o_hire, .inr (3, [.int hire_v_signs, .int hire_v_works, .int hire_v_whole, .int hire_v_otherwise, .int hire_v_least, .int hire_v_rates, .ref hire_a_brings, .ref hire_a_costs, .ref hire_a_chances, .ref hire_a_rate, .ref hire_a_mark])), (hire_a_chances, .inl (k_hire_a_chances, 5, .inr (.inr (.inr (.inr (rows_of 5 R_hire_a_chances))))))]) [6, 7, 8] rfl
        have hDc := hD.part (cx := [(o, .inr (4, [.ref a_above, .long v_aboveLower, .ref o_table, .ref a_columnSign, .ref a_columnRate, .ref a_columnRoom, .int v_columns, .int v_rooms, .ref o_hire, .int v_work, .int v_keptSign, .int v_joinedSign])), (o_hire, .inr (3, [.int hire_v_signs, .int hire_v_works, .int hire_v_whole, .int hire_v_otherwise, .int hire_v_least, .int hire_v_rates, .ref hire_a_brings, .ref hire_a_costs, .ref hire_a_chances, .ref hire_a_rate, .ref hire_a_mark])), (hire_a_chances, .inl (k_hire_a_chances, 5, .inr (.inr (.inr (.inr (rows_of 5 R_hire_a_chances))))))]) [6, 7, 8] (by decide) rfl
        have hKc := hK.sub (tys' := [(k_hire_a_chances, (.array .int)), (cI, .int), (cJ, .long)]) [3, 6, 7] rfl
        have hFc := va_freeP (cx := [(o, .inr (4, [.ref a_above, .long v_aboveLower, .ref o_table, .ref a_columnSign, .ref a_columnRate, .ref a_columnRoom, .int v_columns, .int v_rooms, .ref o_hire, .int v_work, .int v_keptSign, .int v_joinedSign])), (o_hire, .inr (3, [.int hire_v_signs, .int hire_v_works, .int hire_v_whole, .int hire_v_otherwise, .int hire_v_least, .int hire_v_rates, .ref hire_a_brings, .ref hire_a_costs, .ref hire_a_chances, .ref hire_a_rate, .ref hire_a_mark])), (hire_a_chances, .inl (k_hire_a_chances, 5, .inr (.inr (.inr (.inr (rows_of 5 R_hire_a_chances))))))]) hD hS hA [6, 7, 8] rfl
        refine va_calli (va_runV (As := [.int v_work, .int x16]) (rest := [.int r19, .int x17, .ref rw5]) ⟨hx, hb, hml, hown, hts⟩ (ct_X4_chanceOf l dC dI o v_work x16 a_above v_aboveLower o_table a_columnSign a_columnRate a_columnRoom v_columns v_rooms o_hire v_work v_keptSign v_joinedSign hire_v_signs hire_v_works hire_v_whole hire_v_otherwise hire_v_least hire_v_rates hire_a_brings hire_a_costs hire_a_chances hire_a_rate hire_a_mark k_hire_a_chances R_hire_a_chances LP sh f13 cI cJ hv_work hx16 hv_keptSign hv_joinedSign hf13 hRR_hire_a_chances (by first | omega | (simp; done) | decide) H.size) (cwV 2 hts gX4_fillLines_X4_chanceOf rfl rfl rfl (by decide +kernel) ⟨Nat.le_of_ble_eq_true rfl, Nat.le_of_ble_eq_true rfl⟩) ⟨fun a U g mk q => by obtain ⟨q0, q1, qP, qK, qD⟩ := q; exact ⟨q0, q1, qP, va_K.moved (u := U) (U := U.calling g mk a) (Vm.Alike.refl U.vm) qK, qD⟩, va_recv hKc hPc (ci := 4) (q0 := 0) rfl rfl, fun U hU hW => ⟨rfl, by rw [hU], by rw [hU]; exact hPc, va_K.moved hW.alike hKc, hDc.weaken (fun _ _ _ _ => trivial)⟩⟩ rfl rfl hl.1 rfl (lv_room (Nat.le_of_ble_eq_true rfl)) dX4_fillLines_103 ⟨Nat.le_of_ble_eq_true rfl, Nat.le_of_ble_eq_true rfl⟩) hS (fun q _ h => hFc q h) hFc (fun r20 u t H1 locs ht hvm hw hB hz1 hk1 hS => ?_)
        have hw : r20 = u := hw.symm
        subst hw
        obtain ⟨hr20, hP1, hD1⟩ := hB
        rw [ht] at hP1
        obtain ⟨hP, hD⟩ := va_joinP (X := [(o_table, .inr (8, [.ref table_a_entry, .ref table_a_lineName, .ref table_a_columnName, .int table_v_goals, .int table_v_lines, .int table_v_columns, .long table_v_base])), (table_a_entry, .inl (k_table_a_entry, 18, .inr (.inr (.inr (.inr (rows_of 18 R_table_a_entry)))))), (a_columnSign, .inl (k_a_columnSign, 12, .inl f_a_columnSign)), (hire_a_costs, .inl (k_hire_a_costs, 5, .inl f_hire_a_costs)), (hire_a_rate, .inl (k_hire_a_rate, 3, .inl f_hire_a_rate)), (hire_a_mark, .inl (k_hire_a_mark, 2, .inl f_hire_a_mark)), (o, .inr (4, [.ref a_above, .long v_aboveLower, .ref o_table, .ref a_columnSign, .ref a_columnRate, .ref a_columnRoom, .int v_columns, .int v_rooms, .ref o_hire, .int v_work, .int v_keptSign, .int v_joinedSign])), (o_hire, .inr (3, [.int hire_v_signs, .int hire_v_works, .int hire_v_whole, .int hire_v_otherwise, .int hire_v_least, .int hire_v_rates, .ref hire_a_brings, .ref hire_a_costs, .ref hire_a_chances, .ref hire_a_rate, .ref hire_a_mark])), (hire_a_chances, .inl (k_hire_a_chances, 5, .inr (.inr (.inr (.inr (rows_of 5 R_hire_a_chances))))))]) (cx := [(o, .inr (4, [.ref a_above, .long v_aboveLower, .ref o_table, .ref a_columnSign, .ref a_columnRate, .ref a_columnRoom, .int v_columns, .int v_rooms, .ref o_hire, .int v_work, .int v_keptSign, .int v_joinedSign])), (o_hire, .inr (3, [.int hire_v_signs, .int hire_v_works, .int hire_v_whole, .int hire_v_otherwise, .int hire_v_least, .int hire_v_rates, .ref hire_a_brings, .ref hire_a_costs, .ref hire_a_chances, .ref hire_a_rate, .ref hire_a_mark])), (hire_a_chances, .inl (k_hire_a_chances, 5, .inr (.inr (.inr (.inr (rows_of 5 R_hire_a_chances))))))]) (wr := [(o_table, .inr (8, [.ref table_a_entry, .ref table_a_lineName, .ref table_a_columnName, .int table_v_goals, .int table_v_lines, .int table_v_columns, .long table_v_base])), (table_a_entry, .inl (k_table_a_entry, 18, .inr (.inr (.inr (.inr (rows_of 18 R_table_a_entry)))))), (a_columnSign, .inl (k_a_columnSign, 12, .inl f_a_columnSign)), (hire_a_costs, .inl (k_hire_a_costs, 5, .inl f_hire_a_costs)), (hire_a_rate, .inl (k_hire_a_rate, 3, .inl f_hire_a_rate)), (hire_a_mark, .inl (k_hire_a_mark, 2, .inl f_hire_a_mark))]) (rx := [(o, .inr (4, [.ref a_above, .long v_aboveLower, .ref o_table, .ref a_columnSign, .ref a_columnRate, .ref a_columnRoom, .int v_columns, .int v_rooms, .ref o_hire, .int v_work, .int v_keptSign, .int v_joinedSign])), (o_hire, .inr (3, [.int hire_v_signs, .int hire_v_works, .int hire_v_whole, .int hire_v_otherwise, .int hire_v_least, .int hire_v_rates, .ref hire_a_brings, .ref hire_a_costs, .ref hire_a_chances, .ref hire_a_rate, .ref hire_a_mark])), (hire_a_chances, .inl (k_hire_a_chances, 5, .inr (.inr (.inr (.inr (rows_of 5 R_hire_a_chances))))))]) hP hD [6, 7, 8] [0, 1, 2, 3, 4, 5] rfl rfl (by decide) (by decide) hk1 hFc hP1 hD1
        clear hPc hDc hKc hFc hP1 hD1 hk1 hz1
        generalize H1 = H at hP hS ⊢
        have hP : va_P (dC, dI) vwCl ([(o_table, .inr (8, [.ref table_a_entry, .ref table_a_lineName, .ref table_a_columnName, .int table_v_goals, .int table_v_lines, .int table_v_columns, .long table_v_base])), (table_a_entry, .inl (k_table_a_entry, 18, .inr (.inr (.inr (.inr (rows_of 18 R_table_a_entry)))))), (a_columnSign, .inl (k_a_columnSign, 12, .inl f_a_columnSign)), (hire_a_costs, .inl (k_hire_a_costs, 5, .inl f_hire_a_costs)), (hire_a_rate, .inl (k_hire_a_rate, 3, .inl f_hire_a_rate)), (hire_a_mark, .inl (k_hire_a_mark, 2, .inl f_hire_a_mark)), (o, .inr (4, [.ref a_above, .long v_aboveLower, .ref o_table, .ref a_columnSign, .ref a_columnRate, .ref a_columnRoom, .int v_columns, .int v_rooms, .ref o_hire, .int v_work, .int v_keptSign, .int v_joinedSign])), (o_hire, .inr (3, [.int hire_v_signs, .int hire_v_works, .int hire_v_whole, .int hire_v_otherwise, .int hire_v_least, .int hire_v_rates, .ref hire_a_brings, .ref hire_a_costs, .ref hire_a_chances, .ref hire_a_rate, .ref hire_a_mark])), (hire_a_chances, .inl (k_hire_a_chances, 5, .inr (.inr (.inr (.inr (rows_of 5 R_hire_a_chances))))))] ++ va_pl LP f13) H := hP
        have hD : va_D A ([(o_table, .inr (8, [.ref table_a_entry, .ref table_a_lineName, .ref table_a_columnName, .int table_v_goals, .int table_v_lines, .int table_v_columns, .long table_v_base])), (table_a_entry, .inl (k_table_a_entry, 18, .inr (.inr (.inr (.inr (rows_of 18 R_table_a_entry)))))), (a_columnSign, .inl (k_a_columnSign, 12, .inl f_a_columnSign)), (hire_a_costs, .inl (k_hire_a_costs, 5, .inl f_hire_a_costs)), (hire_a_rate, .inl (k_hire_a_rate, 3, .inl f_hire_a_rate)), (hire_a_mark, .inl (k_hire_a_mark, 2, .inl f_hire_a_mark)), (o, .inr (4, [.ref a_above, .long v_aboveLower, .ref o_table, .ref a_columnSign, .ref a_columnRate, .ref a_columnRoom, .int v_columns, .int v_rooms, .ref o_hire, .int v_work, .int v_keptSign, .int v_joinedSign])), (o_hire, .inr (3, [.int hire_v_signs, .int hire_v_works, .int hire_v_whole, .int hire_v_otherwise, .int hire_v_least, .int hire_v_rates, .ref hire_a_brings, .ref hire_a_costs, .ref hire_a_chances, .ref hire_a_rate, .ref hire_a_mark])), (hire_a_chances, .inl (k_hire_a_chances, 5, .inr (.inr (.inr (.inr (rows_of 5 R_hire_a_chances))))))] ++ va_pl LP f13) := hD
        refine W.widen (k := 0) (n := 0) (by decide) (by decide) ?_
        refine lv_isub hx hb dX4_fillLines_106 ?_
        refine lv_topi (fun x21 ex21 => ?_)
        have br19 := hr19.u
        have br20 := hr20.u
        have tx21 := i32_sub ex21 rfl rfl (by omega) (by omega)
        refine lv_i2l (v := (x21).toInt64) hx hb dX4_fillLines_107 rfl ?_
        obtain ⟨gk22, hgk22⟩ := pok_13 (hf13) mrw5
        obtain ⟨kk23, hkk23⟩ := va_pl_get (X := [(o_table, .inr (8, [.ref table_a_entry, .ref table_a_lineName, .ref table_a_columnName, .int table_v_goals, .int table_v_lines, .int table_v_columns, .long table_v_base])), (table_a_entry, .inl (k_table_a_entry, 18, .inr (.inr (.inr (.inr (rows_of 18 R_table_a_entry)))))), (a_columnSign, .inl (k_a_columnSign, 12, .inl f_a_columnSign)), (hire_a_costs, .inl (k_hire_a_costs, 5, .inl f_hire_a_costs)), (hire_a_rate, .inl (k_hire_a_rate, 3, .inl f_hire_a_rate)), (hire_a_mark, .inl (k_hire_a_mark, 2, .inl f_hire_a_mark)), (o, .inr (4, [.ref a_above, .long v_aboveLower, .ref o_table, .ref a_columnSign, .ref a_columnRate, .ref a_columnRoom, .int v_columns, .int v_rooms, .ref o_hire, .int v_work, .int v_keptSign, .int v_joinedSign])), (o_hire, .inr (3, [.int hire_v_signs, .int hire_v_works, .int hire_v_whole, .int hire_v_otherwise, .int hire_v_least, .int hire_v_rates, .ref hire_a_brings, .ref hire_a_costs, .ref hire_a_chances, .ref hire_a_rate, .ref hire_a_mark])), (hire_a_chances, .inl (k_hire_a_chances, 5, .inr (.inr (.inr (.inr (rows_of 5 R_hire_a_chances))))))]) (f := f13) mrw5.1
        have qkk23 := hkk23
        rw [hgk22] at qkk23
        have hDo := hD
        refine va_last hx hb hK hP hD hS kk23 7 qkk23 rfl (vq_in x17 13 (by omega)) dX4_fillLines_108 (fun H locs hP hD hS => ?_)
        rw [va_pl_set hDo mrw5.1 hkk23] at hP hD
        have hfp24 := pok_up13 hf13 mrw5 (Int32.toNatClampNeg x17) ((x21).toInt64) gk22
        generalize va_up f13 rw5 _ = fp24 at hP hD hfp24
        have hP : va_P (dC, dI) vwCl ([(o_table, .inr (8, [.ref table_a_entry, .ref table_a_lineName, .ref table_a_columnName, .int table_v_goals, .int table_v_lines, .int table_v_columns, .long table_v_base])), (table_a_entry, .inl (k_table_a_entry, 18, .inr (.inr (.inr (.inr (rows_of 18 R_table_a_entry)))))), (a_columnSign, .inl (k_a_columnSign, 12, .inl f_a_columnSign)), (hire_a_costs, .inl (k_hire_a_costs, 5, .inl f_hire_a_costs)), (hire_a_rate, .inl (k_hire_a_rate, 3, .inl f_hire_a_rate)), (hire_a_mark, .inl (k_hire_a_mark, 2, .inl f_hire_a_mark)), (o, .inr (4, [.ref a_above, .long v_aboveLower, .ref o_table, .ref a_columnSign, .ref a_columnRate, .ref a_columnRoom, .int v_columns, .int v_rooms, .ref o_hire, .int v_work, .int v_keptSign, .int v_joinedSign])), (o_hire, .inr (3, [.int hire_v_signs, .int hire_v_works, .int hire_v_whole, .int hire_v_otherwise, .int hire_v_least, .int hire_v_rates, .ref hire_a_brings, .ref hire_a_costs, .ref hire_a_chances, .ref hire_a_rate, .ref hire_a_mark])), (hire_a_chances, .inl (k_hire_a_chances, 5, .inr (.inr (.inr (.inr (rows_of 5 R_hire_a_chances))))))] ++ va_pl LP fp24) H := hP
        have hD : va_D A ([(o_table, .inr (8, [.ref table_a_entry, .ref table_a_lineName, .ref table_a_columnName, .int table_v_goals, .int table_v_lines, .int table_v_columns, .long table_v_base])), (table_a_entry, .inl (k_table_a_entry, 18, .inr (.inr (.inr (.inr (rows_of 18 R_table_a_entry)))))), (a_columnSign, .inl (k_a_columnSign, 12, .inl f_a_columnSign)), (hire_a_costs, .inl (k_hire_a_costs, 5, .inl f_hire_a_costs)), (hire_a_rate, .inl (k_hire_a_rate, 3, .inl f_hire_a_rate)), (hire_a_mark, .inl (k_hire_a_mark, 2, .inl f_hire_a_mark)), (o, .inr (4, [.ref a_above, .long v_aboveLower, .ref o_table, .ref a_columnSign, .ref a_columnRate, .ref a_columnRoom, .int v_columns, .int v_rooms, .ref o_hire, .int v_work, .int v_keptSign, .int v_joinedSign])), (o_hire, .inr (3, [.int hire_v_signs, .int hire_v_works, .int hire_v_whole, .int hire_v_otherwise, .int hire_v_least, .int hire_v_rates, .ref hire_a_brings, .ref hire_a_costs, .ref hire_a_chances, .ref hire_a_rate, .ref hire_a_mark])), (hire_a_chances, .inl (k_hire_a_chances, 5, .inr (.inr (.inr (.inr (rows_of 5 R_hire_a_chances))))))] ++ va_pl LP fp24) := hD
        obtain ⟨x25, ex25⟩ : ∃ z : Int32, v12 + Int32.ofInt 1 = z := ⟨_, rfl⟩
        have tx25 := i32_inc ex25 rfl (by decide) (by omega) (by omega)
        refine lv_iinc (v := x25) (lv' := [(4, .int x25), (5, .int x16), (3, .ref rw5), (2, .int v1), (0, .ref o), (1, .int p0)]) hx hb dX4_fillLines_109 hl (k := 1) rfl ex25 (by decide) rfl (fun ls hl => ?_)
        refine lv_goto (tgt := 54) hx hb dX4_fillLines_112 (by decide) ?_
        exact ih54 _ _ _ _ (by omega) ⟨x25, fp24, rfl, (iv.m (by omega)), hfp24, hP.part [6, 0, 1, 2, 8, 7, 3, 4, 5] rfl, hD.part [6, 0, 1, 2, 8, 7, 3, 4, 5] (by decide) rfl, hS, lv_sub hl [0, 2, 3, 4, 5] rfl⟩
      · have c189 := i32_eq c18 rfl rfl
        refine lv_iconst (v := 0) hx hb dX4_fillLines_85 (by decide) ?_
        refine lv_goto (tgt := 96) hx hb dX4_fillLines_86 (by decide) ?_
        refine lv_aload_n hx hb dX4_fillLines_96 rfl (lv_at hl 4 rfl) ?_
        refine lv_aload_n hx hb dX4_fillLines_97 rfl (lv_at hl 4 rfl) ?_
        refine va_get (D := (dC, dI)) (ci := 4) (v := .int v_work) (C := RX4) (T := TX4) (N := 12) hx hb hts iw_X4_fillLines_X4 hown hK hP 0 rfl rfl 9 (by decide) (hts _ kk_X4_fillLines_5) (fun _ h9 => h9) rfl dX4_fillLines_98 ?_
        refine lv_iload hx hb dX4_fillLines_101 (lv_at hl 0 rfl) ?_
        have bv_keptSign := hv_keptSign.u
        have bv_joinedSign := hv_joinedSign.u
        have hPc := hP.part (cx := [(o, .inr (4, [.ref a_above, .long v_aboveLower, .ref o_table, .ref a_columnSign, .ref a_columnRate, .ref a_columnRoom, .int v_columns, .int v_rooms, .ref o_hire, .int v_work, .int v_keptSign, .int v_joinedSign])), (o_hire, .inr (3, [.int hire_v_signs, .int hire_v_works, .int hire_v_whole, .int hire_v_otherwise, .int hire_v_least, .int hire_v_rates, .ref hire_a_brings, .ref hire_a_costs, .ref hire_a_chances, .ref hire_a_rate, .ref hire_a_mark])), (hire_a_chances, .inl (k_hire_a_chances, 5, .inr (.inr (.inr (.inr (rows_of 5 R_hire_a_chances))))))]) [0, 5, 4] rfl
        have hDc := hD.part (cx := [(o, .inr (4, [.ref a_above, .long v_aboveLower, .ref o_table, .ref a_columnSign, .ref a_columnRate, .ref a_columnRoom, .int v_columns, .int v_rooms, .ref o_hire, .int v_work, .int v_keptSign, .int v_joinedSign])), (o_hire, .inr (3, [.int hire_v_signs, .int hire_v_works, .int hire_v_whole, .int hire_v_otherwise, .int hire_v_least, .int hire_v_rates, .ref hire_a_brings, .ref hire_a_costs, .ref hire_a_chances, .ref hire_a_rate, .ref hire_a_mark])), (hire_a_chances, .inl (k_hire_a_chances, 5, .inr (.inr (.inr (.inr (rows_of 5 R_hire_a_chances))))))]) [0, 5, 4] (by decide) rfl
        have hKc := hK.sub (tys' := [(k_hire_a_chances, (.array .int)), (cI, .int), (cJ, .long)]) [3, 6, 7] rfl
        have hFc := va_freeP (cx := [(o, .inr (4, [.ref a_above, .long v_aboveLower, .ref o_table, .ref a_columnSign, .ref a_columnRate, .ref a_columnRoom, .int v_columns, .int v_rooms, .ref o_hire, .int v_work, .int v_keptSign, .int v_joinedSign])), (o_hire, .inr (3, [.int hire_v_signs, .int hire_v_works, .int hire_v_whole, .int hire_v_otherwise, .int hire_v_least, .int hire_v_rates, .ref hire_a_brings, .ref hire_a_costs, .ref hire_a_chances, .ref hire_a_rate, .ref hire_a_mark])), (hire_a_chances, .inl (k_hire_a_chances, 5, .inr (.inr (.inr (.inr (rows_of 5 R_hire_a_chances))))))]) hD hS hA [0, 5, 4] rfl
        refine va_calli (va_runV (As := [.int v_work, .int x16]) (rest := [.int 0, .int x17, .ref rw5]) ⟨hx, hb, hml, hown, hts⟩ (ct_X4_chanceOf l dC dI o v_work x16 a_above v_aboveLower o_table a_columnSign a_columnRate a_columnRoom v_columns v_rooms o_hire v_work v_keptSign v_joinedSign hire_v_signs hire_v_works hire_v_whole hire_v_otherwise hire_v_least hire_v_rates hire_a_brings hire_a_costs hire_a_chances hire_a_rate hire_a_mark k_hire_a_chances R_hire_a_chances LP sh f13 cI cJ hv_work hx16 hv_keptSign hv_joinedSign hf13 hRR_hire_a_chances (by first | omega | (simp; done) | decide) H.size) (cwV 2 hts gX4_fillLines_X4_chanceOf rfl rfl rfl (by decide +kernel) ⟨Nat.le_of_ble_eq_true rfl, Nat.le_of_ble_eq_true rfl⟩) ⟨fun a U g mk q => by obtain ⟨q0, q1, qP, qK, qD⟩ := q; exact ⟨q0, q1, qP, va_K.moved (u := U) (U := U.calling g mk a) (Vm.Alike.refl U.vm) qK, qD⟩, va_recv hKc hPc (ci := 4) (q0 := 0) rfl rfl, fun U hU hW => ⟨rfl, by rw [hU], by rw [hU]; exact hPc, va_K.moved hW.alike hKc, hDc.weaken (fun _ _ _ _ => trivial)⟩⟩ rfl rfl hl.1 rfl (lv_room (Nat.le_of_ble_eq_true rfl)) dX4_fillLines_103 ⟨Nat.le_of_ble_eq_true rfl, Nat.le_of_ble_eq_true rfl⟩) hS (fun q _ h => hFc q h) hFc (fun r26 u t H1 locs ht hvm hw hB hz1 hk1 hS => ?_)
        have hw : r26 = u := hw.symm
        subst hw
        obtain ⟨hr26, hP1, hD1⟩ := hB
        rw [ht] at hP1
        obtain ⟨hP, hD⟩ := va_joinP (X := [(o, .inr (4, [.ref a_above, .long v_aboveLower, .ref o_table, .ref a_columnSign, .ref a_columnRate, .ref a_columnRoom, .int v_columns, .int v_rooms, .ref o_hire, .int v_work, .int v_keptSign, .int v_joinedSign])), (o_table, .inr (8, [.ref table_a_entry, .ref table_a_lineName, .ref table_a_columnName, .int table_v_goals, .int table_v_lines, .int table_v_columns, .long table_v_base])), (table_a_entry, .inl (k_table_a_entry, 18, .inr (.inr (.inr (.inr (rows_of 18 R_table_a_entry)))))), (a_columnSign, .inl (k_a_columnSign, 12, .inl f_a_columnSign)), (hire_a_chances, .inl (k_hire_a_chances, 5, .inr (.inr (.inr (.inr (rows_of 5 R_hire_a_chances)))))), (o_hire, .inr (3, [.int hire_v_signs, .int hire_v_works, .int hire_v_whole, .int hire_v_otherwise, .int hire_v_least, .int hire_v_rates, .ref hire_a_brings, .ref hire_a_costs, .ref hire_a_chances, .ref hire_a_rate, .ref hire_a_mark])), (hire_a_costs, .inl (k_hire_a_costs, 5, .inl f_hire_a_costs)), (hire_a_rate, .inl (k_hire_a_rate, 3, .inl f_hire_a_rate)), (hire_a_mark, .inl (k_hire_a_mark, 2, .inl f_hire_a_mark))]) (cx := [(o, .inr (4, [.ref a_above, .long v_aboveLower, .ref o_table, .ref a_columnSign, .ref a_columnRate, .ref a_columnRoom, .int v_columns, .int v_rooms, .ref o_hire, .int v_work, .int v_keptSign, .int v_joinedSign])), (o_hire, .inr (3, [.int hire_v_signs, .int hire_v_works, .int hire_v_whole, .int hire_v_otherwise, .int hire_v_least, .int hire_v_rates, .ref hire_a_brings, .ref hire_a_costs, .ref hire_a_chances, .ref hire_a_rate, .ref hire_a_mark])), (hire_a_chances, .inl (k_hire_a_chances, 5, .inr (.inr (.inr (.inr (rows_of 5 R_hire_a_chances))))))]) (wr := [(o_table, .inr (8, [.ref table_a_entry, .ref table_a_lineName, .ref table_a_columnName, .int table_v_goals, .int table_v_lines, .int table_v_columns, .long table_v_base])), (table_a_entry, .inl (k_table_a_entry, 18, .inr (.inr (.inr (.inr (rows_of 18 R_table_a_entry)))))), (a_columnSign, .inl (k_a_columnSign, 12, .inl f_a_columnSign)), (hire_a_costs, .inl (k_hire_a_costs, 5, .inl f_hire_a_costs)), (hire_a_rate, .inl (k_hire_a_rate, 3, .inl f_hire_a_rate)), (hire_a_mark, .inl (k_hire_a_mark, 2, .inl f_hire_a_mark))]) (rx := [(o, .inr (4, [.ref a_above, .long v_aboveLower, .ref o_table, .ref a_columnSign, .ref a_columnRate, .ref a_columnRoom, .int v_columns, .int v_rooms, .ref o_hire, .int v_work, .int v_keptSign, .int v_joinedSign])), (o_hire, .inr (3, [.int hire_v_signs, .int hire_v_works, .int hire_v_whole, .int hire_v_otherwise, .int hire_v_least, .int hire_v_rates, .ref hire_a_brings, .ref hire_a_costs, .ref hire_a_chances, .ref hire_a_rate, .ref hire_a_mark])), (hire_a_chances, .inl (k_hire_a_chances, 5, .inr (.inr (.inr (.inr (rows_of 5 R_hire_a_chances))))))]) hP hD [0, 5, 4] [1, 2, 3, 6, 7, 8] rfl rfl (by decide) (by decide) hk1 hFc hP1 hD1
        clear hPc hDc hKc hFc hP1 hD1 hk1 hz1
        generalize H1 = H at hP hS ⊢
        have hP : va_P (dC, dI) vwCl ([(o_table, .inr (8, [.ref table_a_entry, .ref table_a_lineName, .ref table_a_columnName, .int table_v_goals, .int table_v_lines, .int table_v_columns, .long table_v_base])), (table_a_entry, .inl (k_table_a_entry, 18, .inr (.inr (.inr (.inr (rows_of 18 R_table_a_entry)))))), (a_columnSign, .inl (k_a_columnSign, 12, .inl f_a_columnSign)), (hire_a_costs, .inl (k_hire_a_costs, 5, .inl f_hire_a_costs)), (hire_a_rate, .inl (k_hire_a_rate, 3, .inl f_hire_a_rate)), (hire_a_mark, .inl (k_hire_a_mark, 2, .inl f_hire_a_mark)), (o, .inr (4, [.ref a_above, .long v_aboveLower, .ref o_table, .ref a_columnSign, .ref a_columnRate, .ref a_columnRoom, .int v_columns, .int v_rooms, .ref o_hire, .int v_work, .int v_keptSign, .int v_joinedSign])), (o_hire, .inr (3, [.int hire_v_signs, .int hire_v_works, .int hire_v_whole, .int hire_v_otherwise, .int hire_v_least, .int hire_v_rates, .ref hire_a_brings, .ref hire_a_costs, .ref hire_a_chances, .ref hire_a_rate, .ref hire_a_mark])), (hire_a_chances, .inl (k_hire_a_chances, 5, .inr (.inr (.inr (.inr (rows_of 5 R_hire_a_chances))))))] ++ va_pl LP f13) H := hP
        have hD : va_D A ([(o_table, .inr (8, [.ref table_a_entry, .ref table_a_lineName, .ref table_a_columnName, .int table_v_goals, .int table_v_lines, .int table_v_columns, .long table_v_base])), (table_a_entry, .inl (k_table_a_entry, 18, .inr (.inr (.inr (.inr (rows_of 18 R_table_a_entry)))))), (a_columnSign, .inl (k_a_columnSign, 12, .inl f_a_columnSign)), (hire_a_costs, .inl (k_hire_a_costs, 5, .inl f_hire_a_costs)), (hire_a_rate, .inl (k_hire_a_rate, 3, .inl f_hire_a_rate)), (hire_a_mark, .inl (k_hire_a_mark, 2, .inl f_hire_a_mark)), (o, .inr (4, [.ref a_above, .long v_aboveLower, .ref o_table, .ref a_columnSign, .ref a_columnRate, .ref a_columnRoom, .int v_columns, .int v_rooms, .ref o_hire, .int v_work, .int v_keptSign, .int v_joinedSign])), (o_hire, .inr (3, [.int hire_v_signs, .int hire_v_works, .int hire_v_whole, .int hire_v_otherwise, .int hire_v_least, .int hire_v_rates, .ref hire_a_brings, .ref hire_a_costs, .ref hire_a_chances, .ref hire_a_rate, .ref hire_a_mark])), (hire_a_chances, .inl (k_hire_a_chances, 5, .inr (.inr (.inr (.inr (rows_of 5 R_hire_a_chances))))))] ++ va_pl LP f13) := hD
        refine W.widen (k := 0) (n := 0) (by decide) (by decide) ?_
        refine lv_isub hx hb dX4_fillLines_106 ?_
        refine lv_topi (fun x27 ex27 => ?_)
        have br26 := hr26.u
        have tx27 := i32_sub ex27 (show (0 : Int32).toInt = 0 by decide) rfl (by omega) (by omega)
        refine lv_i2l (v := (x27).toInt64) hx hb dX4_fillLines_107 rfl ?_
        obtain ⟨gk28, hgk28⟩ := pok_13 (hf13) mrw5
        obtain ⟨kk29, hkk29⟩ := va_pl_get (X := [(o_table, .inr (8, [.ref table_a_entry, .ref table_a_lineName, .ref table_a_columnName, .int table_v_goals, .int table_v_lines, .int table_v_columns, .long table_v_base])), (table_a_entry, .inl (k_table_a_entry, 18, .inr (.inr (.inr (.inr (rows_of 18 R_table_a_entry)))))), (a_columnSign, .inl (k_a_columnSign, 12, .inl f_a_columnSign)), (hire_a_costs, .inl (k_hire_a_costs, 5, .inl f_hire_a_costs)), (hire_a_rate, .inl (k_hire_a_rate, 3, .inl f_hire_a_rate)), (hire_a_mark, .inl (k_hire_a_mark, 2, .inl f_hire_a_mark)), (o, .inr (4, [.ref a_above, .long v_aboveLower, .ref o_table, .ref a_columnSign, .ref a_columnRate, .ref a_columnRoom, .int v_columns, .int v_rooms, .ref o_hire, .int v_work, .int v_keptSign, .int v_joinedSign])), (o_hire, .inr (3, [.int hire_v_signs, .int hire_v_works, .int hire_v_whole, .int hire_v_otherwise, .int hire_v_least, .int hire_v_rates, .ref hire_a_brings, .ref hire_a_costs, .ref hire_a_chances, .ref hire_a_rate, .ref hire_a_mark])), (hire_a_chances, .inl (k_hire_a_chances, 5, .inr (.inr (.inr (.inr (rows_of 5 R_hire_a_chances))))))]) (f := f13) mrw5.1
        have qkk29 := hkk29
        rw [hgk28] at qkk29
        have hDo := hD
        refine va_last hx hb hK hP hD hS kk29 7 qkk29 rfl (vq_in x17 13 (by omega)) dX4_fillLines_108 (fun H locs hP hD hS => ?_)
        rw [va_pl_set hDo mrw5.1 hkk29] at hP hD
        have hfp30 := pok_up13 hf13 mrw5 (Int32.toNatClampNeg x17) ((x27).toInt64) gk28
        generalize va_up f13 rw5 _ = fp30 at hP hD hfp30
        have hP : va_P (dC, dI) vwCl ([(o_table, .inr (8, [.ref table_a_entry, .ref table_a_lineName, .ref table_a_columnName, .int table_v_goals, .int table_v_lines, .int table_v_columns, .long table_v_base])), (table_a_entry, .inl (k_table_a_entry, 18, .inr (.inr (.inr (.inr (rows_of 18 R_table_a_entry)))))), (a_columnSign, .inl (k_a_columnSign, 12, .inl f_a_columnSign)), (hire_a_costs, .inl (k_hire_a_costs, 5, .inl f_hire_a_costs)), (hire_a_rate, .inl (k_hire_a_rate, 3, .inl f_hire_a_rate)), (hire_a_mark, .inl (k_hire_a_mark, 2, .inl f_hire_a_mark)), (o, .inr (4, [.ref a_above, .long v_aboveLower, .ref o_table, .ref a_columnSign, .ref a_columnRate, .ref a_columnRoom, .int v_columns, .int v_rooms, .ref o_hire, .int v_work, .int v_keptSign, .int v_joinedSign])), (o_hire, .inr (3, [.int hire_v_signs, .int hire_v_works, .int hire_v_whole, .int hire_v_otherwise, .int hire_v_least, .int hire_v_rates, .ref hire_a_brings, .ref hire_a_costs, .ref hire_a_chances, .ref hire_a_rate, .ref hire_a_mark])), (hire_a_chances, .inl (k_hire_a_chances, 5, .inr (.inr (.inr (.inr (rows_of 5 R_hire_a_chances))))))] ++ va_pl LP fp30) H := hP
        have hD : va_D A ([(o_table, .inr (8, [.ref table_a_entry, .ref table_a_lineName, .ref table_a_columnName, .int table_v_goals, .int table_v_lines, .int table_v_columns, .long table_v_base])), (table_a_entry, .inl (k_table_a_entry, 18, .inr (.inr (.inr (.inr (rows_of 18 R_table_a_entry)))))), (a_columnSign, .inl (k_a_columnSign, 12, .inl f_a_columnSign)), (hire_a_costs, .inl (k_hire_a_costs, 5, .inl f_hire_a_costs)), (hire_a_rate, .inl (k_hire_a_rate, 3, .inl f_hire_a_rate)), (hire_a_mark, .inl (k_hire_a_mark, 2, .inl f_hire_a_mark)), (o, .inr (4, [.ref a_above, .long v_aboveLower, .ref o_table, .ref a_columnSign, .ref a_columnRate, .ref a_columnRoom, .int v_columns, .int v_rooms, .ref o_hire, .int v_work, .int v_keptSign, .int v_joinedSign])), (o_hire, .inr (3, [.int hire_v_signs, .int hire_v_works, .int hire_v_whole, .int hire_v_otherwise, .int hire_v_least, .int hire_v_rates, .ref hire_a_brings, .ref hire_a_costs, .ref hire_a_chances, .ref hire_a_rate, .ref hire_a_mark])), (hire_a_chances, .inl (k_hire_a_chances, 5, .inr (.inr (.inr (.inr (rows_of 5 R_hire_a_chances))))))] ++ va_pl LP fp30) := hD
        obtain ⟨x31, ex31⟩ : ∃ z : Int32, v12 + Int32.ofInt 1 = z := ⟨_, rfl⟩
        have tx31 := i32_inc ex31 rfl (by decide) (by omega) (by omega)
        refine lv_iinc (v := x31) (lv' := [(4, .int x31), (5, .int x16), (3, .ref rw5), (2, .int v1), (0, .ref o), (1, .int p0)]) hx hb dX4_fillLines_109 hl (k := 1) rfl ex31 (by decide) rfl (fun ls hl => ?_)
        refine lv_goto (tgt := 54) hx hb dX4_fillLines_112 (by decide) ?_
        exact ih54 _ _ _ _ (by omega) ⟨x31, fp30, rfl, (iv.m (by omega)), hfp30, hP.part [6, 0, 1, 2, 8, 7, 3, 4, 5] rfl, hD.part [6, 0, 1, 2, 8, 7, 3, 4, 5] (by decide) rfl, hS, lv_sub hl [0, 2, 3, 4, 5] rfl⟩

set_option maxHeartbeats 4000000 in
set_option maxRecDepth 100000 in
theorem ct_X4_fillRooms (l : Launch) (dC : Nat → ClassId) (dI : Nat → Nat → Nat) (o : Nat) (p0 : Int32) (a_above : Nat) (v_aboveLower : Int64) (o_table : Nat) (a_columnSign : Nat) (a_columnRate : Nat) (a_columnRoom : Nat) (v_columns : Int32) (v_rooms : Int32) (o_hire : Nat) (v_work : Int32) (v_keptSign : Int32) (v_joinedSign : Int32) (table_a_entry : Nat) (table_a_lineName : Nat) (table_a_columnName : Nat) (table_v_goals : Int32) (table_v_lines : Int32) (table_v_columns : Int32) (table_v_base : Int64) (k_table_a_entry : ClassId) (R_table_a_entry : Nat → Nat) (k_a_columnRoom : ClassId) (f_a_columnRoom : Nat → Int32) (LP : List Nat) (sh : Nat → Nat) (fp : Nat → va_E) (cI : ClassId) (cJ : ClassId) (hp0 : iv p0 0 18) (hv_columns : iv v_columns 0 12) (hfp : pok cI cJ LP sh fp) (hRR_table_a_entry : ∀ i : Nat, i < 18 → R_table_a_entry i ∈ LP ∧ sh (R_table_a_entry i) = 13) (sz : Nat) : Met l yX4_fillRooms wsX4_fillRooms ({ frames := 0, cells := 0, slots := 0, locals := 0 }) (va_Pc [.ref o, .int p0] (fun U => U.heap.size = sz ∧ va_P (dC, dI) vwCl ([(o, .inr (4, [.ref a_above, .long v_aboveLower, .ref o_table, .ref a_columnSign, .ref a_columnRate, .ref a_columnRoom, .int v_columns, .int v_rooms, .ref o_hire, .int v_work, .int v_keptSign, .int v_joinedSign])), (o_table, .inr (8, [.ref table_a_entry, .ref table_a_lineName, .ref table_a_columnName, .int table_v_goals, .int table_v_lines, .int table_v_columns, .long table_v_base])), (table_a_entry, .inl (k_table_a_entry, 18, .inr (.inr (.inr (.inr (rows_of 18 R_table_a_entry)))))), (a_columnRoom, .inl (k_a_columnRoom, 12, .inl f_a_columnRoom))] ++ va_pl LP fp) U.heap ∧ va_K (dC, dI) vwCl [(k_table_a_entry, (.array .long)), (k_a_columnRoom, .int), (cI, .int), (cJ, .long)] U ∧ va_D (fun _ => True) ([(o, .inr (4, [.ref a_above, .long v_aboveLower, .ref o_table, .ref a_columnSign, .ref a_columnRate, .ref a_columnRoom, .int v_columns, .int v_rooms, .ref o_hire, .int v_work, .int v_keptSign, .int v_joinedSign])), (o_table, .inr (8, [.ref table_a_entry, .ref table_a_lineName, .ref table_a_columnName, .int table_v_goals, .int table_v_lines, .int table_v_columns, .long table_v_base])), (table_a_entry, .inl (k_table_a_entry, 18, .inr (.inr (.inr (.inr (rows_of 18 R_table_a_entry)))))), (a_columnRoom, .inl (k_a_columnRoom, 12, .inl f_a_columnRoom))] ++ va_pl LP fp))) (va_Qv (fun _ : Unit => True) (fun _ t => ∃ (e_fp : Nat → va_E), pok cI cJ LP sh e_fp ∧ va_P (dC, dI) vwCl ([(o, .inr (4, [.ref a_above, .long v_aboveLower, .ref o_table, .ref a_columnSign, .ref a_columnRate, .ref a_columnRoom, .int v_columns, .int v_rooms, .ref o_hire, .int v_work, .int v_keptSign, .int v_joinedSign])), (o_table, .inr (8, [.ref table_a_entry, .ref table_a_lineName, .ref table_a_columnName, .int table_v_goals, .int table_v_lines, .int table_v_columns, .long table_v_base])), (table_a_entry, .inl (k_table_a_entry, 18, .inr (.inr (.inr (.inr (rows_of 18 R_table_a_entry)))))), (a_columnRoom, .inl (k_a_columnRoom, 12, .inl f_a_columnRoom))] ++ va_pl LP e_fp) t.heap ∧ va_D (va_A ([(o, .inr (4, [.ref a_above, .long v_aboveLower, .ref o_table, .ref a_columnSign, .ref a_columnRate, .ref a_columnRoom, .int v_columns, .int v_rooms, .ref o_hire, .int v_work, .int v_keptSign, .int v_joinedSign])), (o_table, .inr (8, [.ref table_a_entry, .ref table_a_lineName, .ref table_a_columnName, .int table_v_goals, .int table_v_lines, .int table_v_columns, .long table_v_base])), (table_a_entry, .inl (k_table_a_entry, 18, .inr (.inr (.inr (.inr (rows_of 18 R_table_a_entry)))))), (a_columnRoom, .inl (k_a_columnRoom, 12, .inl f_a_columnRoom))] ++ va_pl LP fp) sz) ([(o, .inr (4, [.ref a_above, .long v_aboveLower, .ref o_table, .ref a_columnSign, .ref a_columnRate, .ref a_columnRoom, .int v_columns, .int v_rooms, .ref o_hire, .int v_work, .int v_keptSign, .int v_joinedSign])), (o_table, .inr (8, [.ref table_a_entry, .ref table_a_lineName, .ref table_a_columnName, .int table_v_goals, .int table_v_lines, .int table_v_columns, .long table_v_base])), (table_a_entry, .inl (k_table_a_entry, 18, .inr (.inr (.inr (.inr (rows_of 18 R_table_a_entry)))))), (a_columnRoom, .inl (k_a_columnRoom, 12, .inl f_a_columnRoom))] ++ va_pl LP e_fp)) (va_A ([(o, .inr (4, [.ref a_above, .long v_aboveLower, .ref o_table, .ref a_columnSign, .ref a_columnRate, .ref a_columnRoom, .int v_columns, .int v_rooms, .ref o_hire, .int v_work, .int v_keptSign, .int v_joinedSign])), (o_table, .inr (8, [.ref table_a_entry, .ref table_a_lineName, .ref table_a_columnName, .int table_v_goals, .int table_v_lines, .int table_v_columns, .long table_v_base])), (table_a_entry, .inl (k_table_a_entry, 18, .inr (.inr (.inr (.inr (rows_of 18 R_table_a_entry)))))), (a_columnRoom, .inl (k_a_columnRoom, 12, .inl f_a_columnRoom))] ++ va_pl LP fp) sz)) 0 0 (va_A ([(o, .inr (4, [.ref a_above, .long v_aboveLower, .ref o_table, .ref a_columnSign, .ref a_columnRate, .ref a_columnRoom, .int v_columns, .int v_rooms, .ref o_hire, .int v_work, .int v_keptSign, .int v_joinedSign])), (o_table, .inr (8, [.ref table_a_entry, .ref table_a_lineName, .ref table_a_columnName, .int table_v_goals, .int table_v_lines, .int table_v_columns, .long table_v_base])), (table_a_entry, .inl (k_table_a_entry, 18, .inr (.inr (.inr (.inr (rows_of 18 R_table_a_entry)))))), (a_columnRoom, .inl (k_a_columnRoom, 12, .inl f_a_columnRoom))] ++ va_pl LP fp) sz) := by
  refine Met.ofW (cc := cX4_fillRooms) (maxL := 4) (ret := none) (by decide) rfl ?_
  intro p e s m args below meth c s₁ B hml hv
  obtain ⟨rfl, hsz, hP, hK, hD0⟩ := hv
  have hx := B.exec
  have hb := B.bytes
  have hr := B.returns
  have hts := atoms_spec (ws := wsX4_fillRooms) B.pre
  have hown : s.vm.findClass RX4 = some m.cls := findClass_of_methodNamed B.named
  have hlocks := B.notSynchronized
  subst hsz
  have hD := hD0.self (sz := s.heap.size)
  generalize hAe : va_A ([(o, .inr (4, [.ref a_above, .long v_aboveLower, .ref o_table, .ref a_columnSign, .ref a_columnRate, .ref a_columnRoom, .int v_columns, .int v_rooms, .ref o_hire, .int v_work, .int v_keptSign, .int v_joinedSign])), (o_table, .inr (8, [.ref table_a_entry, .ref table_a_lineName, .ref table_a_columnName, .int table_v_goals, .int table_v_lines, .int table_v_columns, .long table_v_base])), (table_a_entry, .inl (k_table_a_entry, 18, .inr (.inr (.inr (.inr (rows_of 18 R_table_a_entry)))))), (a_columnRoom, .inl (k_a_columnRoom, 12, .inl f_a_columnRoom))] ++ va_pl LP fp) s.heap.size = A at hD ⊢
  have hA : ∀ q : Nat, s.heap.size ≤ q → A q := fun q h => by rw [← hAe]; exact Or.inr h
  have hS : va_S A s.heap s.heap [] := va_S.rf
  have hP : va_P (dC, dI) vwCl ([(o, .inr (4, [.ref a_above, .long v_aboveLower, .ref o_table, .ref a_columnSign, .ref a_columnRate, .ref a_columnRoom, .int v_columns, .int v_rooms, .ref o_hire, .int v_work, .int v_keptSign, .int v_joinedSign])), (o_table, .inr (8, [.ref table_a_entry, .ref table_a_lineName, .ref table_a_columnName, .int table_v_goals, .int table_v_lines, .int table_v_columns, .long table_v_base])), (table_a_entry, .inl (k_table_a_entry, 18, .inr (.inr (.inr (.inr (rows_of 18 R_table_a_entry)))))), (a_columnRoom, .inl (k_a_columnRoom, 12, .inl f_a_columnRoom))] ++ va_pl LP fp) s.heap := hP
  have hl := lv_entry ([.ref o, .int p0]) (n := 4) (Nat.le_of_ble_eq_true rfl)
  rw [lg_entry_eq]
  generalize (lg_sl ([.ref o, .int p0]) ++ List.replicate (4 - (lg_sl ([.ref o, .int p0])).length) Slot.unset).toArray = ls at hl ⊢
  have hl : lv_has ls 4 [(0, .ref o), (1, .int p0)] := hl
  refine lv_iload_n hx hb dX4_fillRooms_0 rfl (lv_at hl 1 rfl) ?_
  refine lv_istore_n (lv' := [(2, .int p0), (0, .ref o), (1, .int p0)]) hx hb dX4_fillRooms_1 rfl hl (by decide) rfl (fun ls hl => ?_)
  refine lv_iconst (v := 0) hx hb dX4_fillRooms_2 (by decide) ?_
  refine lv_istore_n (lv' := [(3, .int 0), (2, .int p0), (0, .ref o), (1, .int p0)]) hx hb dX4_fillRooms_3 rfl hl (by decide) rfl (fun ls hl => ?_)
  refine tl_loop (I := fun nn H locs ls => ∃ (v1 : Int32) (v2 : Int32) (f3 : Nat → va_E), nn = (12 - v1.toInt).toNat ∧ iv v1 0 12 ∧ iv v2 0 18 ∧ pok cI cJ LP sh f3 ∧  va_P (dC, dI) vwCl ([(o, .inr (4, [.ref a_above, .long v_aboveLower, .ref o_table, .ref a_columnSign, .ref a_columnRate, .ref a_columnRoom, .int v_columns, .int v_rooms, .ref o_hire, .int v_work, .int v_keptSign, .int v_joinedSign])), (o_table, .inr (8, [.ref table_a_entry, .ref table_a_lineName, .ref table_a_columnName, .int table_v_goals, .int table_v_lines, .int table_v_columns, .long table_v_base])), (table_a_entry, .inl (k_table_a_entry, 18, .inr (.inr (.inr (.inr (rows_of 18 R_table_a_entry)))))), (a_columnRoom, .inl (k_a_columnRoom, 12, .inl f_a_columnRoom))] ++ va_pl LP f3) H ∧ va_D A ([(o, .inr (4, [.ref a_above, .long v_aboveLower, .ref o_table, .ref a_columnSign, .ref a_columnRate, .ref a_columnRoom, .int v_columns, .int v_rooms, .ref o_hire, .int v_work, .int v_keptSign, .int v_joinedSign])), (o_table, .inr (8, [.ref table_a_entry, .ref table_a_lineName, .ref table_a_columnName, .int table_v_goals, .int table_v_lines, .int table_v_columns, .long table_v_base])), (table_a_entry, .inl (k_table_a_entry, 18, .inr (.inr (.inr (.inr (rows_of 18 R_table_a_entry)))))), (a_columnRoom, .inl (k_a_columnRoom, 12, .inl f_a_columnRoom))] ++ va_pl LP f3) ∧ va_S A s.heap H locs ∧ lv_has ls 4 [(3, .int v1), (2, .int v2), (0, .ref o), (1, .int p0)]) ?_ ⟨0, p0, fp, rfl, (iv.m (by decide)), hp0, hfp, hP, hD, hS, lv_sub hl [0, 1, 2, 3] rfl⟩
  clear hP hD hS hl
  intro nn4 H locs ls hI ih4
  obtain ⟨v1, v2, f3, hn4, hv1, hv2, hf3, hP, hD, hS, hl⟩ := hI
  have bv1 := hv1.u
  have bv2 := hv2.u
  refine lv_iload_n hx hb dX4_fillRooms_4 rfl (lv_at hl 0 rfl) ?_
  refine lv_aload_n hx hb dX4_fillRooms_5 rfl (lv_at hl 2 rfl) ?_
  refine va_get (D := (dC, dI)) (ci := 4) (v := .int v_columns) (C := RX4) (T := TX4) (N := 12) hx hb hts iw_X4_fillRooms_X4 hown hK hP 0 rfl rfl 6 (by decide) (hts _ kk_X4_fillRooms_0) (fun _ h9 => h9) rfl dX4_fillRooms_6 ?_
  have bv_columns := hv_columns.u
  refine lv_icmp_ge (tgt := 69) hx hb dX4_fillRooms_9 (by decide) (fun c4 => ?_) (fun c4 => ?_)
  · have c49 := i32_le c4 rfl rfl
    have hP9 := hP.part (cx := [(o, .inr (4, [.ref a_above, .long v_aboveLower, .ref o_table, .ref a_columnSign, .ref a_columnRate, .ref a_columnRoom, .int v_columns, .int v_rooms, .ref o_hire, .int v_work, .int v_keptSign, .int v_joinedSign])), (o_table, .inr (8, [.ref table_a_entry, .ref table_a_lineName, .ref table_a_columnName, .int table_v_goals, .int table_v_lines, .int table_v_columns, .long table_v_base])), (table_a_entry, .inl (k_table_a_entry, 18, .inr (.inr (.inr (.inr (rows_of 18 R_table_a_entry)))))), (a_columnRoom, .inl (k_a_columnRoom, 12, .inl f_a_columnRoom))]) [0, 1, 2, 3] rfl
    have hD9 := hD.part (cx := [(o, .inr (4, [.ref a_above, .long v_aboveLower, .ref o_table, .ref a_columnSign, .ref a_columnRate, .ref a_columnRoom, .int v_columns, .int v_rooms, .ref o_hire, .int v_work, .int v_keptSign, .int v_joinedSign])), (o_table, .inr (8, [.ref table_a_entry, .ref table_a_lineName, .ref table_a_columnName, .int table_v_goals, .int table_v_lines, .int table_v_columns, .long table_v_base])), (table_a_entry, .inl (k_table_a_entry, 18, .inr (.inr (.inr (.inr (rows_of 18 R_table_a_entry)))))), (a_columnRoom, .inl (k_a_columnRoom, 12, .inl f_a_columnRoom))]) [0, 1, 2, 3] (by decide) rfl
    exact W.vret hx hb hr (fun t ht hW => ⟨⟨(), rfl, trivial, f3, hf3, by rw [ht]; exact hP9, hD9⟩, hS.F ht⟩) hS.2.2 dX4_fillRooms_69
  · have c49 := i32_nle c4 rfl rfl
    refine lv_iload_n hx hb dX4_fillRooms_12 rfl (lv_at hl 1 rfl) ?_
    refine lv_bipush (v := 18) hx hb dX4_fillRooms_13 (by decide) ?_
    refine lv_icmp_ge (tgt := 69) hx hb dX4_fillRooms_15 (by decide) (fun c5 => ?_) (fun c5 => ?_)
    · have c59 := i32_le c5 (show (18 : Int32).toInt = 18 by decide) rfl
      have hP9 := hP.part (cx := [(o, .inr (4, [.ref a_above, .long v_aboveLower, .ref o_table, .ref a_columnSign, .ref a_columnRate, .ref a_columnRoom, .int v_columns, .int v_rooms, .ref o_hire, .int v_work, .int v_keptSign, .int v_joinedSign])), (o_table, .inr (8, [.ref table_a_entry, .ref table_a_lineName, .ref table_a_columnName, .int table_v_goals, .int table_v_lines, .int table_v_columns, .long table_v_base])), (table_a_entry, .inl (k_table_a_entry, 18, .inr (.inr (.inr (.inr (rows_of 18 R_table_a_entry)))))), (a_columnRoom, .inl (k_a_columnRoom, 12, .inl f_a_columnRoom))]) [0, 1, 2, 3] rfl
      have hD9 := hD.part (cx := [(o, .inr (4, [.ref a_above, .long v_aboveLower, .ref o_table, .ref a_columnSign, .ref a_columnRate, .ref a_columnRoom, .int v_columns, .int v_rooms, .ref o_hire, .int v_work, .int v_keptSign, .int v_joinedSign])), (o_table, .inr (8, [.ref table_a_entry, .ref table_a_lineName, .ref table_a_columnName, .int table_v_goals, .int table_v_lines, .int table_v_columns, .long table_v_base])), (table_a_entry, .inl (k_table_a_entry, 18, .inr (.inr (.inr (.inr (rows_of 18 R_table_a_entry)))))), (a_columnRoom, .inl (k_a_columnRoom, 12, .inl f_a_columnRoom))]) [0, 1, 2, 3] (by decide) rfl
      exact W.vret hx hb hr (fun t ht hW => ⟨⟨(), rfl, trivial, f3, hf3, by rw [ht]; exact hP9, hD9⟩, hS.F ht⟩) hS.2.2 dX4_fillRooms_69
    · have c59 := i32_nle c5 (show (18 : Int32).toInt = 18 by decide) rfl
      refine lv_aload_n hx hb dX4_fillRooms_18 rfl (lv_at hl 2 rfl) ?_
      refine va_get (D := (dC, dI)) (ci := 4) (v := .ref a_columnRoom) (C := RX4) (T := TX4) (N := 12) hx hb hts iw_X4_fillRooms_X4 hown hK hP 0 rfl rfl 5 (by decide) (hts _ kk_X4_fillRooms_1) (fun _ h9 => h9) rfl dX4_fillRooms_19 ?_
      refine lv_iload_n hx hb dX4_fillRooms_22 rfl (lv_at hl 0 rfl) ?_
      refine va_iald hx hb hK hP 3 1 rfl rfl (vq_in v1 12 (by omega)) dX4_fillRooms_23 ?_
      refine lv_topi (fun x6 ex6 => ?_)
      refine lv_iconst (v := (-1)) hx hb dX4_fillRooms_24 (by decide) ?_
      have bx6 := i32_rng x6
      refine lv_icmp_eq (tgt := 63) hx hb dX4_fillRooms_25 (by decide) (fun c7 => ?_) (fun c7 => ?_)
      · have c79 := i32_eq c7 rfl (show ((-1) : Int32).toInt = -1 by decide)
        obtain ⟨x8, ex8⟩ : ∃ z : Int32, v1 + Int32.ofInt 1 = z := ⟨_, rfl⟩
        have tx8 := i32_inc ex8 rfl (by decide) (by omega) (by omega)
        refine lv_iinc (v := x8) (lv' := [(3, .int x8), (2, .int v2), (0, .ref o), (1, .int p0)]) hx hb dX4_fillRooms_63 hl (k := 0) rfl ex8 (by decide) rfl (fun ls hl => ?_)
        refine lv_goto (tgt := 4) hx hb dX4_fillRooms_66 (by decide) ?_
        exact ih4 _ _ _ _ (by omega) ⟨x8, v2, f3, rfl, (iv.m (by omega)), (iv.m (by omega)), hf3, hP, hD, hS, lv_sub hl [0, 1, 2, 3] rfl⟩
      · have c79 := i32_ne c7 rfl (show ((-1) : Int32).toInt = -1 by decide)
        refine lv_aload_n hx hb dX4_fillRooms_28 rfl (lv_at hl 2 rfl) ?_
        refine va_get (D := (dC, dI)) (ci := 4) (v := .ref o_table) (C := RX4) (T := TX4) (N := 12) hx hb hts iw_X4_fillRooms_X4 hown hK hP 0 rfl rfl 2 (by decide) (hts _ kk_X4_fillRooms_2) (fun _ h9 => h9) rfl dX4_fillRooms_29 ?_
        refine va_get (D := (dC, dI)) (ci := 8) (v := .ref table_a_entry) (C := RX8) (T := TX8) (N := 7) hx hb hts iw_X4_fillRooms_X8 hown hK hP 1 rfl rfl 0 (by decide) (hts _ kk_X4_fillRooms_3) (fun _ h9 => h9) rfl dX4_fillRooms_32 ?_
        refine lv_iload_n hx hb dX4_fillRooms_35 rfl (lv_at hl 1 rfl) ?_
        have hinrw9 : vp_in v2 18 := (vq_in v2 18 (by omega))
        refine va_aldA hx hb hK hP 2 0 rfl rfl hinrw9 dX4_fillRooms_36 ?_
        refine px_v (row_sel hinrw9) ?_
        obtain ⟨rw9, erw9⟩ : ∃ z : Nat, z = R_table_a_entry (Int32.toNatClampNeg v2) := ⟨_, rfl⟩
        rw [← erw9]
        have mrw9 : rw9 ∈ LP ∧ sh rw9 = 13 := by rw [erw9]; exact hRR_table_a_entry _ (vin_lt hinrw9)
        refine lv_iconst (v := 0) hx hb dX4_fillRooms_37 (by decide) ?_
        refine lv_aload_n hx hb dX4_fillRooms_38 rfl (lv_at hl 2 rfl) ?_
        refine va_get (D := (dC, dI)) (ci := 4) (v := .ref a_columnRoom) (C := RX4) (T := TX4) (N := 12) hx hb hts iw_X4_fillRooms_X4 hown hK hP 0 rfl rfl 5 (by decide) (hts _ kk_X4_fillRooms_1) (fun _ h9 => h9) rfl dX4_fillRooms_39 ?_
        refine lv_iload_n hx hb dX4_fillRooms_42 rfl (lv_at hl 0 rfl) ?_
        refine va_iald hx hb hK hP 3 1 rfl rfl (vq_in v1 12 (by omega)) dX4_fillRooms_43 ?_
        refine lv_topi (fun x10 ex10 => ?_)
        refine lv_i2l (v := (x10).toInt64) hx hb dX4_fillRooms_44 rfl ?_
        obtain ⟨gk11, hgk11⟩ := pok_13 (hf3) mrw9
        obtain ⟨kk12, hkk12⟩ := va_pl_get (X := [(o, .inr (4, [.ref a_above, .long v_aboveLower, .ref o_table, .ref a_columnSign, .ref a_columnRate, .ref a_columnRoom, .int v_columns, .int v_rooms, .ref o_hire, .int v_work, .int v_keptSign, .int v_joinedSign])), (o_table, .inr (8, [.ref table_a_entry, .ref table_a_lineName, .ref table_a_columnName, .int table_v_goals, .int table_v_lines, .int table_v_columns, .long table_v_base])), (table_a_entry, .inl (k_table_a_entry, 18, .inr (.inr (.inr (.inr (rows_of 18 R_table_a_entry)))))), (a_columnRoom, .inl (k_a_columnRoom, 12, .inl f_a_columnRoom))]) (f := f3) mrw9.1
        have qkk12 := hkk12
        rw [hgk11] at qkk12
        have hDo := hD
        refine va_last hx hb hK hP hD hS kk12 3 qkk12 rfl (vq_in 0 13 (by decide)) dX4_fillRooms_45 (fun H locs hP hD hS => ?_)
        rw [va_pl_set hDo mrw9.1 hkk12] at hP hD
        have hfp13 := pok_up13 hf3 mrw9 (Int32.toNatClampNeg 0) ((x10).toInt64) gk11
        generalize va_up f3 rw9 _ = fp13 at hP hD hfp13
        have hP : va_P (dC, dI) vwCl ([(o, .inr (4, [.ref a_above, .long v_aboveLower, .ref o_table, .ref a_columnSign, .ref a_columnRate, .ref a_columnRoom, .int v_columns, .int v_rooms, .ref o_hire, .int v_work, .int v_keptSign, .int v_joinedSign])), (o_table, .inr (8, [.ref table_a_entry, .ref table_a_lineName, .ref table_a_columnName, .int table_v_goals, .int table_v_lines, .int table_v_columns, .long table_v_base])), (table_a_entry, .inl (k_table_a_entry, 18, .inr (.inr (.inr (.inr (rows_of 18 R_table_a_entry)))))), (a_columnRoom, .inl (k_a_columnRoom, 12, .inl f_a_columnRoom))] ++ va_pl LP fp13) H := hP
        have hD : va_D A ([(o, .inr (4, [.ref a_above, .long v_aboveLower, .ref o_table, .ref a_columnSign, .ref a_columnRate, .ref a_columnRoom, .int v_columns, .int v_rooms, .ref o_hire, .int v_work, .int v_keptSign, .int v_joinedSign])), (o_table, .inr (8, [.ref table_a_entry, .ref table_a_lineName, .ref table_a_columnName, .int table_v_goals, .int table_v_lines, .int table_v_columns, .long table_v_base])), (table_a_entry, .inl (k_table_a_entry, 18, .inr (.inr (.inr (.inr (rows_of 18 R_table_a_entry)))))), (a_columnRoom, .inl (k_a_columnRoom, 12, .inl f_a_columnRoom))] ++ va_pl LP fp13) := hD
        refine lv_aload_n hx hb dX4_fillRooms_46 rfl (lv_at hl 2 rfl) ?_
        refine va_get (D := (dC, dI)) (ci := 4) (v := .ref o_table) (C := RX4) (T := TX4) (N := 12) hx hb hts iw_X4_fillRooms_X4 hown hK hP 0 rfl rfl 2 (by decide) (hts _ kk_X4_fillRooms_2) (fun _ h9 => h9) rfl dX4_fillRooms_47 ?_
        refine va_get (D := (dC, dI)) (ci := 8) (v := .ref table_a_entry) (C := RX8) (T := TX8) (N := 7) hx hb hts iw_X4_fillRooms_X8 hown hK hP 1 rfl rfl 0 (by decide) (hts _ kk_X4_fillRooms_3) (fun _ h9 => h9) rfl dX4_fillRooms_50 ?_
        refine lv_iload_n hx hb dX4_fillRooms_53 rfl (lv_at hl 1 rfl) ?_
        have hinrw14 : vp_in v2 18 := (vq_in v2 18 (by omega))
        refine va_aldA hx hb hK hP 2 0 rfl rfl hinrw14 dX4_fillRooms_54 ?_
        refine px_v (row_sel hinrw14) ?_
        obtain ⟨rw14, erw14⟩ : ∃ z : Nat, z = R_table_a_entry (Int32.toNatClampNeg v2) := ⟨_, rfl⟩
        rw [← erw14]
        have mrw14 : rw14 ∈ LP ∧ sh rw14 = 13 := by rw [erw14]; exact hRR_table_a_entry _ (vin_lt hinrw14)
        refine lv_iload_n hx hb dX4_fillRooms_55 rfl (lv_at hl 0 rfl) ?_
        refine lv_iconst (v := 1) hx hb dX4_fillRooms_56 (by decide) ?_
        refine lv_iadd hx hb dX4_fillRooms_57 ?_
        refine lv_topi (fun x15 ex15 => ?_)
        have tx15 := i32_add ex15 rfl (show (1 : Int32).toInt = 1 by decide) (by omega) (by omega)
        refine lv_lconst (v := 1) hx hb dX4_fillRooms_58 (by decide) ?_
        obtain ⟨gk16, hgk16⟩ := pok_13 (hfp13) mrw14
        obtain ⟨kk17, hkk17⟩ := va_pl_get (X := [(o, .inr (4, [.ref a_above, .long v_aboveLower, .ref o_table, .ref a_columnSign, .ref a_columnRate, .ref a_columnRoom, .int v_columns, .int v_rooms, .ref o_hire, .int v_work, .int v_keptSign, .int v_joinedSign])), (o_table, .inr (8, [.ref table_a_entry, .ref table_a_lineName, .ref table_a_columnName, .int table_v_goals, .int table_v_lines, .int table_v_columns, .long table_v_base])), (table_a_entry, .inl (k_table_a_entry, 18, .inr (.inr (.inr (.inr (rows_of 18 R_table_a_entry)))))), (a_columnRoom, .inl (k_a_columnRoom, 12, .inl f_a_columnRoom))]) (f := fp13) mrw14.1
        have qkk17 := hkk17
        rw [hgk16] at qkk17
        have hDo := hD
        refine va_last hx hb hK hP hD hS kk17 3 qkk17 rfl (vq_in x15 13 (by omega)) dX4_fillRooms_59 (fun H locs hP hD hS => ?_)
        rw [va_pl_set hDo mrw14.1 hkk17] at hP hD
        have hfp18 := pok_up13 hfp13 mrw14 (Int32.toNatClampNeg x15) 1 gk16
        generalize va_up fp13 rw14 _ = fp18 at hP hD hfp18
        have hP : va_P (dC, dI) vwCl ([(o, .inr (4, [.ref a_above, .long v_aboveLower, .ref o_table, .ref a_columnSign, .ref a_columnRate, .ref a_columnRoom, .int v_columns, .int v_rooms, .ref o_hire, .int v_work, .int v_keptSign, .int v_joinedSign])), (o_table, .inr (8, [.ref table_a_entry, .ref table_a_lineName, .ref table_a_columnName, .int table_v_goals, .int table_v_lines, .int table_v_columns, .long table_v_base])), (table_a_entry, .inl (k_table_a_entry, 18, .inr (.inr (.inr (.inr (rows_of 18 R_table_a_entry)))))), (a_columnRoom, .inl (k_a_columnRoom, 12, .inl f_a_columnRoom))] ++ va_pl LP fp18) H := hP
        have hD : va_D A ([(o, .inr (4, [.ref a_above, .long v_aboveLower, .ref o_table, .ref a_columnSign, .ref a_columnRate, .ref a_columnRoom, .int v_columns, .int v_rooms, .ref o_hire, .int v_work, .int v_keptSign, .int v_joinedSign])), (o_table, .inr (8, [.ref table_a_entry, .ref table_a_lineName, .ref table_a_columnName, .int table_v_goals, .int table_v_lines, .int table_v_columns, .long table_v_base])), (table_a_entry, .inl (k_table_a_entry, 18, .inr (.inr (.inr (.inr (rows_of 18 R_table_a_entry)))))), (a_columnRoom, .inl (k_a_columnRoom, 12, .inl f_a_columnRoom))] ++ va_pl LP fp18) := hD
        obtain ⟨x19, ex19⟩ : ∃ z : Int32, v2 + Int32.ofInt 1 = z := ⟨_, rfl⟩
        have tx19 := i32_inc ex19 rfl (by decide) (by omega) (by omega)
        refine lv_iinc (v := x19) (lv' := [(2, .int x19), (3, .int v1), (0, .ref o), (1, .int p0)]) hx hb dX4_fillRooms_60 hl (k := 1) rfl ex19 (by decide) rfl (fun ls hl => ?_)
        obtain ⟨x20, ex20⟩ : ∃ z : Int32, v1 + Int32.ofInt 1 = z := ⟨_, rfl⟩
        have tx20 := i32_inc ex20 rfl (by decide) (by omega) (by omega)
        refine lv_iinc (v := x20) (lv' := [(3, .int x20), (2, .int x19), (0, .ref o), (1, .int p0)]) hx hb dX4_fillRooms_63 hl (k := 1) rfl ex20 (by decide) rfl (fun ls hl => ?_)
        refine lv_goto (tgt := 4) hx hb dX4_fillRooms_66 (by decide) ?_
        exact ih4 _ _ _ _ (by omega) ⟨x20, x19, fp18, rfl, (iv.m (by omega)), (iv.m (by omega)), hfp18, hP, hD, hS, lv_sub hl [0, 1, 2, 3] rfl⟩

