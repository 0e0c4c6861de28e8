abbrev cX3_wageOf : ByteArray := prog_5_method_4_code
def yX3_wageOf : MethodName := ⟨RX3, "wageOf", "(JJLPaidBySigns$Fraction;)V"⟩
abbrev cX3_broughtBy : ByteArray := prog_5_method_9_code
def yX3_broughtBy : MethodName := ⟨RX3, "broughtBy", "(I)I"⟩
abbrev cX3_chanceFrom : ByteArray := prog_5_method_10_code
def yX3_chanceFrom : MethodName := ⟨RX3, "chanceFrom", "(II)I"⟩
def tyX4 : Nat → FieldType := fun k => match k with
  | 0 => .array .long
  | 1 => .long
  | 2 => .object "PaidBySigns$Table"
  | 3 => .array .int
  | 4 => .array .int
  | 5 => .array .int
  | 6 => .int
  | 7 => .int
  | 8 => .object "PaidBySigns$Hire"
  | 9 => .int
  | 10 => .int
  | _ => .int
abbrev wsX40 : List Cond := u_ws RX4 TX4 12
theorem nmX4 : ∀ a, a < 12 → ∀ b, b < 12 → a ≠ b → (TX4 a).2.1 ≠ (TX4 b).2.1 := by decide +kernel
theorem tyX4_ok : ∀ k, k < 12 → parseFieldDescriptor (TX4 k).2.2.1 = some (tyX4 k) := by decide +kernel
abbrev cX4_chanceOf : ByteArray := prog_6_method_8_code
def yX4_chanceOf : MethodName := ⟨RX4, "chanceOf", "(II)I"⟩
abbrev cX4_listSteps : ByteArray := prog_6_method_10_code
def yX4_listSteps : MethodName := ⟨RX4, "listSteps", "(I)V"⟩
def wsX3_wageOf : List Cond := .code yX3_wageOf cX3_wageOf 13 none :: ([.fieldLink RX3 48 "PaidBySigns$Hire" "rates" "I", .fieldLink RX3 23 "PaidBySigns$Hire" "rate" "[I", .fieldLink RX3 26 "PaidBySigns$Hire" "mark" "[I", .methodLink RX3 57 yX2_become, .instanceMethod yX2_become, .selects RX2 yX2_become yX2_become, .initialized RX2, .code yX2_become cX2_become 7 none, .methodLink RX2 20 Lib.MathLoose.abs_long.x, .static Lib.MathLoose.abs_long.x, .initialized "java/lang/Math", .code Lib.MathLoose.abs_long.x Lib.MathLoose.abs_long.code 2 (some .long), .fieldLink RX2 11 "PaidBySigns$Fraction" "upper" "J", .fieldLink RX2 17 "PaidBySigns$Fraction" "lower" "J", .methodLink RX2 26 yX2_commonPart, .static yX2_commonPart, .code yX2_commonPart cX2_commonPart 11 (some .long), .methodLink RX2 30 yX2_forget, .instanceMethod yX2_forget, .selects RX2 yX2_forget yX2_forget, .code yX2_forget cX2_forget 1 none, .constantLong RX2 9 (-2000000000)] ++ wsX30 ++ wsX20)
def wsX3_broughtBy : List Cond := .code yX3_broughtBy cX3_broughtBy 4 (some .int) :: ([.fieldLink RX3 32 "PaidBySigns$Hire" "signs" "I", .fieldLink RX3 20 "PaidBySigns$Hire" "chances" "[[I", .fieldLink RX3 9 "PaidBySigns$Hire" "brings" "[I"] ++ wsX30)
def wsX3_chanceFrom : List Cond := .code yX3_chanceFrom cX3_chanceFrom 5 (some .int) :: ([.fieldLink RX3 32 "PaidBySigns$Hire" "signs" "I", .fieldLink RX3 9 "PaidBySigns$Hire" "brings" "[I", .fieldLink RX3 20 "PaidBySigns$Hire" "chances" "[[I"] ++ wsX30)
def wsX4_chanceOf : List Cond := .code yX4_chanceOf cX4_chanceOf 3 (some .int) :: ([.fieldLink RX4 56 "PaidBySigns$LeastCost" "joinedSign" "I", .fieldLink RX4 53 "PaidBySigns$LeastCost" "keptSign" "I", .fieldLink RX4 46 "PaidBySigns$LeastCost" "hire" "LPaidBySigns$Hire;", .fieldLink RX4 112 "PaidBySigns$Hire" "chances" "[[I"] ++ wsX40 ++ wsX30)
def wsX4_listSteps : List Cond := .code yX4_listSteps cX4_listSteps 5 none :: ([.fieldLink RX4 46 "PaidBySigns$LeastCost" "hire" "LPaidBySigns$Hire;", .fieldLink RX4 79 "PaidBySigns$Hire" "least" "I", .fieldLink RX4 119 "PaidBySigns$Hire" "rates" "I", .fieldLink RX4 36 "PaidBySigns$LeastCost" "columns" "I", .fieldLink RX4 122 "PaidBySigns$Hire" "mark" "[I", .fieldLink RX4 26 "PaidBySigns$LeastCost" "columnSign" "[I", .fieldLink RX4 30 "PaidBySigns$LeastCost" "columnRate" "[I", .fieldLink RX4 125 "PaidBySigns$Hire" "rate" "[I", .fieldLink RX4 33 "PaidBySigns$LeastCost" "columnRoom" "[I", .fieldLink RX4 40 "PaidBySigns$LeastCost" "rooms" "I"] ++ wsX40 ++ wsX30)
set_option maxRecDepth 20000 in
theorem ggX3_wageOf_X2_become : GoodIn wsX3_wageOf wsX2_become := goodIn_r _ [8, 9, 10, 11, 12, 13, 14, 15, 16, 7, 17, 18, 19, 20, 21, 22, 34, 35] (by decide +kernel) (by decide +kernel)
set_option maxRecDepth 20000 in
theorem gX3_wageOf_X2_become : GoodIn wsX3_wageOf (wsV RX3 57 RX2 yX2_become wsX2_become) := goodIn_app (goodIn_of _ (by decide +kernel)) ggX3_wageOf_X2_become
theorem dX3_wageOf_0 : decode cX3_wageOf 0 = .ok (.lconst 0, 1) := by decide +kernel
theorem dX3_wageOf_1 : decode cX3_wageOf 1 = .ok (.lstore 6, 2) := by decide +kernel
theorem dX3_wageOf_3 : decode cX3_wageOf 3 = .ok (.lconst 0, 1) := by decide +kernel
theorem dX3_wageOf_4 : decode cX3_wageOf 4 = .ok (.lstore 8, 2) := by decide +kernel
theorem dX3_wageOf_6 : decode cX3_wageOf 6 = .ok (.iconst 0, 1) := by decide +kernel
theorem dX3_wageOf_7 : decode cX3_wageOf 7 = .ok (.istore 10, 2) := by decide +kernel
theorem dX3_wageOf_9 : decode cX3_wageOf 9 = .ok (.iload 10, 2) := by decide +kernel
theorem dX3_wageOf_11 : decode cX3_wageOf 11 = .ok (.aload_n 0, 1) := by decide +kernel
theorem dX3_wageOf_12 : decode cX3_wageOf 12 = .ok (.getfield 48, 3) := by decide +kernel
theorem dX3_wageOf_15 : decode cX3_wageOf 15 = .ok (.iconst 1, 1) := by decide +kernel
theorem dX3_wageOf_16 : decode cX3_wageOf 16 = .ok (.isub, 1) := by decide +kernel
theorem dX3_wageOf_17 : decode cX3_wageOf 17 = .ok (.if_icmp .ge 60, 3) := by decide +kernel
theorem dX3_wageOf_20 : decode cX3_wageOf 20 = .ok (.lload 8, 2) := by decide +kernel
theorem dX3_wageOf_22 : decode cX3_wageOf 22 = .ok (.aload_n 0, 1) := by decide +kernel
theorem dX3_wageOf_23 : decode cX3_wageOf 23 = .ok (.getfield 23, 3) := by decide +kernel
theorem dX3_wageOf_26 : decode cX3_wageOf 26 = .ok (.iload 10, 2) := by decide +kernel
theorem dX3_wageOf_28 : decode cX3_wageOf 28 = .ok (.iaload, 1) := by decide +kernel
theorem dX3_wageOf_29 : decode cX3_wageOf 29 = .ok (.i2l, 1) := by decide +kernel
theorem dX3_wageOf_30 : decode cX3_wageOf 30 = .ok (.aload_n 0, 1) := by decide +kernel
theorem dX3_wageOf_31 : decode cX3_wageOf 31 = .ok (.getfield 26, 3) := by decide +kernel
theorem dX3_wageOf_34 : decode cX3_wageOf 34 = .ok (.iload 10, 2) := by decide +kernel
theorem dX3_wageOf_36 : decode cX3_wageOf 36 = .ok (.iaload, 1) := by decide +kernel
theorem dX3_wageOf_37 : decode cX3_wageOf 37 = .ok (.i2l, 1) := by decide +kernel
theorem dX3_wageOf_38 : decode cX3_wageOf 38 = .ok (.lload 6, 2) := by decide +kernel
theorem dX3_wageOf_40 : decode cX3_wageOf 40 = .ok (.lsub, 1) := by decide +kernel
theorem dX3_wageOf_41 : decode cX3_wageOf 41 = .ok (.lmul, 1) := by decide +kernel
theorem dX3_wageOf_42 : decode cX3_wageOf 42 = .ok (.ladd, 1) := by decide +kernel
theorem dX3_wageOf_43 : decode cX3_wageOf 43 = .ok (.lstore 11, 2) := by decide +kernel
theorem dX3_wageOf_45 : decode cX3_wageOf 45 = .ok (.lload_n 1, 1) := by decide +kernel
theorem dX3_wageOf_46 : decode cX3_wageOf 46 = .ok (.lload 11, 2) := by decide +kernel
theorem dX3_wageOf_48 : decode cX3_wageOf 48 = .ok (.lload_n 3, 1) := by decide +kernel
theorem dX3_wageOf_49 : decode cX3_wageOf 49 = .ok (.lmul, 1) := by decide +kernel
theorem dX3_wageOf_50 : decode cX3_wageOf 50 = .ok (.lcmp, 1) := by decide +kernel
theorem dX3_wageOf_51 : decode cX3_wageOf 51 = .ok (.ifCond .gt 6, 3) := by decide +kernel
theorem dX3_wageOf_54 : decode cX3_wageOf 54 = .ok (.goto 23, 3) := by decide +kernel
theorem dX3_wageOf_57 : decode cX3_wageOf 57 = .ok (.lload 11, 2) := by decide +kernel
theorem dX3_wageOf_59 : decode cX3_wageOf 59 = .ok (.lstore 8, 2) := by decide +kernel
theorem dX3_wageOf_61 : decode cX3_wageOf 61 = .ok (.aload_n 0, 1) := by decide +kernel
theorem dX3_wageOf_62 : decode cX3_wageOf 62 = .ok (.getfield 26, 3) := by decide +kernel
theorem dX3_wageOf_65 : decode cX3_wageOf 65 = .ok (.iload 10, 2) := by decide +kernel
theorem dX3_wageOf_67 : decode cX3_wageOf 67 = .ok (.iaload, 1) := by decide +kernel
theorem dX3_wageOf_68 : decode cX3_wageOf 68 = .ok (.i2l, 1) := by decide +kernel
theorem dX3_wageOf_69 : decode cX3_wageOf 69 = .ok (.lstore 6, 2) := by decide +kernel
theorem dX3_wageOf_71 : decode cX3_wageOf 71 = .ok (.iinc 10 1, 3) := by decide +kernel
theorem dX3_wageOf_74 : decode cX3_wageOf 74 = .ok (.goto (-65), 3) := by decide +kernel
theorem dX3_wageOf_77 : decode cX3_wageOf 77 = .ok (.aload 5, 2) := by decide +kernel
theorem dX3_wageOf_79 : decode cX3_wageOf 79 = .ok (.lload_n 1, 1) := by decide +kernel
theorem dX3_wageOf_80 : decode cX3_wageOf 80 = .ok (.lload 8, 2) := by decide +kernel
theorem dX3_wageOf_82 : decode cX3_wageOf 82 = .ok (.lload_n 3, 1) := by decide +kernel
theorem dX3_wageOf_83 : decode cX3_wageOf 83 = .ok (.lmul, 1) := by decide +kernel
theorem dX3_wageOf_84 : decode cX3_wageOf 84 = .ok (.lsub, 1) := by decide +kernel
theorem dX3_wageOf_85 : decode cX3_wageOf 85 = .ok (.lload 6, 2) := by decide +kernel
theorem dX3_wageOf_87 : decode cX3_wageOf 87 = .ok (.aload_n 0, 1) := by decide +kernel
theorem dX3_wageOf_88 : decode cX3_wageOf 88 = .ok (.getfield 23, 3) := by decide +kernel
theorem dX3_wageOf_91 : decode cX3_wageOf 91 = .ok (.iload 10, 2) := by decide +kernel
theorem dX3_wageOf_93 : decode cX3_wageOf 93 = .ok (.iaload, 1) := by decide +kernel
theorem dX3_wageOf_94 : decode cX3_wageOf 94 = .ok (.i2l, 1) := by decide +kernel
theorem dX3_wageOf_95 : decode cX3_wageOf 95 = .ok (.lmul, 1) := by decide +kernel
theorem dX3_wageOf_96 : decode cX3_wageOf 96 = .ok (.lload_n 3, 1) := by decide +kernel
theorem dX3_wageOf_97 : decode cX3_wageOf 97 = .ok (.lmul, 1) := by decide +kernel
theorem dX3_wageOf_98 : decode cX3_wageOf 98 = .ok (.ladd, 1) := by decide +kernel
theorem dX3_wageOf_99 : decode cX3_wageOf 99 = .ok (.aload_n 0, 1) := by decide +kernel
theorem dX3_wageOf_100 : decode cX3_wageOf 100 = .ok (.getfield 23, 3) := by decide +kernel
theorem dX3_wageOf_103 : decode cX3_wageOf 103 = .ok (.iload 10, 2) := by decide +kernel
theorem dX3_wageOf_105 : decode cX3_wageOf 105 = .ok (.iaload, 1) := by decide +kernel
theorem dX3_wageOf_106 : decode cX3_wageOf 106 = .ok (.i2l, 1) := by decide +kernel
theorem dX3_wageOf_107 : decode cX3_wageOf 107 = .ok (.lload_n 3, 1) := by decide +kernel
theorem dX3_wageOf_108 : decode cX3_wageOf 108 = .ok (.lmul, 1) := by decide +kernel
theorem dX3_wageOf_109 : decode cX3_wageOf 109 = .ok (.invokevirtual 57, 3) := by decide +kernel
theorem dX3_wageOf_112 : decode cX3_wageOf 112 = .ok (.return_, 1) := by decide +kernel
theorem dX3_broughtBy_0 : decode cX3_broughtBy 0 = .ok (.iconst 0, 1) := by decide +kernel
theorem dX3_broughtBy_1 : decode cX3_broughtBy 1 = .ok (.istore_n 2, 1) := by decide +kernel
theorem dX3_broughtBy_2 : decode cX3_broughtBy 2 = .ok (.iconst 0, 1) := by decide +kernel
theorem dX3_broughtBy_3 : decode cX3_broughtBy 3 = .ok (.istore_n 3, 1) := by decide +kernel
theorem dX3_broughtBy_4 : decode cX3_broughtBy 4 = .ok (.iload_n 3, 1) := by decide +kernel
theorem dX3_broughtBy_5 : decode cX3_broughtBy 5 = .ok (.aload_n 0, 1) := by decide +kernel
theorem dX3_broughtBy_6 : decode cX3_broughtBy 6 = .ok (.getfield 32, 3) := by decide +kernel
theorem dX3_broughtBy_9 : decode cX3_broughtBy 9 = .ok (.if_icmp .ge 27, 3) := by decide +kernel
theorem dX3_broughtBy_12 : decode cX3_broughtBy 12 = .ok (.iload_n 2, 1) := by decide +kernel
theorem dX3_broughtBy_13 : decode cX3_broughtBy 13 = .ok (.aload_n 0, 1) := by decide +kernel
theorem dX3_broughtBy_14 : decode cX3_broughtBy 14 = .ok (.getfield 20, 3) := by decide +kernel
theorem dX3_broughtBy_17 : decode cX3_broughtBy 17 = .ok (.iload_n 1, 1) := by decide +kernel
theorem dX3_broughtBy_18 : decode cX3_broughtBy 18 = .ok (.aaload, 1) := by decide +kernel
theorem dX3_broughtBy_19 : decode cX3_broughtBy 19 = .ok (.iload_n 3, 1) := by decide +kernel
theorem dX3_broughtBy_20 : decode cX3_broughtBy 20 = .ok (.iaload, 1) := by decide +kernel
theorem dX3_broughtBy_21 : decode cX3_broughtBy 21 = .ok (.aload_n 0, 1) := by decide +kernel
theorem dX3_broughtBy_22 : decode cX3_broughtBy 22 = .ok (.getfield 9, 3) := by decide +kernel
theorem dX3_broughtBy_25 : decode cX3_broughtBy 25 = .ok (.iload_n 3, 1) := by decide +kernel
theorem dX3_broughtBy_26 : decode cX3_broughtBy 26 = .ok (.iaload, 1) := by decide +kernel
theorem dX3_broughtBy_27 : decode cX3_broughtBy 27 = .ok (.imul, 1) := by decide +kernel
theorem dX3_broughtBy_28 : decode cX3_broughtBy 28 = .ok (.iadd, 1) := by decide +kernel
theorem dX3_broughtBy_29 : decode cX3_broughtBy 29 = .ok (.istore_n 2, 1) := by decide +kernel
theorem dX3_broughtBy_30 : decode cX3_broughtBy 30 = .ok (.iinc 3 1, 3) := by decide +kernel
theorem dX3_broughtBy_33 : decode cX3_broughtBy 33 = .ok (.goto (-29), 3) := by decide +kernel
theorem dX3_broughtBy_36 : decode cX3_broughtBy 36 = .ok (.iload_n 2, 1) := by decide +kernel
theorem dX3_broughtBy_37 : decode cX3_broughtBy 37 = .ok (.ireturn, 1) := by decide +kernel
theorem dX3_chanceFrom_0 : decode cX3_chanceFrom 0 = .ok (.iconst 0, 1) := by decide +kernel
theorem dX3_chanceFrom_1 : decode cX3_chanceFrom 1 = .ok (.istore_n 3, 1) := by decide +kernel
theorem dX3_chanceFrom_2 : decode cX3_chanceFrom 2 = .ok (.iconst 0, 1) := by decide +kernel
theorem dX3_chanceFrom_3 : decode cX3_chanceFrom 3 = .ok (.istore 4, 2) := by decide +kernel
theorem dX3_chanceFrom_5 : decode cX3_chanceFrom 5 = .ok (.iload 4, 2) := by decide +kernel
theorem dX3_chanceFrom_7 : decode cX3_chanceFrom 7 = .ok (.aload_n 0, 1) := by decide +kernel
theorem dX3_chanceFrom_8 : decode cX3_chanceFrom 8 = .ok (.getfield 32, 3) := by decide +kernel
theorem dX3_chanceFrom_11 : decode cX3_chanceFrom 11 = .ok (.if_icmp .ge 37, 3) := by decide +kernel
theorem dX3_chanceFrom_14 : decode cX3_chanceFrom 14 = .ok (.aload_n 0, 1) := by decide +kernel
theorem dX3_chanceFrom_15 : decode cX3_chanceFrom 15 = .ok (.getfield 9, 3) := by decide +kernel
theorem dX3_chanceFrom_18 : decode cX3_chanceFrom 18 = .ok (.iload 4, 2) := by decide +kernel
theorem dX3_chanceFrom_20 : decode cX3_chanceFrom 20 = .ok (.iaload, 1) := by decide +kernel
theorem dX3_chanceFrom_21 : decode cX3_chanceFrom 21 = .ok (.aload_n 0, 1) := by decide +kernel
theorem dX3_chanceFrom_22 : decode cX3_chanceFrom 22 = .ok (.getfield 9, 3) := by decide +kernel
theorem dX3_chanceFrom_25 : decode cX3_chanceFrom 25 = .ok (.iload_n 2, 1) := by decide +kernel
theorem dX3_chanceFrom_26 : decode cX3_chanceFrom 26 = .ok (.iaload, 1) := by decide +kernel
theorem dX3_chanceFrom_27 : decode cX3_chanceFrom 27 = .ok (.if_icmp .lt 15, 3) := by decide +kernel
theorem dX3_chanceFrom_30 : decode cX3_chanceFrom 30 = .ok (.iload_n 3, 1) := by decide +kernel
theorem dX3_chanceFrom_31 : decode cX3_chanceFrom 31 = .ok (.aload_n 0, 1) := by decide +kernel
theorem dX3_chanceFrom_32 : decode cX3_chanceFrom 32 = .ok (.getfield 20, 3) := by decide +kernel
theorem dX3_chanceFrom_35 : decode cX3_chanceFrom 35 = .ok (.iload_n 1, 1) := by decide +kernel
theorem dX3_chanceFrom_36 : decode cX3_chanceFrom 36 = .ok (.aaload, 1) := by decide +kernel
theorem dX3_chanceFrom_37 : decode cX3_chanceFrom 37 = .ok (.iload 4, 2) := by decide +kernel
theorem dX3_chanceFrom_39 : decode cX3_chanceFrom 39 = .ok (.iaload, 1) := by decide +kernel
theorem dX3_chanceFrom_40 : decode cX3_chanceFrom 40 = .ok (.iadd, 1) := by decide +kernel
theorem dX3_chanceFrom_41 : decode cX3_chanceFrom 41 = .ok (.istore_n 3, 1) := by decide +kernel
theorem dX3_chanceFrom_42 : decode cX3_chanceFrom 42 = .ok (.iinc 4 1, 3) := by decide +kernel
theorem dX3_chanceFrom_45 : decode cX3_chanceFrom 45 = .ok (.goto (-40), 3) := by decide +kernel
theorem dX3_chanceFrom_48 : decode cX3_chanceFrom 48 = .ok (.iload_n 3, 1) := by decide +kernel
theorem dX3_chanceFrom_49 : decode cX3_chanceFrom 49 = .ok (.ireturn, 1) := by decide +kernel
theorem dX4_chanceOf_0 : decode cX4_chanceOf 0 = .ok (.iload_n 2, 1) := by decide +kernel
theorem dX4_chanceOf_1 : decode cX4_chanceOf 1 = .ok (.aload_n 0, 1) := by decide +kernel
theorem dX4_chanceOf_2 : decode cX4_chanceOf 2 = .ok (.getfield 56, 3) := by decide +kernel
theorem dX4_chanceOf_5 : decode cX4_chanceOf 5 = .ok (.if_icmp .ne 5, 3) := by decide +kernel
theorem dX4_chanceOf_8 : decode cX4_chanceOf 8 = .ok (.iconst 0, 1) := by decide +kernel
theorem dX4_chanceOf_9 : decode cX4_chanceOf 9 = .ok (.ireturn, 1) := by decide +kernel
theorem dX4_chanceOf_10 : decode cX4_chanceOf 10 = .ok (.iload_n 2, 1) := by decide +kernel
theorem dX4_chanceOf_11 : decode cX4_chanceOf 11 = .ok (.aload_n 0, 1) := by decide +kernel
theorem dX4_chanceOf_12 : decode cX4_chanceOf 12 = .ok (.getfield 53, 3) := by decide +kernel
theorem dX4_chanceOf_15 : decode cX4_chanceOf 15 = .ok (.if_icmp .ne 32, 3) := by decide +kernel
theorem dX4_chanceOf_18 : decode cX4_chanceOf 18 = .ok (.aload_n 0, 1) := by decide +kernel
theorem dX4_chanceOf_19 : decode cX4_chanceOf 19 = .ok (.getfield 46, 3) := by decide +kernel
theorem dX4_chanceOf_22 : decode cX4_chanceOf 22 = .ok (.getfield 112, 3) := by decide +kernel
theorem dX4_chanceOf_25 : decode cX4_chanceOf 25 = .ok (.iload_n 1, 1) := by decide +kernel
theorem dX4_chanceOf_26 : decode cX4_chanceOf 26 = .ok (.aaload, 1) := by decide +kernel
theorem dX4_chanceOf_27 : decode cX4_chanceOf 27 = .ok (.iload_n 2, 1) := by decide +kernel
theorem dX4_chanceOf_28 : decode cX4_chanceOf 28 = .ok (.iaload, 1) := by decide +kernel
theorem dX4_chanceOf_29 : decode cX4_chanceOf 29 = .ok (.aload_n 0, 1) := by decide +kernel
theorem dX4_chanceOf_30 : decode cX4_chanceOf 30 = .ok (.getfield 46, 3) := by decide +kernel
theorem dX4_chanceOf_33 : decode cX4_chanceOf 33 = .ok (.getfield 112, 3) := by decide +kernel
theorem dX4_chanceOf_36 : decode cX4_chanceOf 36 = .ok (.iload_n 1, 1) := by decide +kernel
theorem dX4_chanceOf_37 : decode cX4_chanceOf 37 = .ok (.aaload, 1) := by decide +kernel
theorem dX4_chanceOf_38 : decode cX4_chanceOf 38 = .ok (.aload_n 0, 1) := by decide +kernel
theorem dX4_chanceOf_39 : decode cX4_chanceOf 39 = .ok (.getfield 56, 3) := by decide +kernel
theorem dX4_chanceOf_42 : decode cX4_chanceOf 42 = .ok (.iaload, 1) := by decide +kernel
theorem dX4_chanceOf_43 : decode cX4_chanceOf 43 = .ok (.iadd, 1) := by decide +kernel
theorem dX4_chanceOf_44 : decode cX4_chanceOf 44 = .ok (.goto 14, 3) := by decide +kernel
theorem dX4_chanceOf_47 : decode cX4_chanceOf 47 = .ok (.aload_n 0, 1) := by decide +kernel
theorem dX4_chanceOf_48 : decode cX4_chanceOf 48 = .ok (.getfield 46, 3) := by decide +kernel
theorem dX4_chanceOf_51 : decode cX4_chanceOf 51 = .ok (.getfield 112, 3) := by decide +kernel
theorem dX4_chanceOf_54 : decode cX4_chanceOf 54 = .ok (.iload_n 1, 1) := by decide +kernel
theorem dX4_chanceOf_55 : decode cX4_chanceOf 55 = .ok (.aaload, 1) := by decide +kernel
theorem dX4_chanceOf_56 : decode cX4_chanceOf 56 = .ok (.iload_n 2, 1) := by decide +kernel
theorem dX4_chanceOf_57 : decode cX4_chanceOf 57 = .ok (.iaload, 1) := by decide +kernel
theorem dX4_chanceOf_58 : decode cX4_chanceOf 58 = .ok (.ireturn, 1) := by decide +kernel
theorem dX4_listSteps_0 : decode cX4_listSteps 0 = .ok (.aload_n 0, 1) := by decide +kernel
theorem dX4_listSteps_1 : decode cX4_listSteps 1 = .ok (.getfield 46, 3) := by decide +kernel
theorem dX4_listSteps_4 : decode cX4_listSteps 4 = .ok (.getfield 79, 3) := by decide +kernel
theorem dX4_listSteps_7 : decode cX4_listSteps 7 = .ok (.istore_n 2, 1) := by decide +kernel
theorem dX4_listSteps_8 : decode cX4_listSteps 8 = .ok (.iconst 0, 1) := by decide +kernel
theorem dX4_listSteps_9 : decode cX4_listSteps 9 = .ok (.istore_n 3, 1) := by decide +kernel
theorem dX4_listSteps_10 : decode cX4_listSteps 10 = .ok (.iload_n 3, 1) := by decide +kernel
theorem dX4_listSteps_11 : decode cX4_listSteps 11 = .ok (.aload_n 0, 1) := by decide +kernel
theorem dX4_listSteps_12 : decode cX4_listSteps 12 = .ok (.getfield 46, 3) := by decide +kernel
theorem dX4_listSteps_15 : decode cX4_listSteps 15 = .ok (.getfield 119, 3) := by decide +kernel
theorem dX4_listSteps_18 : decode cX4_listSteps 18 = .ok (.if_icmp .ge 161, 3) := by decide +kernel
theorem dX4_listSteps_21 : decode cX4_listSteps 21 = .ok (.aload_n 0, 1) := by decide +kernel
theorem dX4_listSteps_22 : decode cX4_listSteps 22 = .ok (.getfield 36, 3) := by decide +kernel
theorem dX4_listSteps_25 : decode cX4_listSteps 25 = .ok (.bipush 12, 2) := by decide +kernel
theorem dX4_listSteps_27 : decode cX4_listSteps 27 = .ok (.if_icmp .ge 152, 3) := by decide +kernel
theorem dX4_listSteps_30 : decode cX4_listSteps 30 = .ok (.iload_n 3, 1) := by decide +kernel
theorem dX4_listSteps_31 : decode cX4_listSteps 31 = .ok (.aload_n 0, 1) := by decide +kernel
theorem dX4_listSteps_32 : decode cX4_listSteps 32 = .ok (.getfield 46, 3) := by decide +kernel
theorem dX4_listSteps_35 : decode cX4_listSteps 35 = .ok (.getfield 119, 3) := by decide +kernel
theorem dX4_listSteps_38 : decode cX4_listSteps 38 = .ok (.iconst 1, 1) := by decide +kernel
theorem dX4_listSteps_39 : decode cX4_listSteps 39 = .ok (.isub, 1) := by decide +kernel
theorem dX4_listSteps_40 : decode cX4_listSteps 40 = .ok (.if_icmp .ne 7, 3) := by decide +kernel
theorem dX4_listSteps_43 : decode cX4_listSteps 43 = .ok (.iconst 1, 1) := by decide +kernel
theorem dX4_listSteps_44 : decode cX4_listSteps 44 = .ok (.goto 4, 3) := by decide +kernel
theorem dX4_listSteps_47 : decode cX4_listSteps 47 = .ok (.iconst 0, 1) := by decide +kernel
theorem dX4_listSteps_48 : decode cX4_listSteps 48 = .ok (.istore 4, 2) := by decide +kernel
theorem dX4_listSteps_50 : decode cX4_listSteps 50 = .ok (.iload 4, 2) := by decide +kernel
theorem dX4_listSteps_52 : decode cX4_listSteps 52 = .ok (.ifCond .ne 19, 3) := by decide +kernel
theorem dX4_listSteps_55 : decode cX4_listSteps 55 = .ok (.aload_n 0, 1) := by decide +kernel
theorem dX4_listSteps_56 : decode cX4_listSteps 56 = .ok (.getfield 46, 3) := by decide +kernel
theorem dX4_listSteps_59 : decode cX4_listSteps 59 = .ok (.getfield 122, 3) := by decide +kernel
theorem dX4_listSteps_62 : decode cX4_listSteps 62 = .ok (.iload_n 3, 1) := by decide +kernel
theorem dX4_listSteps_63 : decode cX4_listSteps 63 = .ok (.iaload, 1) := by decide +kernel
theorem dX4_listSteps_64 : decode cX4_listSteps 64 = .ok (.iload_n 2, 1) := by decide +kernel
theorem dX4_listSteps_65 : decode cX4_listSteps 65 = .ok (.if_icmp .gt 6, 3) := by decide +kernel
theorem dX4_listSteps_68 : decode cX4_listSteps 68 = .ok (.goto 105, 3) := by decide +kernel
theorem dX4_listSteps_71 : decode cX4_listSteps 71 = .ok (.aload_n 0, 1) := by decide +kernel
theorem dX4_listSteps_72 : decode cX4_listSteps 72 = .ok (.getfield 26, 3) := by decide +kernel
theorem dX4_listSteps_75 : decode cX4_listSteps 75 = .ok (.aload_n 0, 1) := by decide +kernel
theorem dX4_listSteps_76 : decode cX4_listSteps 76 = .ok (.getfield 36, 3) := by decide +kernel
theorem dX4_listSteps_79 : decode cX4_listSteps 79 = .ok (.iload_n 1, 1) := by decide +kernel
theorem dX4_listSteps_80 : decode cX4_listSteps 80 = .ok (.iastore, 1) := by decide +kernel
theorem dX4_listSteps_81 : decode cX4_listSteps 81 = .ok (.aload_n 0, 1) := by decide +kernel
theorem dX4_listSteps_82 : decode cX4_listSteps 82 = .ok (.getfield 30, 3) := by decide +kernel
theorem dX4_listSteps_85 : decode cX4_listSteps 85 = .ok (.aload_n 0, 1) := by decide +kernel
theorem dX4_listSteps_86 : decode cX4_listSteps 86 = .ok (.getfield 36, 3) := by decide +kernel
theorem dX4_listSteps_89 : decode cX4_listSteps 89 = .ok (.aload_n 0, 1) := by decide +kernel
theorem dX4_listSteps_90 : decode cX4_listSteps 90 = .ok (.getfield 46, 3) := by decide +kernel
theorem dX4_listSteps_93 : decode cX4_listSteps 93 = .ok (.getfield 125, 3) := by decide +kernel
theorem dX4_listSteps_96 : decode cX4_listSteps 96 = .ok (.iload_n 3, 1) := by decide +kernel
theorem dX4_listSteps_97 : decode cX4_listSteps 97 = .ok (.iaload, 1) := by decide +kernel
theorem dX4_listSteps_98 : decode cX4_listSteps 98 = .ok (.iastore, 1) := by decide +kernel
theorem dX4_listSteps_99 : decode cX4_listSteps 99 = .ok (.aload_n 0, 1) := by decide +kernel
theorem dX4_listSteps_100 : decode cX4_listSteps 100 = .ok (.getfield 33, 3) := by decide +kernel
theorem dX4_listSteps_103 : decode cX4_listSteps 103 = .ok (.aload_n 0, 1) := by decide +kernel
theorem dX4_listSteps_104 : decode cX4_listSteps 104 = .ok (.getfield 36, 3) := by decide +kernel
theorem dX4_listSteps_107 : decode cX4_listSteps 107 = .ok (.iload 4, 2) := by decide +kernel
theorem dX4_listSteps_109 : decode cX4_listSteps 109 = .ok (.ifCond .eq 7, 3) := by decide +kernel
theorem dX4_listSteps_112 : decode cX4_listSteps 112 = .ok (.iconst (-1), 1) := by decide +kernel
theorem dX4_listSteps_113 : decode cX4_listSteps 113 = .ok (.goto 24, 3) := by decide +kernel
theorem dX4_listSteps_116 : decode cX4_listSteps 116 = .ok (.aload_n 0, 1) := by decide +kernel
theorem dX4_listSteps_117 : decode cX4_listSteps 117 = .ok (.getfield 46, 3) := by decide +kernel
theorem dX4_listSteps_120 : decode cX4_listSteps 120 = .ok (.getfield 122, 3) := by decide +kernel
theorem dX4_listSteps_123 : decode cX4_listSteps 123 = .ok (.iload_n 3, 1) := by decide +kernel
theorem dX4_listSteps_124 : decode cX4_listSteps 124 = .ok (.iaload, 1) := by decide +kernel
theorem dX4_listSteps_125 : decode cX4_listSteps 125 = .ok (.iload_n 2, 1) := by decide +kernel
theorem dX4_listSteps_126 : decode cX4_listSteps 126 = .ok (.isub, 1) := by decide +kernel
theorem dX4_listSteps_127 : decode cX4_listSteps 127 = .ok (.aload_n 0, 1) := by decide +kernel
theorem dX4_listSteps_128 : decode cX4_listSteps 128 = .ok (.getfield 46, 3) := by decide +kernel
theorem dX4_listSteps_131 : decode cX4_listSteps 131 = .ok (.getfield 125, 3) := by decide +kernel
theorem dX4_listSteps_134 : decode cX4_listSteps 134 = .ok (.iload_n 3, 1) := by decide +kernel
theorem dX4_listSteps_135 : decode cX4_listSteps 135 = .ok (.iaload, 1) := by decide +kernel
theorem dX4_listSteps_136 : decode cX4_listSteps 136 = .ok (.imul, 1) := by decide +kernel
theorem dX4_listSteps_137 : decode cX4_listSteps 137 = .ok (.iastore, 1) := by decide +kernel
theorem dX4_listSteps_138 : decode cX4_listSteps 138 = .ok (.aload_n 0, 1) := by decide +kernel
theorem dX4_listSteps_139 : decode cX4_listSteps 139 = .ok (.dup, 1) := by decide +kernel
theorem dX4_listSteps_140 : decode cX4_listSteps 140 = .ok (.getfield 36, 3) := by decide +kernel
theorem dX4_listSteps_143 : decode cX4_listSteps 143 = .ok (.iconst 1, 1) := by decide +kernel
theorem dX4_listSteps_144 : decode cX4_listSteps 144 = .ok (.iadd, 1) := by decide +kernel
theorem dX4_listSteps_145 : decode cX4_listSteps 145 = .ok (.putfield 36, 3) := by decide +kernel
theorem dX4_listSteps_148 : decode cX4_listSteps 148 = .ok (.iload 4, 2) := by decide +kernel
theorem dX4_listSteps_150 : decode cX4_listSteps 150 = .ok (.ifCond .ne 23, 3) := by decide +kernel
theorem dX4_listSteps_153 : decode cX4_listSteps 153 = .ok (.aload_n 0, 1) := by decide +kernel
theorem dX4_listSteps_154 : decode cX4_listSteps 154 = .ok (.getfield 46, 3) := by decide +kernel
theorem dX4_listSteps_157 : decode cX4_listSteps 157 = .ok (.getfield 122, 3) := by decide +kernel
theorem dX4_listSteps_160 : decode cX4_listSteps 160 = .ok (.iload_n 3, 1) := by decide +kernel
theorem dX4_listSteps_161 : decode cX4_listSteps 161 = .ok (.iaload, 1) := by decide +kernel
theorem dX4_listSteps_162 : decode cX4_listSteps 162 = .ok (.istore_n 2, 1) := by decide +kernel
theorem dX4_listSteps_163 : decode cX4_listSteps 163 = .ok (.aload_n 0, 1) := by decide +kernel
theorem dX4_listSteps_164 : decode cX4_listSteps 164 = .ok (.dup, 1) := by decide +kernel
theorem dX4_listSteps_165 : decode cX4_listSteps 165 = .ok (.getfield 40, 3) := by decide +kernel
theorem dX4_listSteps_168 : decode cX4_listSteps 168 = .ok (.iconst 1, 1) := by decide +kernel
theorem dX4_listSteps_169 : decode cX4_listSteps 169 = .ok (.iadd, 1) := by decide +kernel
theorem dX4_listSteps_170 : decode cX4_listSteps 170 = .ok (.putfield 40, 3) := by decide +kernel
theorem dX4_listSteps_173 : decode cX4_listSteps 173 = .ok (.iinc 3 1, 3) := by decide +kernel
theorem dX4_listSteps_176 : decode cX4_listSteps 176 = .ok (.goto (-166), 3) := by decide +kernel
theorem dX4_listSteps_179 : decode cX4_listSteps 179 = .ok (.return_, 1) := by decide +kernel
theorem kk_X3_wageOf_0 : Cond.fieldLink RX3 48 "PaidBySigns$Hire" "rates" "I" ∈ wsX3_wageOf := by decide +kernel
theorem kk_X3_wageOf_1 : Cond.fieldLink RX3 23 "PaidBySigns$Hire" "rate" "[I" ∈ wsX3_wageOf := by decide +kernel
theorem kk_X3_wageOf_2 : Cond.fieldLink RX3 26 "PaidBySigns$Hire" "mark" "[I" ∈ wsX3_wageOf := by decide +kernel
theorem kk_X3_broughtBy_0 : Cond.fieldLink RX3 32 "PaidBySigns$Hire" "signs" "I" ∈ wsX3_broughtBy := by decide +kernel
theorem kk_X3_broughtBy_1 : Cond.fieldLink RX3 20 "PaidBySigns$Hire" "chances" "[[I" ∈ wsX3_broughtBy := by decide +kernel
theorem kk_X3_broughtBy_2 : Cond.fieldLink RX3 9 "PaidBySigns$Hire" "brings" "[I" ∈ wsX3_broughtBy := by decide +kernel
theorem kk_X3_chanceFrom_0 : Cond.fieldLink RX3 32 "PaidBySigns$Hire" "signs" "I" ∈ wsX3_chanceFrom := by decide +kernel
theorem kk_X3_chanceFrom_1 : Cond.fieldLink RX3 9 "PaidBySigns$Hire" "brings" "[I" ∈ wsX3_chanceFrom := by decide +kernel
theorem kk_X3_chanceFrom_2 : Cond.fieldLink RX3 20 "PaidBySigns$Hire" "chances" "[[I" ∈ wsX3_chanceFrom := by decide +kernel
theorem kk_X4_chanceOf_0 : Cond.fieldLink RX4 56 "PaidBySigns$LeastCost" "joinedSign" "I" ∈ wsX4_chanceOf := by decide +kernel
theorem kk_X4_chanceOf_1 : Cond.fieldLink RX4 53 "PaidBySigns$LeastCost" "keptSign" "I" ∈ wsX4_chanceOf := by decide +kernel
theorem kk_X4_chanceOf_2 : Cond.fieldLink RX4 46 "PaidBySigns$LeastCost" "hire" "LPaidBySigns$Hire;" ∈ wsX4_chanceOf := by decide +kernel
theorem kk_X4_chanceOf_3 : Cond.fieldLink RX4 112 "PaidBySigns$Hire" "chances" "[[I" ∈ wsX4_chanceOf := by decide +kernel
theorem kk_X4_listSteps_0 : Cond.fieldLink RX4 46 "PaidBySigns$LeastCost" "hire" "LPaidBySigns$Hire;" ∈ wsX4_listSteps := by decide +kernel
theorem kk_X4_listSteps_1 : Cond.fieldLink RX4 79 "PaidBySigns$Hire" "least" "I" ∈ wsX4_listSteps := by decide +kernel
theorem kk_X4_listSteps_2 : Cond.fieldLink RX4 119 "PaidBySigns$Hire" "rates" "I" ∈ wsX4_listSteps := by decide +kernel
theorem kk_X4_listSteps_3 : Cond.fieldLink RX4 36 "PaidBySigns$LeastCost" "columns" "I" ∈ wsX4_listSteps := by decide +kernel
theorem kk_X4_listSteps_4 : Cond.fieldLink RX4 122 "PaidBySigns$Hire" "mark" "[I" ∈ wsX4_listSteps := by decide +kernel
theorem kk_X4_listSteps_5 : Cond.fieldLink RX4 26 "PaidBySigns$LeastCost" "columnSign" "[I" ∈ wsX4_listSteps := by decide +kernel
theorem kk_X4_listSteps_6 : Cond.fieldLink RX4 30 "PaidBySigns$LeastCost" "columnRate" "[I" ∈ wsX4_listSteps := by decide +kernel
theorem kk_X4_listSteps_7 : Cond.fieldLink RX4 125 "PaidBySigns$Hire" "rate" "[I" ∈ wsX4_listSteps := by decide +kernel
theorem kk_X4_listSteps_8 : Cond.fieldLink RX4 33 "PaidBySigns$LeastCost" "columnRoom" "[I" ∈ wsX4_listSteps := by decide +kernel
theorem kk_X4_listSteps_9 : Cond.fieldLink RX4 40 "PaidBySigns$LeastCost" "rooms" "I" ∈ wsX4_listSteps := by decide +kernel
theorem iw_X3_wageOf_X3 : ∀ w ∈ wsX30, w ∈ wsX3_wageOf := by decide +kernel
theorem iw_X3_broughtBy_X3 : ∀ w ∈ wsX30, w ∈ wsX3_broughtBy := by decide +kernel
theorem iw_X3_chanceFrom_X3 : ∀ w ∈ wsX30, w ∈ wsX3_chanceFrom := by decide +kernel
theorem iw_X4_chanceOf_X4 : ∀ w ∈ wsX40, w ∈ wsX4_chanceOf := by decide +kernel
theorem iw_X4_chanceOf_X3 : ∀ w ∈ wsX30, w ∈ wsX4_chanceOf := by decide +kernel
theorem iw_X4_listSteps_X4 : ∀ w ∈ wsX40, w ∈ wsX4_listSteps := by decide +kernel
theorem iw_X4_listSteps_X3 : ∀ w ∈ wsX30, w ∈ wsX4_listSteps := by decide +kernel
