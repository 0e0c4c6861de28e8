def tyX7 : Nat → FieldType := fun k => match k with
  | 0 => .int
  | 1 => .int
  | 2 => .int
  | 3 => .object "PaidBySigns$Hire"
  | 4 => .array .byte
  | 5 => .int
  | 6 => .int
  | 7 => .int
  | 8 => .int
  | 9 => .array .int
  | 10 => .array .int
  | 11 => .boolean
  | 12 => .boolean
  | _ => .boolean
abbrev wsX70 : List Cond := u_ws RX7 TX7 14
theorem nmX7 : ∀ a, a < 14 → ∀ b, b < 14 → a ≠ b → (TX7 a).2.1 ≠ (TX7 b).2.1 := by decide +kernel
theorem tyX7_ok : ∀ k, k < 14 → parseFieldDescriptor (TX7 k).2.2.1 = some (tyX7 k) := by decide +kernel
abbrev cX7_fail : ByteArray := prog_9_method_4_code
def yX7_fail : MethodName := ⟨RX7, "fail", "(I)Z"⟩
abbrev cX7_isNumber : ByteArray := prog_9_method_15_code
def yX7_isNumber : MethodName := ⟨RX7, "isNumber", "(II)Z"⟩
abbrev cX7_advance : ByteArray := prog_9_method_21_code
def yX7_advance : MethodName := ⟨RX7, "advance", "()V"⟩
abbrev cX7_takeRun : ByteArray := prog_9_method_22_code
def yX7_takeRun : MethodName := ⟨RX7, "takeRun", "()V"⟩
abbrev cX7_kindOf : ByteArray := prog_9_method_23_code
def yX7_kindOf : MethodName := ⟨RX7, "kindOf", "(B)I"⟩
def wsX7_kindOf : List Cond := .code yX7_kindOf cX7_kindOf 1 (some .int) :: ([])
def wsX7_takeRun : List Cond := .code yX7_takeRun cX7_takeRun 2 none :: ([.fieldLink RX7 32 "PaidBySigns$Reader" "next" "I", .fieldLink RX7 9 "PaidBySigns$Reader" "length" "I", .fieldLink RX7 28 "PaidBySigns$Reader" "text" "[B", .fieldLink RX7 35 "PaidBySigns$Reader" "token" "I", .fieldLink RX7 38 "PaidBySigns$Reader" "start" "I", .methodLink RX7 180 yX7_kindOf, .static yX7_kindOf, .initialized RX7, .code yX7_kindOf cX7_kindOf 1 (some .int)] ++ wsX70)
def wsX7_advance : List Cond := .code yX7_advance cX7_advance 1 none :: ([.fieldLink RX7 32 "PaidBySigns$Reader" "next" "I", .fieldLink RX7 9 "PaidBySigns$Reader" "length" "I", .fieldLink RX7 28 "PaidBySigns$Reader" "text" "[B", .fieldLink RX7 38 "PaidBySigns$Reader" "start" "I", .fieldLink RX7 35 "PaidBySigns$Reader" "token" "I", .methodLink RX7 180 yX7_kindOf, .static yX7_kindOf, .initialized RX7, .code yX7_kindOf cX7_kindOf 1 (some .int), .methodLink RX7 184 yX7_takeRun, .instanceMethod yX7_takeRun, .selects RX7 yX7_takeRun yX7_takeRun, .code yX7_takeRun cX7_takeRun 2 none] ++ wsX70)
def wsX7_fail : List Cond := .code yX7_fail cX7_fail 2 (some .boolean) :: ([.fieldLink RX7 15 "PaidBySigns$Reader" "faultKind" "I", .fieldLink RX7 38 "PaidBySigns$Reader" "start" "I", .fieldLink RX7 18 "PaidBySigns$Reader" "faultPlace" "I"] ++ wsX70)
def wsX7_isNumber : List Cond := .code yX7_isNumber cX7_isNumber 4 (some .boolean) :: ([.fieldLink RX7 35 "PaidBySigns$Reader" "token" "I", .fieldLink RX7 41 "PaidBySigns$Reader" "value" "I", .fieldLink RX7 38 "PaidBySigns$Reader" "start" "I", .fieldLink RX7 32 "PaidBySigns$Reader" "next" "I", .fieldLink RX7 28 "PaidBySigns$Reader" "text" "[B", .methodLink RX7 100 yX7_fail, .instanceMethod yX7_fail, .selects RX7 yX7_fail yX7_fail, .initialized RX7, .code yX7_fail cX7_fail 2 (some .boolean), .fieldLink RX7 15 "PaidBySigns$Reader" "faultKind" "I", .fieldLink RX7 18 "PaidBySigns$Reader" "faultPlace" "I"] ++ wsX70)
theorem dX7_fail_0 : decode cX7_fail 0 = .ok (.aload_n 0, 1) := by decide +kernel
theorem dX7_fail_1 : decode cX7_fail 1 = .ok (.iload_n 1, 1) := by decide +kernel
theorem dX7_fail_2 : decode cX7_fail 2 = .ok (.putfield 15, 3) := by decide +kernel
theorem dX7_fail_5 : decode cX7_fail 5 = .ok (.aload_n 0, 1) := by decide +kernel
theorem dX7_fail_6 : decode cX7_fail 6 = .ok (.aload_n 0, 1) := by decide +kernel
theorem dX7_fail_7 : decode cX7_fail 7 = .ok (.getfield 38, 3) := by decide +kernel
theorem dX7_fail_10 : decode cX7_fail 10 = .ok (.putfield 18, 3) := by decide +kernel
theorem dX7_fail_13 : decode cX7_fail 13 = .ok (.iconst 0, 1) := by decide +kernel
theorem dX7_fail_14 : decode cX7_fail 14 = .ok (.ireturn, 1) := by decide +kernel
set_option maxRecDepth 20000 in
theorem ggX7_isNumber_X7_fail : GoodIn wsX7_isNumber wsX7_fail := goodIn_r _ [10, 11, 3, 12, 13, 14, 15, 16, 17, 18, 19, 20, 21, 22, 23, 24, 25, 26] (by decide +kernel) (by decide +kernel)
set_option maxRecDepth 20000 in
theorem gX7_isNumber_X7_fail : GoodIn wsX7_isNumber (wsV RX7 100 RX7 yX7_fail wsX7_fail) := goodIn_app (goodIn_of _ (by decide +kernel)) ggX7_isNumber_X7_fail
theorem dX7_isNumber_0 : decode cX7_isNumber 0 = .ok (.aload_n 0, 1) := by decide +kernel
theorem dX7_isNumber_1 : decode cX7_isNumber 1 = .ok (.getfield 35, 3) := by decide +kernel
theorem dX7_isNumber_4 : decode cX7_isNumber 4 = .ok (.iconst 2, 1) := by decide +kernel
theorem dX7_isNumber_5 : decode cX7_isNumber 5 = .ok (.if_icmp .eq 9, 3) := by decide +kernel
theorem dX7_isNumber_8 : decode cX7_isNumber 8 = .ok (.aload_n 0, 1) := by decide +kernel
theorem dX7_isNumber_9 : decode cX7_isNumber 9 = .ok (.iconst 1, 1) := by decide +kernel
theorem dX7_isNumber_10 : decode cX7_isNumber 10 = .ok (.invokevirtual 100, 3) := by decide +kernel
theorem dX7_isNumber_13 : decode cX7_isNumber 13 = .ok (.ireturn, 1) := by decide +kernel
theorem dX7_isNumber_14 : decode cX7_isNumber 14 = .ok (.aload_n 0, 1) := by decide +kernel
theorem dX7_isNumber_15 : decode cX7_isNumber 15 = .ok (.iconst 0, 1) := by decide +kernel
theorem dX7_isNumber_16 : decode cX7_isNumber 16 = .ok (.putfield 41, 3) := by decide +kernel
theorem dX7_isNumber_19 : decode cX7_isNumber 19 = .ok (.aload_n 0, 1) := by decide +kernel
theorem dX7_isNumber_20 : decode cX7_isNumber 20 = .ok (.getfield 38, 3) := by decide +kernel
theorem dX7_isNumber_23 : decode cX7_isNumber 23 = .ok (.istore_n 3, 1) := by decide +kernel
theorem dX7_isNumber_24 : decode cX7_isNumber 24 = .ok (.iload_n 3, 1) := by decide +kernel
theorem dX7_isNumber_25 : decode cX7_isNumber 25 = .ok (.aload_n 0, 1) := by decide +kernel
theorem dX7_isNumber_26 : decode cX7_isNumber 26 = .ok (.getfield 32, 3) := by decide +kernel
theorem dX7_isNumber_29 : decode cX7_isNumber 29 = .ok (.if_icmp .ge 30, 3) := by decide +kernel
theorem dX7_isNumber_32 : decode cX7_isNumber 32 = .ok (.aload_n 0, 1) := by decide +kernel
theorem dX7_isNumber_33 : decode cX7_isNumber 33 = .ok (.aload_n 0, 1) := by decide +kernel
theorem dX7_isNumber_34 : decode cX7_isNumber 34 = .ok (.getfield 41, 3) := by decide +kernel
theorem dX7_isNumber_37 : decode cX7_isNumber 37 = .ok (.bipush 10, 2) := by decide +kernel
theorem dX7_isNumber_39 : decode cX7_isNumber 39 = .ok (.imul, 1) := by decide +kernel
theorem dX7_isNumber_40 : decode cX7_isNumber 40 = .ok (.aload_n 0, 1) := by decide +kernel
theorem dX7_isNumber_41 : decode cX7_isNumber 41 = .ok (.getfield 28, 3) := by decide +kernel
theorem dX7_isNumber_44 : decode cX7_isNumber 44 = .ok (.iload_n 3, 1) := by decide +kernel
theorem dX7_isNumber_45 : decode cX7_isNumber 45 = .ok (.baload, 1) := by decide +kernel
theorem dX7_isNumber_46 : decode cX7_isNumber 46 = .ok (.iadd, 1) := by decide +kernel
theorem dX7_isNumber_47 : decode cX7_isNumber 47 = .ok (.bipush 48, 2) := by decide +kernel
theorem dX7_isNumber_49 : decode cX7_isNumber 49 = .ok (.isub, 1) := by decide +kernel
theorem dX7_isNumber_50 : decode cX7_isNumber 50 = .ok (.putfield 41, 3) := by decide +kernel
theorem dX7_isNumber_53 : decode cX7_isNumber 53 = .ok (.iinc 3 1, 3) := by decide +kernel
theorem dX7_isNumber_56 : decode cX7_isNumber 56 = .ok (.goto (-32), 3) := by decide +kernel
theorem dX7_isNumber_59 : decode cX7_isNumber 59 = .ok (.aload_n 0, 1) := by decide +kernel
theorem dX7_isNumber_60 : decode cX7_isNumber 60 = .ok (.getfield 41, 3) := by decide +kernel
theorem dX7_isNumber_63 : decode cX7_isNumber 63 = .ok (.iload_n 1, 1) := by decide +kernel
theorem dX7_isNumber_64 : decode cX7_isNumber 64 = .ok (.if_icmp .lt 11, 3) := by decide +kernel
theorem dX7_isNumber_67 : decode cX7_isNumber 67 = .ok (.aload_n 0, 1) := by decide +kernel
theorem dX7_isNumber_68 : decode cX7_isNumber 68 = .ok (.getfield 41, 3) := by decide +kernel
theorem dX7_isNumber_71 : decode cX7_isNumber 71 = .ok (.iload_n 2, 1) := by decide +kernel
theorem dX7_isNumber_72 : decode cX7_isNumber 72 = .ok (.if_icmp .le 11, 3) := by decide +kernel
theorem dX7_isNumber_75 : decode cX7_isNumber 75 = .ok (.aload_n 0, 1) := by decide +kernel
theorem dX7_isNumber_76 : decode cX7_isNumber 76 = .ok (.iconst 2, 1) := by decide +kernel
theorem dX7_isNumber_77 : decode cX7_isNumber 77 = .ok (.invokevirtual 100, 3) := by decide +kernel
theorem dX7_isNumber_80 : decode cX7_isNumber 80 = .ok (.ifCond .eq 7, 3) := by decide +kernel
theorem dX7_isNumber_83 : decode cX7_isNumber 83 = .ok (.iconst 1, 1) := by decide +kernel
theorem dX7_isNumber_84 : decode cX7_isNumber 84 = .ok (.goto 4, 3) := by decide +kernel
theorem dX7_isNumber_87 : decode cX7_isNumber 87 = .ok (.iconst 0, 1) := by decide +kernel
theorem dX7_isNumber_88 : decode cX7_isNumber 88 = .ok (.ireturn, 1) := by decide +kernel
set_option maxRecDepth 20000 in
theorem ggX7_advance_X7_kindOf : GoodIn wsX7_advance wsX7_kindOf := goodIn_r _ [9] (by decide +kernel) (by decide +kernel)
set_option maxRecDepth 20000 in
theorem gX7_advance_X7_kindOf : GoodIn wsX7_advance (va_wsS RX7 180 yX7_kindOf wsX7_kindOf) := goodIn_app (goodIn_of _ (by decide +kernel)) ggX7_advance_X7_kindOf
set_option maxRecDepth 20000 in
theorem ggX7_advance_X7_takeRun : GoodIn wsX7_advance wsX7_takeRun := goodIn_r _ [13, 1, 2, 3, 5, 4, 6, 7, 8, 9, 14, 15, 16, 17, 18, 19, 20, 21, 22, 23, 24, 25, 26, 27] (by decide +kernel) (by decide +kernel)
set_option maxRecDepth 20000 in
theorem gX7_advance_X7_takeRun : GoodIn wsX7_advance (wsV RX7 184 RX7 yX7_takeRun wsX7_takeRun) := goodIn_app (goodIn_of _ (by decide +kernel)) ggX7_advance_X7_takeRun
theorem dX7_advance_0 : decode cX7_advance 0 = .ok (.aload_n 0, 1) := by decide +kernel
theorem dX7_advance_1 : decode cX7_advance 1 = .ok (.getfield 32, 3) := by decide +kernel
theorem dX7_advance_4 : decode cX7_advance 4 = .ok (.aload_n 0, 1) := by decide +kernel
theorem dX7_advance_5 : decode cX7_advance 5 = .ok (.getfield 9, 3) := by decide +kernel
theorem dX7_advance_8 : decode cX7_advance 8 = .ok (.if_icmp .ge 32, 3) := by decide +kernel
theorem dX7_advance_11 : decode cX7_advance 11 = .ok (.aload_n 0, 1) := by decide +kernel
theorem dX7_advance_12 : decode cX7_advance 12 = .ok (.getfield 28, 3) := by decide +kernel
theorem dX7_advance_15 : decode cX7_advance 15 = .ok (.aload_n 0, 1) := by decide +kernel
theorem dX7_advance_16 : decode cX7_advance 16 = .ok (.getfield 32, 3) := by decide +kernel
theorem dX7_advance_19 : decode cX7_advance 19 = .ok (.baload, 1) := by decide +kernel
theorem dX7_advance_20 : decode cX7_advance 20 = .ok (.invokestatic 180, 3) := by decide +kernel
theorem dX7_advance_23 : decode cX7_advance 23 = .ok (.iconst 5, 1) := by decide +kernel
theorem dX7_advance_24 : decode cX7_advance 24 = .ok (.if_icmp .ne 16, 3) := by decide +kernel
theorem dX7_advance_27 : decode cX7_advance 27 = .ok (.aload_n 0, 1) := by decide +kernel
theorem dX7_advance_28 : decode cX7_advance 28 = .ok (.dup, 1) := by decide +kernel
theorem dX7_advance_29 : decode cX7_advance 29 = .ok (.getfield 32, 3) := by decide +kernel
theorem dX7_advance_32 : decode cX7_advance 32 = .ok (.iconst 1, 1) := by decide +kernel
theorem dX7_advance_33 : decode cX7_advance 33 = .ok (.iadd, 1) := by decide +kernel
theorem dX7_advance_34 : decode cX7_advance 34 = .ok (.putfield 32, 3) := by decide +kernel
theorem dX7_advance_37 : decode cX7_advance 37 = .ok (.goto (-37), 3) := by decide +kernel
theorem dX7_advance_40 : decode cX7_advance 40 = .ok (.aload_n 0, 1) := by decide +kernel
theorem dX7_advance_41 : decode cX7_advance 41 = .ok (.aload_n 0, 1) := by decide +kernel
theorem dX7_advance_42 : decode cX7_advance 42 = .ok (.getfield 32, 3) := by decide +kernel
theorem dX7_advance_45 : decode cX7_advance 45 = .ok (.putfield 38, 3) := by decide +kernel
theorem dX7_advance_48 : decode cX7_advance 48 = .ok (.aload_n 0, 1) := by decide +kernel
theorem dX7_advance_49 : decode cX7_advance 49 = .ok (.getfield 32, 3) := by decide +kernel
theorem dX7_advance_52 : decode cX7_advance 52 = .ok (.aload_n 0, 1) := by decide +kernel
theorem dX7_advance_53 : decode cX7_advance 53 = .ok (.getfield 9, 3) := by decide +kernel
theorem dX7_advance_56 : decode cX7_advance 56 = .ok (.if_icmp .lt 9, 3) := by decide +kernel
theorem dX7_advance_59 : decode cX7_advance 59 = .ok (.aload_n 0, 1) := by decide +kernel
theorem dX7_advance_60 : decode cX7_advance 60 = .ok (.iconst 0, 1) := by decide +kernel
theorem dX7_advance_61 : decode cX7_advance 61 = .ok (.putfield 35, 3) := by decide +kernel
theorem dX7_advance_64 : decode cX7_advance 64 = .ok (.return_, 1) := by decide +kernel
theorem dX7_advance_65 : decode cX7_advance 65 = .ok (.aload_n 0, 1) := by decide +kernel
theorem dX7_advance_66 : decode cX7_advance 66 = .ok (.aload_n 0, 1) := by decide +kernel
theorem dX7_advance_67 : decode cX7_advance 67 = .ok (.getfield 28, 3) := by decide +kernel
theorem dX7_advance_70 : decode cX7_advance 70 = .ok (.aload_n 0, 1) := by decide +kernel
theorem dX7_advance_71 : decode cX7_advance 71 = .ok (.getfield 32, 3) := by decide +kernel
theorem dX7_advance_74 : decode cX7_advance 74 = .ok (.baload, 1) := by decide +kernel
theorem dX7_advance_75 : decode cX7_advance 75 = .ok (.invokestatic 180, 3) := by decide +kernel
theorem dX7_advance_78 : decode cX7_advance 78 = .ok (.putfield 35, 3) := by decide +kernel
theorem dX7_advance_81 : decode cX7_advance 81 = .ok (.aload_n 0, 1) := by decide +kernel
theorem dX7_advance_82 : decode cX7_advance 82 = .ok (.dup, 1) := by decide +kernel
theorem dX7_advance_83 : decode cX7_advance 83 = .ok (.getfield 32, 3) := by decide +kernel
theorem dX7_advance_86 : decode cX7_advance 86 = .ok (.iconst 1, 1) := by decide +kernel
theorem dX7_advance_87 : decode cX7_advance 87 = .ok (.iadd, 1) := by decide +kernel
theorem dX7_advance_88 : decode cX7_advance 88 = .ok (.putfield 32, 3) := by decide +kernel
theorem dX7_advance_91 : decode cX7_advance 91 = .ok (.aload_n 0, 1) := by decide +kernel
theorem dX7_advance_92 : decode cX7_advance 92 = .ok (.getfield 35, 3) := by decide +kernel
theorem dX7_advance_95 : decode cX7_advance 95 = .ok (.iconst 1, 1) := by decide +kernel
theorem dX7_advance_96 : decode cX7_advance 96 = .ok (.if_icmp .eq 11, 3) := by decide +kernel
theorem dX7_advance_99 : decode cX7_advance 99 = .ok (.aload_n 0, 1) := by decide +kernel
theorem dX7_advance_100 : decode cX7_advance 100 = .ok (.getfield 35, 3) := by decide +kernel
theorem dX7_advance_103 : decode cX7_advance 103 = .ok (.iconst 2, 1) := by decide +kernel
theorem dX7_advance_104 : decode cX7_advance 104 = .ok (.if_icmp .ne 7, 3) := by decide +kernel
theorem dX7_advance_107 : decode cX7_advance 107 = .ok (.aload_n 0, 1) := by decide +kernel
theorem dX7_advance_108 : decode cX7_advance 108 = .ok (.invokevirtual 184, 3) := by decide +kernel
theorem dX7_advance_111 : decode cX7_advance 111 = .ok (.return_, 1) := by decide +kernel
set_option maxRecDepth 20000 in
theorem ggX7_takeRun_X7_kindOf : GoodIn wsX7_takeRun wsX7_kindOf := goodIn_r _ [9] (by decide +kernel) (by decide +kernel)
set_option maxRecDepth 20000 in
theorem gX7_takeRun_X7_kindOf : GoodIn wsX7_takeRun (va_wsS RX7 180 yX7_kindOf wsX7_kindOf) := goodIn_app (goodIn_of _ (by decide +kernel)) ggX7_takeRun_X7_kindOf
theorem dX7_takeRun_0 : decode cX7_takeRun 0 = .ok (.aload_n 0, 1) := by decide +kernel
theorem dX7_takeRun_1 : decode cX7_takeRun 1 = .ok (.getfield 32, 3) := by decide +kernel
theorem dX7_takeRun_4 : decode cX7_takeRun 4 = .ok (.aload_n 0, 1) := by decide +kernel
theorem dX7_takeRun_5 : decode cX7_takeRun 5 = .ok (.getfield 9, 3) := by decide +kernel
theorem dX7_takeRun_8 : decode cX7_takeRun 8 = .ok (.if_icmp .ge 35, 3) := by decide +kernel
theorem dX7_takeRun_11 : decode cX7_takeRun 11 = .ok (.aload_n 0, 1) := by decide +kernel
theorem dX7_takeRun_12 : decode cX7_takeRun 12 = .ok (.getfield 28, 3) := by decide +kernel
theorem dX7_takeRun_15 : decode cX7_takeRun 15 = .ok (.aload_n 0, 1) := by decide +kernel
theorem dX7_takeRun_16 : decode cX7_takeRun 16 = .ok (.getfield 32, 3) := by decide +kernel
theorem dX7_takeRun_19 : decode cX7_takeRun 19 = .ok (.baload, 1) := by decide +kernel
theorem dX7_takeRun_20 : decode cX7_takeRun 20 = .ok (.invokestatic 180, 3) := by decide +kernel
theorem dX7_takeRun_23 : decode cX7_takeRun 23 = .ok (.aload_n 0, 1) := by decide +kernel
theorem dX7_takeRun_24 : decode cX7_takeRun 24 = .ok (.getfield 35, 3) := by decide +kernel
theorem dX7_takeRun_27 : decode cX7_takeRun 27 = .ok (.if_icmp .ne 16, 3) := by decide +kernel
theorem dX7_takeRun_30 : decode cX7_takeRun 30 = .ok (.aload_n 0, 1) := by decide +kernel
theorem dX7_takeRun_31 : decode cX7_takeRun 31 = .ok (.dup, 1) := by decide +kernel
theorem dX7_takeRun_32 : decode cX7_takeRun 32 = .ok (.getfield 32, 3) := by decide +kernel
theorem dX7_takeRun_35 : decode cX7_takeRun 35 = .ok (.iconst 1, 1) := by decide +kernel
theorem dX7_takeRun_36 : decode cX7_takeRun 36 = .ok (.iadd, 1) := by decide +kernel
theorem dX7_takeRun_37 : decode cX7_takeRun 37 = .ok (.putfield 32, 3) := by decide +kernel
theorem dX7_takeRun_40 : decode cX7_takeRun 40 = .ok (.goto (-40), 3) := by decide +kernel
theorem dX7_takeRun_43 : decode cX7_takeRun 43 = .ok (.aload_n 0, 1) := by decide +kernel
theorem dX7_takeRun_44 : decode cX7_takeRun 44 = .ok (.getfield 35, 3) := by decide +kernel
theorem dX7_takeRun_47 : decode cX7_takeRun 47 = .ok (.iconst 1, 1) := by decide +kernel
theorem dX7_takeRun_48 : decode cX7_takeRun 48 = .ok (.if_icmp .ne 8, 3) := by decide +kernel
theorem dX7_takeRun_51 : decode cX7_takeRun 51 = .ok (.bipush 8, 2) := by decide +kernel
theorem dX7_takeRun_53 : decode cX7_takeRun 53 = .ok (.goto 4, 3) := by decide +kernel
theorem dX7_takeRun_56 : decode cX7_takeRun 56 = .ok (.iconst 4, 1) := by decide +kernel
theorem dX7_takeRun_57 : decode cX7_takeRun 57 = .ok (.istore_n 1, 1) := by decide +kernel
theorem dX7_takeRun_58 : decode cX7_takeRun 58 = .ok (.aload_n 0, 1) := by decide +kernel
theorem dX7_takeRun_59 : decode cX7_takeRun 59 = .ok (.getfield 32, 3) := by decide +kernel
theorem dX7_takeRun_62 : decode cX7_takeRun 62 = .ok (.aload_n 0, 1) := by decide +kernel
theorem dX7_takeRun_63 : decode cX7_takeRun 63 = .ok (.getfield 38, 3) := by decide +kernel
theorem dX7_takeRun_66 : decode cX7_takeRun 66 = .ok (.isub, 1) := by decide +kernel
theorem dX7_takeRun_67 : decode cX7_takeRun 67 = .ok (.iload_n 1, 1) := by decide +kernel
theorem dX7_takeRun_68 : decode cX7_takeRun 68 = .ok (.if_icmp .le 8, 3) := by decide +kernel
theorem dX7_takeRun_71 : decode cX7_takeRun 71 = .ok (.aload_n 0, 1) := by decide +kernel
theorem dX7_takeRun_72 : decode cX7_takeRun 72 = .ok (.iconst 4, 1) := by decide +kernel
theorem dX7_takeRun_73 : decode cX7_takeRun 73 = .ok (.putfield 35, 3) := by decide +kernel
theorem dX7_takeRun_76 : decode cX7_takeRun 76 = .ok (.return_, 1) := by decide +kernel
theorem dX7_kindOf_0 : decode cX7_kindOf 0 = .ok (.iload_n 0, 1) := by decide +kernel
theorem dX7_kindOf_1 : decode cX7_kindOf 1 = .ok (.bipush 97, 2) := by decide +kernel
theorem dX7_kindOf_3 : decode cX7_kindOf 3 = .ok (.if_icmp .lt 11, 3) := by decide +kernel
theorem dX7_kindOf_6 : decode cX7_kindOf 6 = .ok (.iload_n 0, 1) := by decide +kernel
theorem dX7_kindOf_7 : decode cX7_kindOf 7 = .ok (.bipush 122, 2) := by decide +kernel
theorem dX7_kindOf_9 : decode cX7_kindOf 9 = .ok (.if_icmp .gt 5, 3) := by decide +kernel
theorem dX7_kindOf_12 : decode cX7_kindOf 12 = .ok (.iconst 1, 1) := by decide +kernel
theorem dX7_kindOf_13 : decode cX7_kindOf 13 = .ok (.ireturn, 1) := by decide +kernel
theorem dX7_kindOf_14 : decode cX7_kindOf 14 = .ok (.iload_n 0, 1) := by decide +kernel
theorem dX7_kindOf_15 : decode cX7_kindOf 15 = .ok (.bipush 48, 2) := by decide +kernel
theorem dX7_kindOf_17 : decode cX7_kindOf 17 = .ok (.if_icmp .lt 11, 3) := by decide +kernel
theorem dX7_kindOf_20 : decode cX7_kindOf 20 = .ok (.iload_n 0, 1) := by decide +kernel
theorem dX7_kindOf_21 : decode cX7_kindOf 21 = .ok (.bipush 57, 2) := by decide +kernel
theorem dX7_kindOf_23 : decode cX7_kindOf 23 = .ok (.if_icmp .gt 5, 3) := by decide +kernel
theorem dX7_kindOf_26 : decode cX7_kindOf 26 = .ok (.iconst 2, 1) := by decide +kernel
theorem dX7_kindOf_27 : decode cX7_kindOf 27 = .ok (.ireturn, 1) := by decide +kernel
theorem dX7_kindOf_28 : decode cX7_kindOf 28 = .ok (.iload_n 0, 1) := by decide +kernel
theorem dX7_kindOf_29 : decode cX7_kindOf 29 = .ok (.bipush 32, 2) := by decide +kernel
theorem dX7_kindOf_31 : decode cX7_kindOf 31 = .ok (.if_icmp .eq 9, 3) := by decide +kernel
theorem dX7_kindOf_34 : decode cX7_kindOf 34 = .ok (.iload_n 0, 1) := by decide +kernel
theorem dX7_kindOf_35 : decode cX7_kindOf 35 = .ok (.bipush 10, 2) := by decide +kernel
theorem dX7_kindOf_37 : decode cX7_kindOf 37 = .ok (.if_icmp .ne 5, 3) := by decide +kernel
theorem dX7_kindOf_40 : decode cX7_kindOf 40 = .ok (.iconst 5, 1) := by decide +kernel
theorem dX7_kindOf_41 : decode cX7_kindOf 41 = .ok (.ireturn, 1) := by decide +kernel
theorem dX7_kindOf_42 : decode cX7_kindOf 42 = .ok (.iload_n 0, 1) := by decide +kernel
theorem dX7_kindOf_43 : decode cX7_kindOf 43 = .ok (.bipush 59, 2) := by decide +kernel
theorem dX7_kindOf_45 : decode cX7_kindOf 45 = .ok (.if_icmp .ne 7, 3) := by decide +kernel
theorem dX7_kindOf_48 : decode cX7_kindOf 48 = .ok (.iconst 3, 1) := by decide +kernel
theorem dX7_kindOf_49 : decode cX7_kindOf 49 = .ok (.goto 4, 3) := by decide +kernel
theorem dX7_kindOf_52 : decode cX7_kindOf 52 = .ok (.iconst 4, 1) := by decide +kernel
theorem dX7_kindOf_53 : decode cX7_kindOf 53 = .ok (.ireturn, 1) := by decide +kernel
theorem kk_X7_takeRun_0 : Cond.fieldLink RX7 32 "PaidBySigns$Reader" "next" "I" ∈ wsX7_takeRun := by decide +kernel
theorem kk_X7_takeRun_1 : Cond.fieldLink RX7 9 "PaidBySigns$Reader" "length" "I" ∈ wsX7_takeRun := by decide +kernel
theorem kk_X7_takeRun_2 : Cond.fieldLink RX7 35 "PaidBySigns$Reader" "token" "I" ∈ wsX7_takeRun := by decide +kernel
theorem kk_X7_takeRun_3 : Cond.fieldLink RX7 38 "PaidBySigns$Reader" "start" "I" ∈ wsX7_takeRun := by decide +kernel
theorem kk_X7_takeRun_4 : Cond.fieldLink RX7 28 "PaidBySigns$Reader" "text" "[B" ∈ wsX7_takeRun := by decide +kernel
theorem kk_X7_advance_0 : Cond.fieldLink RX7 32 "PaidBySigns$Reader" "next" "I" ∈ wsX7_advance := by decide +kernel
theorem kk_X7_advance_1 : Cond.fieldLink RX7 9 "PaidBySigns$Reader" "length" "I" ∈ wsX7_advance := by decide +kernel
theorem kk_X7_advance_2 : Cond.fieldLink RX7 38 "PaidBySigns$Reader" "start" "I" ∈ wsX7_advance := by decide +kernel
theorem kk_X7_advance_3 : Cond.fieldLink RX7 28 "PaidBySigns$Reader" "text" "[B" ∈ wsX7_advance := by decide +kernel
theorem kk_X7_advance_4 : Cond.fieldLink RX7 35 "PaidBySigns$Reader" "token" "I" ∈ wsX7_advance := by decide +kernel
theorem kk_X7_fail_0 : Cond.fieldLink RX7 15 "PaidBySigns$Reader" "faultKind" "I" ∈ wsX7_fail := by decide +kernel
theorem kk_X7_fail_1 : Cond.fieldLink RX7 38 "PaidBySigns$Reader" "start" "I" ∈ wsX7_fail := by decide +kernel
theorem kk_X7_fail_2 : Cond.fieldLink RX7 18 "PaidBySigns$Reader" "faultPlace" "I" ∈ wsX7_fail := by decide +kernel
theorem kk_X7_isNumber_0 : Cond.fieldLink RX7 35 "PaidBySigns$Reader" "token" "I" ∈ wsX7_isNumber := by decide +kernel
theorem kk_X7_isNumber_1 : Cond.fieldLink RX7 41 "PaidBySigns$Reader" "value" "I" ∈ wsX7_isNumber := by decide +kernel
theorem kk_X7_isNumber_2 : Cond.fieldLink RX7 38 "PaidBySigns$Reader" "start" "I" ∈ wsX7_isNumber := by decide +kernel
theorem kk_X7_isNumber_3 : Cond.fieldLink RX7 32 "PaidBySigns$Reader" "next" "I" ∈ wsX7_isNumber := by decide +kernel
theorem kk_X7_isNumber_4 : Cond.fieldLink RX7 28 "PaidBySigns$Reader" "text" "[B" ∈ wsX7_isNumber := by decide +kernel
theorem iw_X7_takeRun_X7 : ∀ w ∈ wsX70, w ∈ wsX7_takeRun := by decide +kernel
theorem iw_X7_advance_X7 : ∀ w ∈ wsX70, w ∈ wsX7_advance := by decide +kernel
theorem iw_X7_fail_X7 : ∀ w ∈ wsX70, w ∈ wsX7_fail := by decide +kernel
theorem iw_X7_isNumber_X7 : ∀ w ∈ wsX70, w ∈ wsX7_isNumber := by decide +kernel
