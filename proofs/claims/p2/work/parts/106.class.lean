abbrev cX3_chanceFrom : ByteArray := prog_5_method_10_code
def yX3_chanceFrom : MethodName := ⟨RX3, "chanceFrom", "(II)I"⟩
def tyX4 : Nat → FieldType := fun k => match k with
  | 0 => .array .long
  | 1 => .long
  | 2 => .object "PaidBySigns$Table"
  | 3 => .array .int
  | 4 => .array .int
  | 5 => .array .int
  | 6 => .int
  | 7 => .int
  | 8 => .object "PaidBySigns$Hire"
  | 9 => .int
  | 10 => .int
  | _ => .int
abbrev wsX40 : List Cond := u_ws RX4 TX4 12
theorem nmX4 : ∀ a, a < 12 → ∀ b, b < 12 → a ≠ b → (TX4 a).2.1 ≠ (TX4 b).2.1 := by decide +kernel
theorem tyX4_ok : ∀ k, k < 12 → parseFieldDescriptor (TX4 k).2.2.1 = some (tyX4 k) := by decide +kernel
abbrev cX4_chanceOf : ByteArray := prog_6_method_8_code
def yX4_chanceOf : MethodName := ⟨RX4, "chanceOf", "(II)I"⟩
abbrev cX4_listColumns : ByteArray := prog_6_method_9_code
def yX4_listColumns : MethodName := ⟨RX4, "listColumns", "()V"⟩
abbrev cX4_listSteps : ByteArray := prog_6_method_10_code
def yX4_listSteps : MethodName := ⟨RX4, "listSteps", "(I)V"⟩
def RJ7 : String := "java/util/Arrays"
abbrev cJ7_fill_d0a16 : ByteArray := prog_19_method_101_code
def yJ7_fill_d0a16 : MethodName := ⟨RJ7, "fill", "([JJ)V"⟩
def wsX3_chanceFrom : List Cond := .code yX3_chanceFrom cX3_chanceFrom 5 (some .int) :: ([.fieldLink RX3 32 "PaidBySigns$Hire" "signs" "I", .fieldLink RX3 9 "PaidBySigns$Hire" "brings" "[I", .fieldLink RX3 20 "PaidBySigns$Hire" "chances" "[[I"] ++ wsX30)
def wsX4_chanceOf : List Cond := .code yX4_chanceOf cX4_chanceOf 3 (some .int) :: ([.fieldLink RX4 56 "PaidBySigns$LeastCost" "joinedSign" "I", .fieldLink RX4 53 "PaidBySigns$LeastCost" "keptSign" "I", .fieldLink RX4 46 "PaidBySigns$LeastCost" "hire" "LPaidBySigns$Hire;", .fieldLink RX4 112 "PaidBySigns$Hire" "chances" "[[I"] ++ wsX40 ++ wsX30)
def wsX4_listSteps : List Cond := .code yX4_listSteps cX4_listSteps 5 none :: ([.fieldLink RX4 46 "PaidBySigns$LeastCost" "hire" "LPaidBySigns$Hire;", .fieldLink RX4 79 "PaidBySigns$Hire" "least" "I", .fieldLink RX4 119 "PaidBySigns$Hire" "rates" "I", .fieldLink RX4 36 "PaidBySigns$LeastCost" "columns" "I", .fieldLink RX4 122 "PaidBySigns$Hire" "mark" "[I", .fieldLink RX4 26 "PaidBySigns$LeastCost" "columnSign" "[I", .fieldLink RX4 30 "PaidBySigns$LeastCost" "columnRate" "[I", .fieldLink RX4 125 "PaidBySigns$Hire" "rate" "[I", .fieldLink RX4 33 "PaidBySigns$LeastCost" "columnRoom" "[I", .fieldLink RX4 40 "PaidBySigns$LeastCost" "rooms" "I"] ++ wsX40 ++ wsX30)
def wsX4_listColumns : List Cond := .code yX4_listColumns cX4_listColumns 2 none :: ([.fieldLink RX4 36 "PaidBySigns$LeastCost" "columns" "I", .fieldLink RX4 40 "PaidBySigns$LeastCost" "rooms" "I", .fieldLink RX4 46 "PaidBySigns$LeastCost" "hire" "LPaidBySigns$Hire;", .fieldLink RX4 63 "PaidBySigns$Hire" "signs" "I", .fieldLink RX4 50 "PaidBySigns$LeastCost" "work" "I", .methodLink RX4 66 yX4_chanceOf, .instanceMethod yX4_chanceOf, .selects RX4 yX4_chanceOf yX4_chanceOf, .initialized RX4, .code yX4_chanceOf cX4_chanceOf 3 (some .int), .fieldLink RX4 56 "PaidBySigns$LeastCost" "joinedSign" "I", .fieldLink RX4 53 "PaidBySigns$LeastCost" "keptSign" "I", .fieldLink RX4 112 "PaidBySigns$Hire" "chances" "[[I", .methodLink RX4 116 yX4_listSteps, .instanceMethod yX4_listSteps, .selects RX4 yX4_listSteps yX4_listSteps, .code yX4_listSteps cX4_listSteps 5 none, .fieldLink RX4 79 "PaidBySigns$Hire" "least" "I", .fieldLink RX4 119 "PaidBySigns$Hire" "rates" "I", .fieldLink RX4 122 "PaidBySigns$Hire" "mark" "[I", .fieldLink RX4 26 "PaidBySigns$LeastCost" "columnSign" "[I", .fieldLink RX4 30 "PaidBySigns$LeastCost" "columnRate" "[I", .fieldLink RX4 125 "PaidBySigns$Hire" "rate" "[I", .fieldLink RX4 33 "PaidBySigns$LeastCost" "columnRoom" "[I"] ++ wsX40 ++ wsX30)
def wsJ7_fill_d0a16 : List Cond := .code yJ7_fill_d0a16 cJ7_fill_d0a16 5 none :: ([])
theorem dX3_chanceFrom_0 : decode cX3_chanceFrom 0 = .ok (.iconst 0, 1) := by decide +kernel
theorem dX3_chanceFrom_1 : decode cX3_chanceFrom 1 = .ok (.istore_n 3, 1) := by decide +kernel
theorem dX3_chanceFrom_2 : decode cX3_chanceFrom 2 = .ok (.iconst 0, 1) := by decide +kernel
theorem dX3_chanceFrom_3 : decode cX3_chanceFrom 3 = .ok (.istore 4, 2) := by decide +kernel
theorem dX3_chanceFrom_5 : decode cX3_chanceFrom 5 = .ok (.iload 4, 2) := by decide +kernel
theorem dX3_chanceFrom_7 : decode cX3_chanceFrom 7 = .ok (.aload_n 0, 1) := by decide +kernel
theorem dX3_chanceFrom_8 : decode cX3_chanceFrom 8 = .ok (.getfield 32, 3) := by decide +kernel
theorem dX3_chanceFrom_11 : decode cX3_chanceFrom 11 = .ok (.if_icmp .ge 37, 3) := by decide +kernel
theorem dX3_chanceFrom_14 : decode cX3_chanceFrom 14 = .ok (.aload_n 0, 1) := by decide +kernel
theorem dX3_chanceFrom_15 : decode cX3_chanceFrom 15 = .ok (.getfield 9, 3) := by decide +kernel
theorem dX3_chanceFrom_18 : decode cX3_chanceFrom 18 = .ok (.iload 4, 2) := by decide +kernel
theorem dX3_chanceFrom_20 : decode cX3_chanceFrom 20 = .ok (.iaload, 1) := by decide +kernel
theorem dX3_chanceFrom_21 : decode cX3_chanceFrom 21 = .ok (.aload_n 0, 1) := by decide +kernel
theorem dX3_chanceFrom_22 : decode cX3_chanceFrom 22 = .ok (.getfield 9, 3) := by decide +kernel
theorem dX3_chanceFrom_25 : decode cX3_chanceFrom 25 = .ok (.iload_n 2, 1) := by decide +kernel
theorem dX3_chanceFrom_26 : decode cX3_chanceFrom 26 = .ok (.iaload, 1) := by decide +kernel
theorem dX3_chanceFrom_27 : decode cX3_chanceFrom 27 = .ok (.if_icmp .lt 15, 3) := by decide +kernel
theorem dX3_chanceFrom_30 : decode cX3_chanceFrom 30 = .ok (.iload_n 3, 1) := by decide +kernel
theorem dX3_chanceFrom_31 : decode cX3_chanceFrom 31 = .ok (.aload_n 0, 1) := by decide +kernel
theorem dX3_chanceFrom_32 : decode cX3_chanceFrom 32 = .ok (.getfield 20, 3) := by decide +kernel
theorem dX3_chanceFrom_35 : decode cX3_chanceFrom 35 = .ok (.iload_n 1, 1) := by decide +kernel
theorem dX3_chanceFrom_36 : decode cX3_chanceFrom 36 = .ok (.aaload, 1) := by decide +kernel
theorem dX3_chanceFrom_37 : decode cX3_chanceFrom 37 = .ok (.iload 4, 2) := by decide +kernel
theorem dX3_chanceFrom_39 : decode cX3_chanceFrom 39 = .ok (.iaload, 1) := by decide +kernel
theorem dX3_chanceFrom_40 : decode cX3_chanceFrom 40 = .ok (.iadd, 1) := by decide +kernel
theorem dX3_chanceFrom_41 : decode cX3_chanceFrom 41 = .ok (.istore_n 3, 1) := by decide +kernel
theorem dX3_chanceFrom_42 : decode cX3_chanceFrom 42 = .ok (.iinc 4 1, 3) := by decide +kernel
theorem dX3_chanceFrom_45 : decode cX3_chanceFrom 45 = .ok (.goto (-40), 3) := by decide +kernel
theorem dX3_chanceFrom_48 : decode cX3_chanceFrom 48 = .ok (.iload_n 3, 1) := by decide +kernel
theorem dX3_chanceFrom_49 : decode cX3_chanceFrom 49 = .ok (.ireturn, 1) := by decide +kernel
theorem dX4_chanceOf_0 : decode cX4_chanceOf 0 = .ok (.iload_n 2, 1) := by decide +kernel
theorem dX4_chanceOf_1 : decode cX4_chanceOf 1 = .ok (.aload_n 0, 1) := by decide +kernel
theorem dX4_chanceOf_2 : decode cX4_chanceOf 2 = .ok (.getfield 56, 3) := by decide +kernel
theorem dX4_chanceOf_5 : decode cX4_chanceOf 5 = .ok (.if_icmp .ne 5, 3) := by decide +kernel
theorem dX4_chanceOf_8 : decode cX4_chanceOf 8 = .ok (.iconst 0, 1) := by decide +kernel
theorem dX4_chanceOf_9 : decode cX4_chanceOf 9 = .ok (.ireturn, 1) := by decide +kernel
theorem dX4_chanceOf_10 : decode cX4_chanceOf 10 = .ok (.iload_n 2, 1) := by decide +kernel
theorem dX4_chanceOf_11 : decode cX4_chanceOf 11 = .ok (.aload_n 0, 1) := by decide +kernel
theorem dX4_chanceOf_12 : decode cX4_chanceOf 12 = .ok (.getfield 53, 3) := by decide +kernel
theorem dX4_chanceOf_15 : decode cX4_chanceOf 15 = .ok (.if_icmp .ne 32, 3) := by decide +kernel
theorem dX4_chanceOf_18 : decode cX4_chanceOf 18 = .ok (.aload_n 0, 1) := by decide +kernel
theorem dX4_chanceOf_19 : decode cX4_chanceOf 19 = .ok (.getfield 46, 3) := by decide +kernel
theorem dX4_chanceOf_22 : decode cX4_chanceOf 22 = .ok (.getfield 112, 3) := by decide +kernel
theorem dX4_chanceOf_25 : decode cX4_chanceOf 25 = .ok (.iload_n 1, 1) := by decide +kernel
theorem dX4_chanceOf_26 : decode cX4_chanceOf 26 = .ok (.aaload, 1) := by decide +kernel
theorem dX4_chanceOf_27 : decode cX4_chanceOf 27 = .ok (.iload_n 2, 1) := by decide +kernel
theorem dX4_chanceOf_28 : decode cX4_chanceOf 28 = .ok (.iaload, 1) := by decide +kernel
theorem dX4_chanceOf_29 : decode cX4_chanceOf 29 = .ok (.aload_n 0, 1) := by decide +kernel
theorem dX4_chanceOf_30 : decode cX4_chanceOf 30 = .ok (.getfield 46, 3) := by decide +kernel
theorem dX4_chanceOf_33 : decode cX4_chanceOf 33 = .ok (.getfield 112, 3) := by decide +kernel
theorem dX4_chanceOf_36 : decode cX4_chanceOf 36 = .ok (.iload_n 1, 1) := by decide +kernel
theorem dX4_chanceOf_37 : decode cX4_chanceOf 37 = .ok (.aaload, 1) := by decide +kernel
theorem dX4_chanceOf_38 : decode cX4_chanceOf 38 = .ok (.aload_n 0, 1) := by decide +kernel
theorem dX4_chanceOf_39 : decode cX4_chanceOf 39 = .ok (.getfield 56, 3) := by decide +kernel
theorem dX4_chanceOf_42 : decode cX4_chanceOf 42 = .ok (.iaload, 1) := by decide +kernel
theorem dX4_chanceOf_43 : decode cX4_chanceOf 43 = .ok (.iadd, 1) := by decide +kernel
theorem dX4_chanceOf_44 : decode cX4_chanceOf 44 = .ok (.goto 14, 3) := by decide +kernel
theorem dX4_chanceOf_47 : decode cX4_chanceOf 47 = .ok (.aload_n 0, 1) := by decide +kernel
theorem dX4_chanceOf_48 : decode cX4_chanceOf 48 = .ok (.getfield 46, 3) := by decide +kernel
theorem dX4_chanceOf_51 : decode cX4_chanceOf 51 = .ok (.getfield 112, 3) := by decide +kernel
theorem dX4_chanceOf_54 : decode cX4_chanceOf 54 = .ok (.iload_n 1, 1) := by decide +kernel
theorem dX4_chanceOf_55 : decode cX4_chanceOf 55 = .ok (.aaload, 1) := by decide +kernel
theorem dX4_chanceOf_56 : decode cX4_chanceOf 56 = .ok (.iload_n 2, 1) := by decide +kernel
theorem dX4_chanceOf_57 : decode cX4_chanceOf 57 = .ok (.iaload, 1) := by decide +kernel
theorem dX4_chanceOf_58 : decode cX4_chanceOf 58 = .ok (.ireturn, 1) := by decide +kernel
set_option maxRecDepth 20000 in
theorem ggX4_listColumns_X4_chanceOf : GoodIn wsX4_listColumns wsX4_chanceOf := goodIn_r _ [10, 11, 12, 3, 13, 25, 26, 27, 28, 29, 30, 31, 32, 33, 34, 35, 36, 37, 38, 39, 40, 41, 42, 43, 44, 45, 46, 47] (by decide +kernel) (by decide +kernel)
set_option maxRecDepth 20000 in
theorem gX4_listColumns_X4_chanceOf : GoodIn wsX4_listColumns (wsV RX4 66 RX4 yX4_chanceOf wsX4_chanceOf) := goodIn_app (goodIn_of _ (by decide +kernel)) ggX4_listColumns_X4_chanceOf
set_option maxRecDepth 20000 in
theorem ggX4_listColumns_X4_listSteps : GoodIn wsX4_listColumns wsX4_listSteps := goodIn_r _ [17, 3, 18, 19, 1, 20, 21, 22, 23, 24, 2, 25, 26, 27, 28, 29, 30, 31, 32, 33, 34, 35, 36, 37, 38, 39, 40, 41, 42, 43, 44, 45, 46, 47] (by decide +kernel) (by decide +kernel)
set_option maxRecDepth 20000 in
theorem gX4_listColumns_X4_listSteps : GoodIn wsX4_listColumns (wsV RX4 116 RX4 yX4_listSteps wsX4_listSteps) := goodIn_app (goodIn_of _ (by decide +kernel)) ggX4_listColumns_X4_listSteps
theorem dX4_listColumns_0 : decode cX4_listColumns 0 = .ok (.aload_n 0, 1) := by decide +kernel
theorem dX4_listColumns_1 : decode cX4_listColumns 1 = .ok (.iconst 0, 1) := by decide +kernel
theorem dX4_listColumns_2 : decode cX4_listColumns 2 = .ok (.putfield 36, 3) := by decide +kernel
theorem dX4_listColumns_5 : decode cX4_listColumns 5 = .ok (.aload_n 0, 1) := by decide +kernel
theorem dX4_listColumns_6 : decode cX4_listColumns 6 = .ok (.iconst 0, 1) := by decide +kernel
theorem dX4_listColumns_7 : decode cX4_listColumns 7 = .ok (.putfield 40, 3) := by decide +kernel
theorem dX4_listColumns_10 : decode cX4_listColumns 10 = .ok (.iconst 0, 1) := by decide +kernel
theorem dX4_listColumns_11 : decode cX4_listColumns 11 = .ok (.istore_n 1, 1) := by decide +kernel
theorem dX4_listColumns_12 : decode cX4_listColumns 12 = .ok (.iload_n 1, 1) := by decide +kernel
theorem dX4_listColumns_13 : decode cX4_listColumns 13 = .ok (.aload_n 0, 1) := by decide +kernel
theorem dX4_listColumns_14 : decode cX4_listColumns 14 = .ok (.getfield 46, 3) := by decide +kernel
theorem dX4_listColumns_17 : decode cX4_listColumns 17 = .ok (.getfield 63, 3) := by decide +kernel
theorem dX4_listColumns_20 : decode cX4_listColumns 20 = .ok (.if_icmp .ge 26, 3) := by decide +kernel
theorem dX4_listColumns_23 : decode cX4_listColumns 23 = .ok (.aload_n 0, 1) := by decide +kernel
theorem dX4_listColumns_24 : decode cX4_listColumns 24 = .ok (.aload_n 0, 1) := by decide +kernel
theorem dX4_listColumns_25 : decode cX4_listColumns 25 = .ok (.getfield 50, 3) := by decide +kernel
theorem dX4_listColumns_28 : decode cX4_listColumns 28 = .ok (.iload_n 1, 1) := by decide +kernel
theorem dX4_listColumns_29 : decode cX4_listColumns 29 = .ok (.invokevirtual 66, 3) := by decide +kernel
theorem dX4_listColumns_32 : decode cX4_listColumns 32 = .ok (.ifCond .le 8, 3) := by decide +kernel
theorem dX4_listColumns_35 : decode cX4_listColumns 35 = .ok (.aload_n 0, 1) := by decide +kernel
theorem dX4_listColumns_36 : decode cX4_listColumns 36 = .ok (.iload_n 1, 1) := by decide +kernel
theorem dX4_listColumns_37 : decode cX4_listColumns 37 = .ok (.invokevirtual 116, 3) := by decide +kernel
theorem dX4_listColumns_40 : decode cX4_listColumns 40 = .ok (.iinc 1 1, 3) := by decide +kernel
theorem dX4_listColumns_43 : decode cX4_listColumns 43 = .ok (.goto (-31), 3) := by decide +kernel
theorem dX4_listColumns_46 : decode cX4_listColumns 46 = .ok (.return_, 1) := by decide +kernel
theorem dX4_listSteps_0 : decode cX4_listSteps 0 = .ok (.aload_n 0, 1) := by decide +kernel
theorem dX4_listSteps_1 : decode cX4_listSteps 1 = .ok (.getfield 46, 3) := by decide +kernel
theorem dX4_listSteps_4 : decode cX4_listSteps 4 = .ok (.getfield 79, 3) := by decide +kernel
theorem dX4_listSteps_7 : decode cX4_listSteps 7 = .ok (.istore_n 2, 1) := by decide +kernel
theorem dX4_listSteps_8 : decode cX4_listSteps 8 = .ok (.iconst 0, 1) := by decide +kernel
theorem dX4_listSteps_9 : decode cX4_listSteps 9 = .ok (.istore_n 3, 1) := by decide +kernel
theorem dX4_listSteps_10 : decode cX4_listSteps 10 = .ok (.iload_n 3, 1) := by decide +kernel
theorem dX4_listSteps_11 : decode cX4_listSteps 11 = .ok (.aload_n 0, 1) := by decide +kernel
theorem dX4_listSteps_12 : decode cX4_listSteps 12 = .ok (.getfield 46, 3) := by decide +kernel
theorem dX4_listSteps_15 : decode cX4_listSteps 15 = .ok (.getfield 119, 3) := by decide +kernel
theorem dX4_listSteps_18 : decode cX4_listSteps 18 = .ok (.if_icmp .ge 161, 3) := by decide +kernel
theorem dX4_listSteps_21 : decode cX4_listSteps 21 = .ok (.aload_n 0, 1) := by decide +kernel
theorem dX4_listSteps_22 : decode cX4_listSteps 22 = .ok (.getfield 36, 3) := by decide +kernel
theorem dX4_listSteps_25 : decode cX4_listSteps 25 = .ok (.bipush 12, 2) := by decide +kernel
theorem dX4_listSteps_27 : decode cX4_listSteps 27 = .ok (.if_icmp .ge 152, 3) := by decide +kernel
theorem dX4_listSteps_30 : decode cX4_listSteps 30 = .ok (.iload_n 3, 1) := by decide +kernel
theorem dX4_listSteps_31 : decode cX4_listSteps 31 = .ok (.aload_n 0, 1) := by decide +kernel
theorem dX4_listSteps_32 : decode cX4_listSteps 32 = .ok (.getfield 46, 3) := by decide +kernel
theorem dX4_listSteps_35 : decode cX4_listSteps 35 = .ok (.getfield 119, 3) := by decide +kernel
theorem dX4_listSteps_38 : decode cX4_listSteps 38 = .ok (.iconst 1, 1) := by decide +kernel
theorem dX4_listSteps_39 : decode cX4_listSteps 39 = .ok (.isub, 1) := by decide +kernel
theorem dX4_listSteps_40 : decode cX4_listSteps 40 = .ok (.if_icmp .ne 7, 3) := by decide +kernel
theorem dX4_listSteps_43 : decode cX4_listSteps 43 = .ok (.iconst 1, 1) := by decide +kernel
theorem dX4_listSteps_44 : decode cX4_listSteps 44 = .ok (.goto 4, 3) := by decide +kernel
theorem dX4_listSteps_47 : decode cX4_listSteps 47 = .ok (.iconst 0, 1) := by decide +kernel
theorem dX4_listSteps_48 : decode cX4_listSteps 48 = .ok (.istore 4, 2) := by decide +kernel
theorem dX4_listSteps_50 : decode cX4_listSteps 50 = .ok (.iload 4, 2) := by decide +kernel
theorem dX4_listSteps_52 : decode cX4_listSteps 52 = .ok (.ifCond .ne 19, 3) := by decide +kernel
theorem dX4_listSteps_55 : decode cX4_listSteps 55 = .ok (.aload_n 0, 1) := by decide +kernel
theorem dX4_listSteps_56 : decode cX4_listSteps 56 = .ok (.getfield 46, 3) := by decide +kernel
theorem dX4_listSteps_59 : decode cX4_listSteps 59 = .ok (.getfield 122, 3) := by decide +kernel
theorem dX4_listSteps_62 : decode cX4_listSteps 62 = .ok (.iload_n 3, 1) := by decide +kernel
theorem dX4_listSteps_63 : decode cX4_listSteps 63 = .ok (.iaload, 1) := by decide +kernel
theorem dX4_listSteps_64 : decode cX4_listSteps 64 = .ok (.iload_n 2, 1) := by decide +kernel
theorem dX4_listSteps_65 : decode cX4_listSteps 65 = .ok (.if_icmp .gt 6, 3) := by decide +kernel
theorem dX4_listSteps_68 : decode cX4_listSteps 68 = .ok (.goto 105, 3) := by decide +kernel
theorem dX4_listSteps_71 : decode cX4_listSteps 71 = .ok (.aload_n 0, 1) := by decide +kernel
theorem dX4_listSteps_72 : decode cX4_listSteps 72 = .ok (.getfield 26, 3) := by decide +kernel
theorem dX4_listSteps_75 : decode cX4_listSteps 75 = .ok (.aload_n 0, 1) := by decide +kernel
theorem dX4_listSteps_76 : decode cX4_listSteps 76 = .ok (.getfield 36, 3) := by decide +kernel
theorem dX4_listSteps_79 : decode cX4_listSteps 79 = .ok (.iload_n 1, 1) := by decide +kernel
theorem dX4_listSteps_80 : decode cX4_listSteps 80 = .ok (.iastore, 1) := by decide +kernel
theorem dX4_listSteps_81 : decode cX4_listSteps 81 = .ok (.aload_n 0, 1) := by decide +kernel
theorem dX4_listSteps_82 : decode cX4_listSteps 82 = .ok (.getfield 30, 3) := by decide +kernel
theorem dX4_listSteps_85 : decode cX4_listSteps 85 = .ok (.aload_n 0, 1) := by decide +kernel
theorem dX4_listSteps_86 : decode cX4_listSteps 86 = .ok (.getfield 36, 3) := by decide +kernel
theorem dX4_listSteps_89 : decode cX4_listSteps 89 = .ok (.aload_n 0, 1) := by decide +kernel
theorem dX4_listSteps_90 : decode cX4_listSteps 90 = .ok (.getfield 46, 3) := by decide +kernel
theorem dX4_listSteps_93 : decode cX4_listSteps 93 = .ok (.getfield 125, 3) := by decide +kernel
theorem dX4_listSteps_96 : decode cX4_listSteps 96 = .ok (.iload_n 3, 1) := by decide +kernel
theorem dX4_listSteps_97 : decode cX4_listSteps 97 = .ok (.iaload, 1) := by decide +kernel
theorem dX4_listSteps_98 : decode cX4_listSteps 98 = .ok (.iastore, 1) := by decide +kernel
theorem dX4_listSteps_99 : decode cX4_listSteps 99 = .ok (.aload_n 0, 1) := by decide +kernel
theorem dX4_listSteps_100 : decode cX4_listSteps 100 = .ok (.getfield 33, 3) := by decide +kernel
theorem dX4_listSteps_103 : decode cX4_listSteps 103 = .ok (.aload_n 0, 1) := by decide +kernel
theorem dX4_listSteps_104 : decode cX4_listSteps 104 = .ok (.getfield 36, 3) := by decide +kernel
theorem dX4_listSteps_107 : decode cX4_listSteps 107 = .ok (.iload 4, 2) := by decide +kernel
theorem dX4_listSteps_109 : decode cX4_listSteps 109 = .ok (.ifCond .eq 7, 3) := by decide +kernel
theorem dX4_listSteps_112 : decode cX4_listSteps 112 = .ok (.iconst (-1), 1) := by decide +kernel
theorem dX4_listSteps_113 : decode cX4_listSteps 113 = .ok (.goto 24, 3) := by decide +kernel
theorem dX4_listSteps_116 : decode cX4_listSteps 116 = .ok (.aload_n 0, 1) := by decide +kernel
theorem dX4_listSteps_117 : decode cX4_listSteps 117 = .ok (.getfield 46, 3) := by decide +kernel
theorem dX4_listSteps_120 : decode cX4_listSteps 120 = .ok (.getfield 122, 3) := by decide +kernel
theorem dX4_listSteps_123 : decode cX4_listSteps 123 = .ok (.iload_n 3, 1) := by decide +kernel
theorem dX4_listSteps_124 : decode cX4_listSteps 124 = .ok (.iaload, 1) := by decide +kernel
theorem dX4_listSteps_125 : decode cX4_listSteps 125 = .ok (.iload_n 2, 1) := by decide +kernel
theorem dX4_listSteps_126 : decode cX4_listSteps 126 = .ok (.isub, 1) := by decide +kernel
theorem dX4_listSteps_127 : decode cX4_listSteps 127 = .ok (.aload_n 0, 1) := by decide +kernel
theorem dX4_listSteps_128 : decode cX4_listSteps 128 = .ok (.getfield 46, 3) := by decide +kernel
theorem dX4_listSteps_131 : decode cX4_listSteps 131 = .ok (.getfield 125, 3) := by decide +kernel
theorem dX4_listSteps_134 : decode cX4_listSteps 134 = .ok (.iload_n 3, 1) := by decide +kernel
theorem dX4_listSteps_135 : decode cX4_listSteps 135 = .ok (.iaload, 1) := by decide +kernel
theorem dX4_listSteps_136 : decode cX4_listSteps 136 = .ok (.imul, 1) := by decide +kernel
theorem dX4_listSteps_137 : decode cX4_listSteps 137 = .ok (.iastore, 1) := by decide +kernel
theorem dX4_listSteps_138 : decode cX4_listSteps 138 = .ok (.aload_n 0, 1) := by decide +kernel
theorem dX4_listSteps_139 : decode cX4_listSteps 139 = .ok (.dup, 1) := by decide +kernel
theorem dX4_listSteps_140 : decode cX4_listSteps 140 = .ok (.getfield 36, 3) := by decide +kernel
theorem dX4_listSteps_143 : decode cX4_listSteps 143 = .ok (.iconst 1, 1) := by decide +kernel
theorem dX4_listSteps_144 : decode cX4_listSteps 144 = .ok (.iadd, 1) := by decide +kernel
theorem dX4_listSteps_145 : decode cX4_listSteps 145 = .ok (.putfield 36, 3) := by decide +kernel
theorem dX4_listSteps_148 : decode cX4_listSteps 148 = .ok (.iload 4, 2) := by decide +kernel
theorem dX4_listSteps_150 : decode cX4_listSteps 150 = .ok (.ifCond .ne 23, 3) := by decide +kernel
theorem dX4_listSteps_153 : decode cX4_listSteps 153 = .ok (.aload_n 0, 1) := by decide +kernel
theorem dX4_listSteps_154 : decode cX4_listSteps 154 = .ok (.getfield 46, 3) := by decide +kernel
theorem dX4_listSteps_157 : decode cX4_listSteps 157 = .ok (.getfield 122, 3) := by decide +kernel
theorem dX4_listSteps_160 : decode cX4_listSteps 160 = .ok (.iload_n 3, 1) := by decide +kernel
theorem dX4_listSteps_161 : decode cX4_listSteps 161 = .ok (.iaload, 1) := by decide +kernel
theorem dX4_listSteps_162 : decode cX4_listSteps 162 = .ok (.istore_n 2, 1) := by decide +kernel
theorem dX4_listSteps_163 : decode cX4_listSteps 163 = .ok (.aload_n 0, 1) := by decide +kernel
theorem dX4_listSteps_164 : decode cX4_listSteps 164 = .ok (.dup, 1) := by decide +kernel
theorem dX4_listSteps_165 : decode cX4_listSteps 165 = .ok (.getfield 40, 3) := by decide +kernel
theorem dX4_listSteps_168 : decode cX4_listSteps 168 = .ok (.iconst 1, 1) := by decide +kernel
theorem dX4_listSteps_169 : decode cX4_listSteps 169 = .ok (.iadd, 1) := by decide +kernel
theorem dX4_listSteps_170 : decode cX4_listSteps 170 = .ok (.putfield 40, 3) := by decide +kernel
theorem dX4_listSteps_173 : decode cX4_listSteps 173 = .ok (.iinc 3 1, 3) := by decide +kernel
theorem dX4_listSteps_176 : decode cX4_listSteps 176 = .ok (.goto (-166), 3) := by decide +kernel
theorem dX4_listSteps_179 : decode cX4_listSteps 179 = .ok (.return_, 1) := by decide +kernel
theorem dJ7_fill_d0a16_0 : decode cJ7_fill_d0a16 0 = .ok (.iconst 0, 1) := by decide +kernel
theorem dJ7_fill_d0a16_1 : decode cJ7_fill_d0a16 1 = .ok (.istore_n 3, 1) := by decide +kernel
theorem dJ7_fill_d0a16_2 : decode cJ7_fill_d0a16 2 = .ok (.aload_n 0, 1) := by decide +kernel
theorem dJ7_fill_d0a16_3 : decode cJ7_fill_d0a16 3 = .ok (.arraylength, 1) := by decide +kernel
theorem dJ7_fill_d0a16_4 : decode cJ7_fill_d0a16 4 = .ok (.istore 4, 2) := by decide +kernel
theorem dJ7_fill_d0a16_6 : decode cJ7_fill_d0a16 6 = .ok (.iload_n 3, 1) := by decide +kernel
theorem dJ7_fill_d0a16_7 : decode cJ7_fill_d0a16 7 = .ok (.iload 4, 2) := by decide +kernel
theorem dJ7_fill_d0a16_9 : decode cJ7_fill_d0a16 9 = .ok (.if_icmp .ge 13, 3) := by decide +kernel
theorem dJ7_fill_d0a16_12 : decode cJ7_fill_d0a16 12 = .ok (.aload_n 0, 1) := by decide +kernel
theorem dJ7_fill_d0a16_13 : decode cJ7_fill_d0a16 13 = .ok (.iload_n 3, 1) := by decide +kernel
theorem dJ7_fill_d0a16_14 : decode cJ7_fill_d0a16 14 = .ok (.lload_n 1, 1) := by decide +kernel
theorem dJ7_fill_d0a16_15 : decode cJ7_fill_d0a16 15 = .ok (.lastore, 1) := by decide +kernel
theorem dJ7_fill_d0a16_16 : decode cJ7_fill_d0a16 16 = .ok (.iinc 3 1, 3) := by decide +kernel
theorem dJ7_fill_d0a16_19 : decode cJ7_fill_d0a16 19 = .ok (.goto (-13), 3) := by decide +kernel
theorem dJ7_fill_d0a16_22 : decode cJ7_fill_d0a16 22 = .ok (.return_, 1) := by decide +kernel
theorem kk_X3_chanceFrom_0 : Cond.fieldLink RX3 32 "PaidBySigns$Hire" "signs" "I" ∈ wsX3_chanceFrom := by decide +kernel
theorem kk_X3_chanceFrom_1 : Cond.fieldLink RX3 9 "PaidBySigns$Hire" "brings" "[I" ∈ wsX3_chanceFrom := by decide +kernel
theorem kk_X3_chanceFrom_2 : Cond.fieldLink RX3 20 "PaidBySigns$Hire" "chances" "[[I" ∈ wsX3_chanceFrom := by decide +kernel
theorem kk_X4_listColumns_0 : Cond.fieldLink RX4 36 "PaidBySigns$LeastCost" "columns" "I" ∈ wsX4_listColumns := by decide +kernel
theorem kk_X4_listColumns_1 : Cond.fieldLink RX4 40 "PaidBySigns$LeastCost" "rooms" "I" ∈ wsX4_listColumns := by decide +kernel
theorem kk_X4_listColumns_2 : Cond.fieldLink RX4 46 "PaidBySigns$LeastCost" "hire" "LPaidBySigns$Hire;" ∈ wsX4_listColumns := by decide +kernel
theorem kk_X4_listColumns_3 : Cond.fieldLink RX4 63 "PaidBySigns$Hire" "signs" "I" ∈ wsX4_listColumns := by decide +kernel
theorem kk_X4_listColumns_4 : Cond.fieldLink RX4 50 "PaidBySigns$LeastCost" "work" "I" ∈ wsX4_listColumns := by decide +kernel
theorem kk_X4_chanceOf_0 : Cond.fieldLink RX4 56 "PaidBySigns$LeastCost" "joinedSign" "I" ∈ wsX4_chanceOf := by decide +kernel
theorem kk_X4_chanceOf_1 : Cond.fieldLink RX4 53 "PaidBySigns$LeastCost" "keptSign" "I" ∈ wsX4_chanceOf := by decide +kernel
theorem kk_X4_chanceOf_2 : Cond.fieldLink RX4 46 "PaidBySigns$LeastCost" "hire" "LPaidBySigns$Hire;" ∈ wsX4_chanceOf := by decide +kernel
theorem kk_X4_chanceOf_3 : Cond.fieldLink RX4 112 "PaidBySigns$Hire" "chances" "[[I" ∈ wsX4_chanceOf := by decide +kernel
theorem kk_X4_listSteps_0 : Cond.fieldLink RX4 46 "PaidBySigns$LeastCost" "hire" "LPaidBySigns$Hire;" ∈ wsX4_listSteps := by decide +kernel
theorem kk_X4_listSteps_1 : Cond.fieldLink RX4 79 "PaidBySigns$Hire" "least" "I" ∈ wsX4_listSteps := by decide +kernel
theorem kk_X4_listSteps_2 : Cond.fieldLink RX4 119 "PaidBySigns$Hire" "rates" "I" ∈ wsX4_listSteps := by decide +kernel
theorem kk_X4_listSteps_3 : Cond.fieldLink RX4 36 "PaidBySigns$LeastCost" "columns" "I" ∈ wsX4_listSteps := by decide +kernel
theorem kk_X4_listSteps_4 : Cond.fieldLink RX4 122 "PaidBySigns$Hire" "mark" "[I" ∈ wsX4_listSteps := by decide +kernel
theorem kk_X4_listSteps_5 : Cond.fieldLink RX4 26 "PaidBySigns$LeastCost" "columnSign" "[I" ∈ wsX4_listSteps := by decide +kernel
theorem kk_X4_listSteps_6 : Cond.fieldLink RX4 30 "PaidBySigns$LeastCost" "columnRate" "[I" ∈ wsX4_listSteps := by decide +kernel
theorem kk_X4_listSteps_7 : Cond.fieldLink RX4 125 "PaidBySigns$Hire" "rate" "[I" ∈ wsX4_listSteps := by decide +kernel
theorem kk_X4_listSteps_8 : Cond.fieldLink RX4 33 "PaidBySigns$LeastCost" "columnRoom" "[I" ∈ wsX4_listSteps := by decide +kernel
theorem kk_X4_listSteps_9 : Cond.fieldLink RX4 40 "PaidBySigns$LeastCost" "rooms" "I" ∈ wsX4_listSteps := by decide +kernel
theorem iw_X3_chanceFrom_X3 : ∀ w ∈ wsX30, w ∈ wsX3_chanceFrom := by decide +kernel
theorem iw_X4_listColumns_X4 : ∀ w ∈ wsX40, w ∈ wsX4_listColumns := by decide +kernel
theorem iw_X4_listColumns_X3 : ∀ w ∈ wsX30, w ∈ wsX4_listColumns := by decide +kernel
theorem iw_X4_chanceOf_X4 : ∀ w ∈ wsX40, w ∈ wsX4_chanceOf := by decide +kernel
theorem iw_X4_chanceOf_X3 : ∀ w ∈ wsX30, w ∈ wsX4_chanceOf := by decide +kernel
theorem iw_X4_listSteps_X4 : ∀ w ∈ wsX40, w ∈ wsX4_listSteps := by decide +kernel
theorem iw_X4_listSteps_X3 : ∀ w ∈ wsX30, w ∈ wsX4_listSteps := by decide +kernel
set_option maxHeartbeats 4000000 in
set_option maxRecDepth 100000 in
theorem ct_X3_chanceFrom (l : Launch) (dC : Nat → ClassId) (dI : Nat → Nat → Nat) (o : Nat) (p0 : Int32) (p1 : Int32) (v_signs : Int32) (v_works : Int32) (v_whole : Int32) (v_otherwise : Int32) (v_least : Int32) (v_rates : Int32) (a_brings : Nat) (a_costs : Nat) (a_chances : Nat) (a_rate : Nat) (a_mark : Nat) (k_a_brings : ClassId) (f_a_brings : Nat → Int32) (k_a_chances : ClassId) (R_a_chances : Nat → Nat) (LP : List Nat) (sh : Nat → Nat) (fp : Nat → va_E) (cI : ClassId) (cJ : ClassId) (hp0 : iv p0 0 4) (hp1 : iv p1 0 3) (hv_signs : iv v_signs 0 4) (hfp : pok cI cJ LP sh fp) (hRR_a_chances : ∀ i : Nat, i < 5 → R_a_chances i ∈ LP ∧ sh (R_a_chances i) = 104) (sz : Nat) : Met l yX3_chanceFrom wsX3_chanceFrom ({ frames := 0, cells := 0, slots := 0, locals := 0 }) (va_Pc [.ref o, .int p0, .int p1] (fun U => U.heap.size = sz ∧ va_P (dC, dI) vwCl ([(o, .inr (3, [.int v_signs, .int v_works, .int v_whole, .int v_otherwise, .int v_least, .int v_rates, .ref a_brings, .ref a_costs, .ref a_chances, .ref a_rate, .ref a_mark])), (a_brings, .inl (k_a_brings, 4, .inl f_a_brings)), (a_chances, .inl (k_a_chances, 5, .inr (.inr (.inr (.inr (rows_of 5 R_a_chances))))))] ++ va_pl LP fp) U.heap ∧ va_K (dC, dI) vwCl [(k_a_brings, .int), (k_a_chances, (.array .int)), (cI, .int), (cJ, .long)] U ∧ va_D (fun _ => True) ([(o, .inr (3, [.int v_signs, .int v_works, .int v_whole, .int v_otherwise, .int v_least, .int v_rates, .ref a_brings, .ref a_costs, .ref a_chances, .ref a_rate, .ref a_mark])), (a_brings, .inl (k_a_brings, 4, .inl f_a_brings)), (a_chances, .inl (k_a_chances, 5, .inr (.inr (.inr (.inr (rows_of 5 R_a_chances))))))] ++ va_pl LP fp))) (va_Qi (fun (r u : Int32) => u = r) (fun (r : Int32) t => va_P (dC, dI) vwCl ([(o, .inr (3, [.int v_signs, .int v_works, .int v_whole, .int v_otherwise, .int v_least, .int v_rates, .ref a_brings, .ref a_costs, .ref a_chances, .ref a_rate, .ref a_mark])), (a_brings, .inl (k_a_brings, 4, .inl f_a_brings)), (a_chances, .inl (k_a_chances, 5, .inr (.inr (.inr (.inr (rows_of 5 R_a_chances))))))] ++ va_pl LP fp) t.heap ∧ va_D (va_A ([(o, .inr (3, [.int v_signs, .int v_works, .int v_whole, .int v_otherwise, .int v_least, .int v_rates, .ref a_brings, .ref a_costs, .ref a_chances, .ref a_rate, .ref a_mark])), (a_brings, .inl (k_a_brings, 4, .inl f_a_brings)), (a_chances, .inl (k_a_chances, 5, .inr (.inr (.inr (.inr (rows_of 5 R_a_chances))))))] ++ va_pl LP fp) sz) ([(o, .inr (3, [.int v_signs, .int v_works, .int v_whole, .int v_otherwise, .int v_least, .int v_rates, .ref a_brings, .ref a_costs, .ref a_chances, .ref a_rate, .ref a_mark])), (a_brings, .inl (k_a_brings, 4, .inl f_a_brings)), (a_chances, .inl (k_a_chances, 5, .inr (.inr (.inr (.inr (rows_of 5 R_a_chances))))))] ++ va_pl LP fp)) (va_A ([(o, .inr (3, [.int v_signs, .int v_works, .int v_whole, .int v_otherwise, .int v_least, .int v_rates, .ref a_brings, .ref a_costs, .ref a_chances, .ref a_rate, .ref a_mark])), (a_brings, .inl (k_a_brings, 4, .inl f_a_brings)), (a_chances, .inl (k_a_chances, 5, .inr (.inr (.inr (.inr (rows_of 5 R_a_chances))))))] ++ va_pl LP fp) sz)) 0 0 (va_A ([(o, .inr (3, [.int v_signs, .int v_works, .int v_whole, .int v_otherwise, .int v_least, .int v_rates, .ref a_brings, .ref a_costs, .ref a_chances, .ref a_rate, .ref a_mark])), (a_brings, .inl (k_a_brings, 4, .inl f_a_brings)), (a_chances, .inl (k_a_chances, 5, .inr (.inr (.inr (.inr (rows_of 5 R_a_chances))))))] ++ va_pl LP fp) sz) := by
  refine Met.ofW (cc := cX3_chanceFrom) (maxL := 5) (ret := (some .int)) (by decide) rfl ?_
  intro p e s m args below meth c s₁ B hml hv
  obtain ⟨rfl, hsz, hP, hK, hD0⟩ := hv
  have hx := B.exec
  have hb := B.bytes
  have hr := B.returns
  have hts := atoms_spec (ws := wsX3_chanceFrom) B.pre
  have hown : s.vm.findClass RX3 = some m.cls := findClass_of_methodNamed B.named
  have hlocks := B.notSynchronized
  subst hsz
  have hD := hD0.self (sz := s.heap.size)
  generalize hAe : va_A ([(o, .inr (3, [.int v_signs, .int v_works, .int v_whole, .int v_otherwise, .int v_least, .int v_rates, .ref a_brings, .ref a_costs, .ref a_chances, .ref a_rate, .ref a_mark])), (a_brings, .inl (k_a_brings, 4, .inl f_a_brings)), (a_chances, .inl (k_a_chances, 5, .inr (.inr (.inr (.inr (rows_of 5 R_a_chances))))))] ++ va_pl LP fp) s.heap.size = A at hD ⊢
  have hA : ∀ q : Nat, s.heap.size ≤ q → A q := fun q h => by rw [← hAe]; exact Or.inr h
  have hS : va_S A s.heap s.heap [] := va_S.rf
  have hP : va_P (dC, dI) vwCl ([(o, .inr (3, [.int v_signs, .int v_works, .int v_whole, .int v_otherwise, .int v_least, .int v_rates, .ref a_brings, .ref a_costs, .ref a_chances, .ref a_rate, .ref a_mark])), (a_brings, .inl (k_a_brings, 4, .inl f_a_brings)), (a_chances, .inl (k_a_chances, 5, .inr (.inr (.inr (.inr (rows_of 5 R_a_chances))))))] ++ va_pl LP fp) s.heap := hP
  have hl := lv_entry ([.ref o, .int p0, .int p1]) (n := 5) (Nat.le_of_ble_eq_true rfl)
  rw [lg_entry_eq]
  generalize (lg_sl ([.ref o, .int p0, .int p1]) ++ List.replicate (5 - (lg_sl ([.ref o, .int p0, .int p1])).length) Slot.unset).toArray = ls at hl ⊢
  have hl : lv_has ls 5 [(0, .ref o), (1, .int p0), (2, .int p1)] := hl
  refine lv_iconst (v := 0) hx hb dX3_chanceFrom_0 (by decide) ?_
  refine lv_istore_n (lv' := [(3, .int 0), (0, .ref o), (1, .int p0), (2, .int p1)]) hx hb dX3_chanceFrom_1 rfl hl (by decide) rfl (fun ls hl => ?_)
  refine lv_iconst (v := 0) hx hb dX3_chanceFrom_2 (by decide) ?_
  refine lv_istore (lv' := [(4, .int 0), (3, .int 0), (0, .ref o), (1, .int p0), (2, .int p1)]) hx hb dX3_chanceFrom_3 hl (by decide) rfl (fun ls hl => ?_)
  refine tl_loop (I := fun nn H locs ls => ∃ (v1 : Int32) (v2 : Int32), nn = (4 - v1.toInt).toNat ∧ iv v1 0 4 ∧  va_P (dC, dI) vwCl ([(o, .inr (3, [.int v_signs, .int v_works, .int v_whole, .int v_otherwise, .int v_least, .int v_rates, .ref a_brings, .ref a_costs, .ref a_chances, .ref a_rate, .ref a_mark])), (a_brings, .inl (k_a_brings, 4, .inl f_a_brings)), (a_chances, .inl (k_a_chances, 5, .inr (.inr (.inr (.inr (rows_of 5 R_a_chances))))))] ++ va_pl LP fp) H ∧ va_D A ([(o, .inr (3, [.int v_signs, .int v_works, .int v_whole, .int v_otherwise, .int v_least, .int v_rates, .ref a_brings, .ref a_costs, .ref a_chances, .ref a_rate, .ref a_mark])), (a_brings, .inl (k_a_brings, 4, .inl f_a_brings)), (a_chances, .inl (k_a_chances, 5, .inr (.inr (.inr (.inr (rows_of 5 R_a_chances))))))] ++ va_pl LP fp) ∧ va_S A s.heap H locs ∧ lv_has ls 5 [(4, .int v1), (3, .int v2), (0, .ref o), (1, .int p0), (2, .int p1)]) ?_ ⟨0, 0, rfl, (iv.m (by decide)), hP, hD, hS, lv_sub hl [0, 1, 2, 3, 4] rfl⟩
  clear hP hD hS hl
  intro nn5 H locs ls hI ih5
  obtain ⟨v1, v2, hn5, hv1, hP, hD, hS, hl⟩ := hI
  have bv1 := hv1.u
  have bv2 := i32_rng v2
  refine lv_iload hx hb dX3_chanceFrom_5 (lv_at hl 0 rfl) ?_
  refine lv_aload_n hx hb dX3_chanceFrom_7 rfl (lv_at hl 2 rfl) ?_
  refine va_get (D := (dC, dI)) (ci := 3) (v := .int v_signs) (C := RX3) (T := TX3) (N := 11) hx hb hts iw_X3_chanceFrom_X3 hown hK hP 0 rfl rfl 0 (by decide) (hts _ kk_X3_chanceFrom_0) (fun _ h9 => h9) rfl dX3_chanceFrom_8 ?_
  have bv_signs := hv_signs.u
  refine lv_icmp_ge (tgt := 48) hx hb dX3_chanceFrom_11 (by decide) (fun c3 => ?_) (fun c3 => ?_)
  · have c39 := i32_le c3 rfl rfl
    refine lv_iload_n hx hb dX3_chanceFrom_48 rfl (lv_at hl 1 rfl) ?_
    have hP9 := hP.part (cx := [(o, .inr (3, [.int v_signs, .int v_works, .int v_whole, .int v_otherwise, .int v_least, .int v_rates, .ref a_brings, .ref a_costs, .ref a_chances, .ref a_rate, .ref a_mark])), (a_brings, .inl (k_a_brings, 4, .inl f_a_brings)), (a_chances, .inl (k_a_chances, 5, .inr (.inr (.inr (.inr (rows_of 5 R_a_chances))))))]) [0, 1, 2] rfl
    have hD9 := hD.part (cx := [(o, .inr (3, [.int v_signs, .int v_works, .int v_whole, .int v_otherwise, .int v_least, .int v_rates, .ref a_brings, .ref a_costs, .ref a_chances, .ref a_rate, .ref a_mark])), (a_brings, .inl (k_a_brings, 4, .inl f_a_brings)), (a_chances, .inl (k_a_chances, 5, .inr (.inr (.inr (.inr (rows_of 5 R_a_chances))))))]) [0, 1, 2] (by decide) rfl
    exact W.iret (v := v2) hx hb hr (fun t ht hW => ⟨⟨v2, v2, rfl, rfl, by rw [ht]; exact hP9, hD9⟩, hS.F ht⟩) hS.2.2 dX3_chanceFrom_49
  · have c39 := i32_nle c3 rfl rfl
    refine lv_aload_n hx hb dX3_chanceFrom_14 rfl (lv_at hl 2 rfl) ?_
    refine va_get (D := (dC, dI)) (ci := 3) (v := .ref a_brings) (C := RX3) (T := TX3) (N := 11) hx hb hts iw_X3_chanceFrom_X3 hown hK hP 0 rfl rfl 6 (by decide) (hts _ kk_X3_chanceFrom_1) (fun _ h9 => h9) rfl dX3_chanceFrom_15 ?_
    refine lv_iload hx hb dX3_chanceFrom_18 (lv_at hl 0 rfl) ?_
    refine va_iald hx hb hK hP 1 0 rfl rfl (vq_in v1 4 (by omega)) dX3_chanceFrom_20 ?_
    refine lv_topi (fun x4 ex4 => ?_)
    refine lv_aload_n hx hb dX3_chanceFrom_21 rfl (lv_at hl 2 rfl) ?_
    refine va_get (D := (dC, dI)) (ci := 3) (v := .ref a_brings) (C := RX3) (T := TX3) (N := 11) hx hb hts iw_X3_chanceFrom_X3 hown hK hP 0 rfl rfl 6 (by decide) (hts _ kk_X3_chanceFrom_1) (fun _ h9 => h9) rfl dX3_chanceFrom_22 ?_
    refine lv_iload_n hx hb dX3_chanceFrom_25 rfl (lv_at hl 4 rfl) ?_
    have bp1 := hp1.u
    refine va_iald hx hb hK hP 1 0 rfl rfl (vq_in p1 4 (by omega)) dX3_chanceFrom_26 ?_
    refine lv_topi (fun x5 ex5 => ?_)
    have bx4 := i32_rng x4
    have bx5 := i32_rng x5
    refine lv_icmp_lt (tgt := 42) hx hb dX3_chanceFrom_27 (by decide) (fun c6 => ?_) (fun c6 => ?_)
    · have c69 := i32_lt c6 rfl rfl
      obtain ⟨x7, ex7⟩ : ∃ z : Int32, v1 + Int32.ofInt 1 = z := ⟨_, rfl⟩
      have tx7 := i32_inc ex7 rfl (by decide) (by omega) (by omega)
      refine lv_iinc (v := x7) (lv' := [(4, .int x7), (3, .int v2), (0, .ref o), (1, .int p0), (2, .int p1)]) hx hb dX3_chanceFrom_42 hl (k := 0) rfl ex7 (by decide) rfl (fun ls hl => ?_)
      refine lv_goto (tgt := 5) hx hb dX3_chanceFrom_45 (by decide) ?_
      exact ih5 _ _ _ _ (by omega) ⟨x7, v2, rfl, (iv.m (by omega)), hP, hD, hS, lv_sub hl [0, 1, 2, 3, 4] rfl⟩
    · have c69 := i32_nlt c6 rfl rfl
      refine lv_iload_n hx hb dX3_chanceFrom_30 rfl (lv_at hl 1 rfl) ?_
      refine lv_aload_n hx hb dX3_chanceFrom_31 rfl (lv_at hl 2 rfl) ?_
      refine va_get (D := (dC, dI)) (ci := 3) (v := .ref a_chances) (C := RX3) (T := TX3) (N := 11) hx hb hts iw_X3_chanceFrom_X3 hown hK hP 0 rfl rfl 8 (by decide) (hts _ kk_X3_chanceFrom_2) (fun _ h9 => h9) rfl dX3_chanceFrom_32 ?_
      refine lv_iload_n hx hb dX3_chanceFrom_35 rfl (lv_at hl 3 rfl) ?_
      have bp0 := hp0.u
      have hinrw8 : vp_in p0 5 := (vq_in p0 5 (by omega))
      refine va_aldA hx hb hK hP 2 1 rfl rfl hinrw8 dX3_chanceFrom_36 ?_
      refine px_v (row_sel hinrw8) ?_
      obtain ⟨rw8, erw8⟩ : ∃ z : Nat, z = R_a_chances (Int32.toNatClampNeg p0) := ⟨_, rfl⟩
      rw [← erw8]
      have mrw8 : rw8 ∈ LP ∧ sh rw8 = 104 := by rw [erw8]; exact hRR_a_chances _ (vin_lt hinrw8)
      refine lv_iload hx hb dX3_chanceFrom_37 (lv_at hl 0 rfl) ?_
      obtain ⟨gk9, hgk9, bgk9⟩ := pok_104 (hfp) mrw8
      obtain ⟨kk10, hkk10⟩ := va_pl_get (X := [(o, .inr (3, [.int v_signs, .int v_works, .int v_whole, .int v_otherwise, .int v_least, .int v_rates, .ref a_brings, .ref a_costs, .ref a_chances, .ref a_rate, .ref a_mark])), (a_brings, .inl (k_a_brings, 4, .inl f_a_brings)), (a_chances, .inl (k_a_chances, 5, .inr (.inr (.inr (.inr (rows_of 5 R_a_chances))))))]) (f := fp) mrw8.1
      have qkk10 := hkk10
      rw [hgk9] at qkk10
      refine va_iald hx hb hK hP kk10 2 qkk10 rfl (vq_in v1 4 (by omega)) dX3_chanceFrom_39 ?_
      refine lv_topi (fun x11 ex11 => ?_)
      have hx11 : iv x11 0 10 := iv.of (bgk9 _) ex11
      refine lv_iadd hx hb dX3_chanceFrom_40 ?_
      refine lv_topi (fun x12 ex12 => ?_)
      refine lv_istore_n (lv' := [(3, .int x12), (4, .int v1), (0, .ref o), (1, .int p0), (2, .int p1)]) hx hb dX3_chanceFrom_41 rfl hl (by decide) rfl (fun ls hl => ?_)
      obtain ⟨x13, ex13⟩ : ∃ z : Int32, v1 + Int32.ofInt 1 = z := ⟨_, rfl⟩
      have tx13 := i32_inc ex13 rfl (by decide) (by omega) (by omega)
      refine lv_iinc (v := x13) (lv' := [(4, .int x13), (3, .int x12), (0, .ref o), (1, .int p0), (2, .int p1)]) hx hb dX3_chanceFrom_42 hl (k := 1) rfl ex13 (by decide) rfl (fun ls hl => ?_)
      refine lv_goto (tgt := 5) hx hb dX3_chanceFrom_45 (by decide) ?_
      have bx12 := i32_rng x12
      exact ih5 _ _ _ _ (by omega) ⟨x13, x12, rfl, (iv.m (by omega)), hP, hD, hS, lv_sub hl [0, 1, 2, 3, 4] rfl⟩

set_option maxHeartbeats 4000000 in
set_option maxRecDepth 100000 in
theorem ct_X4_chanceOf (l : Launch) (dC : Nat → ClassId) (dI : Nat → Nat → Nat) (o : Nat) (p0 : Int32) (p1 : Int32) (a_above : Nat) (v_aboveLower : Int64) (o_table : Nat) (a_columnSign : Nat) (a_columnRate : Nat) (a_columnRoom : Nat) (v_columns : Int32) (v_rooms : Int32) (o_hire : Nat) (v_work : Int32) (v_keptSign : Int32) (v_joinedSign : Int32) (hire_v_signs : Int32) (hire_v_works : Int32) (hire_v_whole : Int32) (hire_v_otherwise : Int32) (hire_v_least : Int32) (hire_v_rates : Int32) (hire_a_brings : Nat) (hire_a_costs : Nat) (hire_a_chances : Nat) (hire_a_rate : Nat) (hire_a_mark : Nat) (k_hire_a_chances : ClassId) (R_hire_a_chances : Nat → Nat) (LP : List Nat) (sh : Nat → Nat) (fp : Nat → va_E) (cI : ClassId) (cJ : ClassId) (hp0 : iv p0 0 4) (hp1 : iv p1 0 3) (hv_keptSign : iv v_keptSign (-1) 3) (hv_joinedSign : iv v_joinedSign (-1) 3) (hfp : pok cI cJ LP sh fp) (hRR_hire_a_chances : ∀ i : Nat, i < 5 → R_hire_a_chances i ∈ LP ∧ sh (R_hire_a_chances i) = 104) (hkj : v_keptSign.toInt = -1 ∨ 0 ≤ v_joinedSign.toInt) (sz : Nat) : Met l yX4_chanceOf wsX4_chanceOf ({ frames := 0, cells := 0, slots := 0, locals := 0 }) (va_Pc [.ref o, .int p0, .int p1] (fun U => U.heap.size = sz ∧ va_P (dC, dI) vwCl ([(o, .inr (4, [.ref a_above, .long v_aboveLower, .ref o_table, .ref a_columnSign, .ref a_columnRate, .ref a_columnRoom, .int v_columns, .int v_rooms, .ref o_hire, .int v_work, .int v_keptSign, .int v_joinedSign])), (o_hire, .inr (3, [.int hire_v_signs, .int hire_v_works, .int hire_v_whole, .int hire_v_otherwise, .int hire_v_least, .int hire_v_rates, .ref hire_a_brings, .ref hire_a_costs, .ref hire_a_chances, .ref hire_a_rate, .ref hire_a_mark])), (hire_a_chances, .inl (k_hire_a_chances, 5, .inr (.inr (.inr (.inr (rows_of 5 R_hire_a_chances))))))] ++ va_pl LP fp) U.heap ∧ va_K (dC, dI) vwCl [(k_hire_a_chances, (.array .int)), (cI, .int), (cJ, .long)] U ∧ va_D (fun _ => True) ([(o, .inr (4, [.ref a_above, .long v_aboveLower, .ref o_table, .ref a_columnSign, .ref a_columnRate, .ref a_columnRoom, .int v_columns, .int v_rooms, .ref o_hire, .int v_work, .int v_keptSign, .int v_joinedSign])), (o_hire, .inr (3, [.int hire_v_signs, .int hire_v_works, .int hire_v_whole, .int hire_v_otherwise, .int hire_v_least, .int hire_v_rates, .ref hire_a_brings, .ref hire_a_costs, .ref hire_a_chances, .ref hire_a_rate, .ref hire_a_mark])), (hire_a_chances, .inl (k_hire_a_chances, 5, .inr (.inr (.inr (.inr (rows_of 5 R_hire_a_chances))))))] ++ va_pl LP fp))) (va_Qi (fun (r u : Int32) => u = r) (fun (r : Int32) t => iv r 0 20 ∧ va_P (dC, dI) vwCl ([(o, .inr (4, [.ref a_above, .long v_aboveLower, .ref o_table, .ref a_columnSign, .ref a_columnRate, .ref a_columnRoom, .int v_columns, .int v_rooms, .ref o_hire, .int v_work, .int v_keptSign, .int v_joinedSign])), (o_hire, .inr (3, [.int hire_v_signs, .int hire_v_works, .int hire_v_whole, .int hire_v_otherwise, .int hire_v_least, .int hire_v_rates, .ref hire_a_brings, .ref hire_a_costs, .ref hire_a_chances, .ref hire_a_rate, .ref hire_a_mark])), (hire_a_chances, .inl (k_hire_a_chances, 5, .inr (.inr (.inr (.inr (rows_of 5 R_hire_a_chances))))))] ++ va_pl LP fp) t.heap ∧ va_D (va_A ([(o, .inr (4, [.ref a_above, .long v_aboveLower, .ref o_table, .ref a_columnSign, .ref a_columnRate, .ref a_columnRoom, .int v_columns, .int v_rooms, .ref o_hire, .int v_work, .int v_keptSign, .int v_joinedSign])), (o_hire, .inr (3, [.int hire_v_signs, .int hire_v_works, .int hire_v_whole, .int hire_v_otherwise, .int hire_v_least, .int hire_v_rates, .ref hire_a_brings, .ref hire_a_costs, .ref hire_a_chances, .ref hire_a_rate, .ref hire_a_mark])), (hire_a_chances, .inl (k_hire_a_chances, 5, .inr (.inr (.inr (.inr (rows_of 5 R_hire_a_chances))))))] ++ va_pl LP fp) sz) ([(o, .inr (4, [.ref a_above, .long v_aboveLower, .ref o_table, .ref a_columnSign, .ref a_columnRate, .ref a_columnRoom, .int v_columns, .int v_rooms, .ref o_hire, .int v_work, .int v_keptSign, .int v_joinedSign])), (o_hire, .inr (3, [.int hire_v_signs, .int hire_v_works, .int hire_v_whole, .int hire_v_otherwise, .int hire_v_least, .int hire_v_rates, .ref hire_a_brings, .ref hire_a_costs, .ref hire_a_chances, .ref hire_a_rate, .ref hire_a_mark])), (hire_a_chances, .inl (k_hire_a_chances, 5, .inr (.inr (.inr (.inr (rows_of 5 R_hire_a_chances))))))] ++ va_pl LP fp)) (va_A ([(o, .inr (4, [.ref a_above, .long v_aboveLower, .ref o_table, .ref a_columnSign, .ref a_columnRate, .ref a_columnRoom, .int v_columns, .int v_rooms, .ref o_hire, .int v_work, .int v_keptSign, .int v_joinedSign])), (o_hire, .inr (3, [.int hire_v_signs, .int hire_v_works, .int hire_v_whole, .int hire_v_otherwise, .int hire_v_least, .int hire_v_rates, .ref hire_a_brings, .ref hire_a_costs, .ref hire_a_chances, .ref hire_a_rate, .ref hire_a_mark])), (hire_a_chances, .inl (k_hire_a_chances, 5, .inr (.inr (.inr (.inr (rows_of 5 R_hire_a_chances))))))] ++ va_pl LP fp) sz)) 0 0 (va_A ([(o, .inr (4, [.ref a_above, .long v_aboveLower, .ref o_table, .ref a_columnSign, .ref a_columnRate, .ref a_columnRoom, .int v_columns, .int v_rooms, .ref o_hire, .int v_work, .int v_keptSign, .int v_joinedSign])), (o_hire, .inr (3, [.int hire_v_signs, .int hire_v_works, .int hire_v_whole, .int hire_v_otherwise, .int hire_v_least, .int hire_v_rates, .ref hire_a_brings, .ref hire_a_costs, .ref hire_a_chances, .ref hire_a_rate, .ref hire_a_mark])), (hire_a_chances, .inl (k_hire_a_chances, 5, .inr (.inr (.inr (.inr (rows_of 5 R_hire_a_chances))))))] ++ va_pl LP fp) sz) := by
  refine Met.ofW (cc := cX4_chanceOf) (maxL := 3) (ret := (some .int)) (by decide) rfl ?_
  intro p e s m args below meth c s₁ B hml hv
  obtain ⟨rfl, hsz, hP, hK, hD0⟩ := hv
  have hx := B.exec
  have hb := B.bytes
  have hr := B.returns
  have hts := atoms_spec (ws := wsX4_chanceOf) B.pre
  have hown : s.vm.findClass RX4 = some m.cls := findClass_of_methodNamed B.named
  have hlocks := B.notSynchronized
  subst hsz
  have hD := hD0.self (sz := s.heap.size)
  generalize hAe : va_A ([(o, .inr (4, [.ref a_above, .long v_aboveLower, .ref o_table, .ref a_columnSign, .ref a_columnRate, .ref a_columnRoom, .int v_columns, .int v_rooms, .ref o_hire, .int v_work, .int v_keptSign, .int v_joinedSign])), (o_hire, .inr (3, [.int hire_v_signs, .int hire_v_works, .int hire_v_whole, .int hire_v_otherwise, .int hire_v_least, .int hire_v_rates, .ref hire_a_brings, .ref hire_a_costs, .ref hire_a_chances, .ref hire_a_rate, .ref hire_a_mark])), (hire_a_chances, .inl (k_hire_a_chances, 5, .inr (.inr (.inr (.inr (rows_of 5 R_hire_a_chances))))))] ++ va_pl LP fp) s.heap.size = A at hD ⊢
  have hA : ∀ q : Nat, s.heap.size ≤ q → A q := fun q h => by rw [← hAe]; exact Or.inr h
  have hS : va_S A s.heap s.heap [] := va_S.rf
  have hP : va_P (dC, dI) vwCl ([(o, .inr (4, [.ref a_above, .long v_aboveLower, .ref o_table, .ref a_columnSign, .ref a_columnRate, .ref a_columnRoom, .int v_columns, .int v_rooms, .ref o_hire, .int v_work, .int v_keptSign, .int v_joinedSign])), (o_hire, .inr (3, [.int hire_v_signs, .int hire_v_works, .int hire_v_whole, .int hire_v_otherwise, .int hire_v_least, .int hire_v_rates, .ref hire_a_brings, .ref hire_a_costs, .ref hire_a_chances, .ref hire_a_rate, .ref hire_a_mark])), (hire_a_chances, .inl (k_hire_a_chances, 5, .inr (.inr (.inr (.inr (rows_of 5 R_hire_a_chances))))))] ++ va_pl LP fp) s.heap := hP
  have hl := lv_entry ([.ref o, .int p0, .int p1]) (n := 3) (Nat.le_of_ble_eq_true rfl)
  rw [lg_entry_eq]
  generalize (lg_sl ([.ref o, .int p0, .int p1]) ++ List.replicate (3 - (lg_sl ([.ref o, .int p0, .int p1])).length) Slot.unset).toArray = ls at hl ⊢
  have hl : lv_has ls 3 [(0, .ref o), (1, .int p0), (2, .int p1)] := hl
  refine lv_iload_n hx hb dX4_chanceOf_0 rfl (lv_at hl 2 rfl) ?_
  refine lv_aload_n hx hb dX4_chanceOf_1 rfl (lv_at hl 0 rfl) ?_
  refine va_get (D := (dC, dI)) (ci := 4) (v := .int v_joinedSign) (C := RX4) (T := TX4) (N := 12) hx hb hts iw_X4_chanceOf_X4 hown hK hP 0 rfl rfl 11 (by decide) (hts _ kk_X4_chanceOf_0) (fun _ h9 => h9) rfl dX4_chanceOf_2 ?_
  have bp1 := hp1.u
  have bv_joinedSign := hv_joinedSign.u
  refine lv_icmp_ne (tgt := 10) hx hb dX4_chanceOf_5 (by decide) (fun c1 => ?_) (fun c1 => ?_)
  · have c19 := i32_ne c1 rfl rfl
    refine lv_iload_n hx hb dX4_chanceOf_10 rfl (lv_at hl 2 rfl) ?_
    refine lv_aload_n hx hb dX4_chanceOf_11 rfl (lv_at hl 0 rfl) ?_
    refine va_get (D := (dC, dI)) (ci := 4) (v := .int v_keptSign) (C := RX4) (T := TX4) (N := 12) hx hb hts iw_X4_chanceOf_X4 hown hK hP 0 rfl rfl 10 (by decide) (hts _ kk_X4_chanceOf_1) (fun _ h9 => h9) rfl dX4_chanceOf_12 ?_
    have bv_keptSign := hv_keptSign.u
    refine lv_icmp_ne (tgt := 47) hx hb dX4_chanceOf_15 (by decide) (fun c2 => ?_) (fun c2 => ?_)
    · have c29 := i32_ne c2 rfl rfl
      refine lv_aload_n hx hb dX4_chanceOf_47 rfl (lv_at hl 0 rfl) ?_
      refine va_get (D := (dC, dI)) (ci := 4) (v := .ref o_hire) (C := RX4) (T := TX4) (N := 12) hx hb hts iw_X4_chanceOf_X4 hown hK hP 0 rfl rfl 8 (by decide) (hts _ kk_X4_chanceOf_2) (fun _ h9 => h9) rfl dX4_chanceOf_48 ?_
      refine va_get (D := (dC, dI)) (ci := 3) (v := .ref hire_a_chances) (C := RX3) (T := TX3) (N := 11) hx hb hts iw_X4_chanceOf_X3 hown hK hP 1 rfl rfl 8 (by decide) (hts _ kk_X4_chanceOf_3) (fun _ h9 => h9) rfl dX4_chanceOf_51 ?_
      refine lv_iload_n hx hb dX4_chanceOf_54 rfl (lv_at hl 1 rfl) ?_
      have bp0 := hp0.u
      have hinrw3 : vp_in p0 5 := (vq_in p0 5 (by omega))
      refine va_aldA hx hb hK hP 2 0 rfl rfl hinrw3 dX4_chanceOf_55 ?_
      refine px_v (row_sel hinrw3) ?_
      obtain ⟨rw3, erw3⟩ : ∃ z : Nat, z = R_hire_a_chances (Int32.toNatClampNeg p0) := ⟨_, rfl⟩
      rw [← erw3]
      have mrw3 : rw3 ∈ LP ∧ sh rw3 = 104 := by rw [erw3]; exact hRR_hire_a_chances _ (vin_lt hinrw3)
      refine lv_iload_n hx hb dX4_chanceOf_56 rfl (lv_at hl 2 rfl) ?_
      obtain ⟨gk4, hgk4, bgk4⟩ := pok_104 (hfp) mrw3
      obtain ⟨kk5, hkk5⟩ := va_pl_get (X := [(o, .inr (4, [.ref a_above, .long v_aboveLower, .ref o_table, .ref a_columnSign, .ref a_columnRate, .ref a_columnRoom, .int v_columns, .int v_rooms, .ref o_hire, .int v_work, .int v_keptSign, .int v_joinedSign])), (o_hire, .inr (3, [.int hire_v_signs, .int hire_v_works, .int hire_v_whole, .int hire_v_otherwise, .int hire_v_least, .int hire_v_rates, .ref hire_a_brings, .ref hire_a_costs, .ref hire_a_chances, .ref hire_a_rate, .ref hire_a_mark])), (hire_a_chances, .inl (k_hire_a_chances, 5, .inr (.inr (.inr (.inr (rows_of 5 R_hire_a_chances))))))]) (f := fp) mrw3.1
      have qkk5 := hkk5
      rw [hgk4] at qkk5
      refine va_iald hx hb hK hP kk5 1 qkk5 rfl (vq_in p1 4 (by omega)) dX4_chanceOf_57 ?_
      refine lv_topi (fun x6 ex6 => ?_)
      have hx6 : iv x6 0 10 := iv.of (bgk4 _) ex6
      have hP9 := hP.part (cx := [(o, .inr (4, [.ref a_above, .long v_aboveLower, .ref o_table, .ref a_columnSign, .ref a_columnRate, .ref a_columnRoom, .int v_columns, .int v_rooms, .ref o_hire, .int v_work, .int v_keptSign, .int v_joinedSign])), (o_hire, .inr (3, [.int hire_v_signs, .int hire_v_works, .int hire_v_whole, .int hire_v_otherwise, .int hire_v_least, .int hire_v_rates, .ref hire_a_brings, .ref hire_a_costs, .ref hire_a_chances, .ref hire_a_rate, .ref hire_a_mark])), (hire_a_chances, .inl (k_hire_a_chances, 5, .inr (.inr (.inr (.inr (rows_of 5 R_hire_a_chances))))))]) [0, 1, 2] rfl
      have hD9 := hD.part (cx := [(o, .inr (4, [.ref a_above, .long v_aboveLower, .ref o_table, .ref a_columnSign, .ref a_columnRate, .ref a_columnRoom, .int v_columns, .int v_rooms, .ref o_hire, .int v_work, .int v_keptSign, .int v_joinedSign])), (o_hire, .inr (3, [.int hire_v_signs, .int hire_v_works, .int hire_v_whole, .int hire_v_otherwise, .int hire_v_least, .int hire_v_rates, .ref hire_a_brings, .ref hire_a_costs, .ref hire_a_chances, .ref hire_a_rate, .ref hire_a_mark])), (hire_a_chances, .inl (k_hire_a_chances, 5, .inr (.inr (.inr (.inr (rows_of 5 R_hire_a_chances))))))]) [0, 1, 2] (by decide) rfl
      exact W.iret (v := x6) hx hb hr (fun t ht hW => ⟨⟨x6, x6, rfl, rfl, (hx6.w (by decide) (by decide)), by rw [ht]; exact hP9, hD9⟩, hS.F ht⟩) hS.2.2 dX4_chanceOf_58
    · have c29 := i32_eq c2 rfl rfl
      refine lv_aload_n hx hb dX4_chanceOf_18 rfl (lv_at hl 0 rfl) ?_
      refine va_get (D := (dC, dI)) (ci := 4) (v := .ref o_hire) (C := RX4) (T := TX4) (N := 12) hx hb hts iw_X4_chanceOf_X4 hown hK hP 0 rfl rfl 8 (by decide) (hts _ kk_X4_chanceOf_2) (fun _ h9 => h9) rfl dX4_chanceOf_19 ?_
      refine va_get (D := (dC, dI)) (ci := 3) (v := .ref hire_a_chances) (C := RX3) (T := TX3) (N := 11) hx hb hts iw_X4_chanceOf_X3 hown hK hP 1 rfl rfl 8 (by decide) (hts _ kk_X4_chanceOf_3) (fun _ h9 => h9) rfl dX4_chanceOf_22 ?_
      refine lv_iload_n hx hb dX4_chanceOf_25 rfl (lv_at hl 1 rfl) ?_
      have bp0 := hp0.u
      have hinrw7 : vp_in p0 5 := (vq_in p0 5 (by omega))
      refine va_aldA hx hb hK hP 2 0 rfl rfl hinrw7 dX4_chanceOf_26 ?_
      refine px_v (row_sel hinrw7) ?_
      obtain ⟨rw7, erw7⟩ : ∃ z : Nat, z = R_hire_a_chances (Int32.toNatClampNeg p0) := ⟨_, rfl⟩
      rw [← erw7]
      have mrw7 : rw7 ∈ LP ∧ sh rw7 = 104 := by rw [erw7]; exact hRR_hire_a_chances _ (vin_lt hinrw7)
      refine lv_iload_n hx hb dX4_chanceOf_27 rfl (lv_at hl 2 rfl) ?_
      obtain ⟨gk8, hgk8, bgk8⟩ := pok_104 (hfp) mrw7
      obtain ⟨kk9, hkk9⟩ := va_pl_get (X := [(o, .inr (4, [.ref a_above, .long v_aboveLower, .ref o_table, .ref a_columnSign, .ref a_columnRate, .ref a_columnRoom, .int v_columns, .int v_rooms, .ref o_hire, .int v_work, .int v_keptSign, .int v_joinedSign])), (o_hire, .inr (3, [.int hire_v_signs, .int hire_v_works, .int hire_v_whole, .int hire_v_otherwise, .int hire_v_least, .int hire_v_rates, .ref hire_a_brings, .ref hire_a_costs, .ref hire_a_chances, .ref hire_a_rate, .ref hire_a_mark])), (hire_a_chances, .inl (k_hire_a_chances, 5, .inr (.inr (.inr (.inr (rows_of 5 R_hire_a_chances))))))]) (f := fp) mrw7.1
      have qkk9 := hkk9
      rw [hgk8] at qkk9
      refine va_iald hx hb hK hP kk9 1 qkk9 rfl (vq_in p1 4 (by omega)) dX4_chanceOf_28 ?_
      refine lv_topi (fun x10 ex10 => ?_)
      have hx10 : iv x10 0 10 := iv.of (bgk8 _) ex10
      refine lv_aload_n hx hb dX4_chanceOf_29 rfl (lv_at hl 0 rfl) ?_
      refine va_get (D := (dC, dI)) (ci := 4) (v := .ref o_hire) (C := RX4) (T := TX4) (N := 12) hx hb hts iw_X4_chanceOf_X4 hown hK hP 0 rfl rfl 8 (by decide) (hts _ kk_X4_chanceOf_2) (fun _ h9 => h9) rfl dX4_chanceOf_30 ?_
      refine va_get (D := (dC, dI)) (ci := 3) (v := .ref hire_a_chances) (C := RX3) (T := TX3) (N := 11) hx hb hts iw_X4_chanceOf_X3 hown hK hP 1 rfl rfl 8 (by decide) (hts _ kk_X4_chanceOf_3) (fun _ h9 => h9) rfl dX4_chanceOf_33 ?_
      refine lv_iload_n hx hb dX4_chanceOf_36 rfl (lv_at hl 1 rfl) ?_
      have hinrw11 : vp_in p0 5 := (vq_in p0 5 (by omega))
      refine va_aldA hx hb hK hP 2 0 rfl rfl hinrw11 dX4_chanceOf_37 ?_
      refine px_v (row_sel hinrw11) ?_
      obtain ⟨rw11, erw11⟩ : ∃ z : Nat, z = R_hire_a_chances (Int32.toNatClampNeg p0) := ⟨_, rfl⟩
      rw [← erw11]
      have mrw11 : rw11 ∈ LP ∧ sh rw11 = 104 := by rw [erw11]; exact hRR_hire_a_chances _ (vin_lt hinrw11)
      refine lv_aload_n hx hb dX4_chanceOf_38 rfl (lv_at hl 0 rfl) ?_
      refine va_get (D := (dC, dI)) (ci := 4) (v := .int v_joinedSign) (C := RX4) (T := TX4) (N := 12) hx hb hts iw_X4_chanceOf_X4 hown hK hP 0 rfl rfl 11 (by decide) (hts _ kk_X4_chanceOf_0) (fun _ h9 => h9) rfl dX4_chanceOf_39 ?_
      obtain ⟨gk12, hgk12, bgk12⟩ := pok_104 (hfp) mrw11
      obtain ⟨kk13, hkk13⟩ := va_pl_get (X := [(o, .inr (4, [.ref a_above, .long v_aboveLower, .ref o_table, .ref a_columnSign, .ref a_columnRate, .ref a_columnRoom, .int v_columns, .int v_rooms, .ref o_hire, .int v_work, .int v_keptSign, .int v_joinedSign])), (o_hire, .inr (3, [.int hire_v_signs, .int hire_v_works, .int hire_v_whole, .int hire_v_otherwise, .int hire_v_least, .int hire_v_rates, .ref hire_a_brings, .ref hire_a_costs, .ref hire_a_chances, .ref hire_a_rate, .ref hire_a_mark])), (hire_a_chances, .inl (k_hire_a_chances, 5, .inr (.inr (.inr (.inr (rows_of 5 R_hire_a_chances))))))]) (f := fp) mrw11.1
      have qkk13 := hkk13
      rw [hgk12] at qkk13
      refine va_iald hx hb hK hP kk13 1 qkk13 rfl (vq_in v_joinedSign 4 (by omega)) dX4_chanceOf_42 ?_
      refine lv_topi (fun x14 ex14 => ?_)
      have hx14 : iv x14 0 10 := iv.of (bgk12 _) ex14
      refine lv_iadd hx hb dX4_chanceOf_43 ?_
      refine lv_topi (fun x15 ex15 => ?_)
      have bx10 := hx10.u
      have bx14 := hx14.u
      have tx15 := i32_add ex15 rfl rfl (by omega) (by omega)
      refine lv_goto (tgt := 58) hx hb dX4_chanceOf_44 (by decide) ?_
      have hP9 := hP.part (cx := [(o, .inr (4, [.ref a_above, .long v_aboveLower, .ref o_table, .ref a_columnSign, .ref a_columnRate, .ref a_columnRoom, .int v_columns, .int v_rooms, .ref o_hire, .int v_work, .int v_keptSign, .int v_joinedSign])), (o_hire, .inr (3, [.int hire_v_signs, .int hire_v_works, .int hire_v_whole, .int hire_v_otherwise, .int hire_v_least, .int hire_v_rates, .ref hire_a_brings, .ref hire_a_costs, .ref hire_a_chances, .ref hire_a_rate, .ref hire_a_mark])), (hire_a_chances, .inl (k_hire_a_chances, 5, .inr (.inr (.inr (.inr (rows_of 5 R_hire_a_chances))))))]) [0, 1, 2] rfl
      have hD9 := hD.part (cx := [(o, .inr (4, [.ref a_above, .long v_aboveLower, .ref o_table, .ref a_columnSign, .ref a_columnRate, .ref a_columnRoom, .int v_columns, .int v_rooms, .ref o_hire, .int v_work, .int v_keptSign, .int v_joinedSign])), (o_hire, .inr (3, [.int hire_v_signs, .int hire_v_works, .int hire_v_whole, .int hire_v_otherwise, .int hire_v_least, .int hire_v_rates, .ref hire_a_brings, .ref hire_a_costs, .ref hire_a_chances, .ref hire_a_rate, .ref hire_a_mark])), (hire_a_chances, .inl (k_hire_a_chances, 5, .inr (.inr (.inr (.inr (rows_of 5 R_hire_a_chances))))))]) [0, 1, 2] (by decide) rfl
      exact W.iret (v := x15) hx hb hr (fun t ht hW => ⟨⟨x15, x15, rfl, rfl, (iv.m (by omega)), by rw [ht]; exact hP9, hD9⟩, hS.F ht⟩) hS.2.2 dX4_chanceOf_58
  · have c19 := i32_eq c1 rfl rfl
    refine lv_iconst (v := 0) hx hb dX4_chanceOf_8 (by decide) ?_
    have hP9 := hP.part (cx := [(o, .inr (4, [.ref a_above, .long v_aboveLower, .ref o_table, .ref a_columnSign, .ref a_columnRate, .ref a_columnRoom, .int v_columns, .int v_rooms, .ref o_hire, .int v_work, .int v_keptSign, .int v_joinedSign])), (o_hire, .inr (3, [.int hire_v_signs, .int hire_v_works, .int hire_v_whole, .int hire_v_otherwise, .int hire_v_least, .int hire_v_rates, .ref hire_a_brings, .ref hire_a_costs, .ref hire_a_chances, .ref hire_a_rate, .ref hire_a_mark])), (hire_a_chances, .inl (k_hire_a_chances, 5, .inr (.inr (.inr (.inr (rows_of 5 R_hire_a_chances))))))]) [0, 1, 2] rfl
    have hD9 := hD.part (cx := [(o, .inr (4, [.ref a_above, .long v_aboveLower, .ref o_table, .ref a_columnSign, .ref a_columnRate, .ref a_columnRoom, .int v_columns, .int v_rooms, .ref o_hire, .int v_work, .int v_keptSign, .int v_joinedSign])), (o_hire, .inr (3, [.int hire_v_signs, .int hire_v_works, .int hire_v_whole, .int hire_v_otherwise, .int hire_v_least, .int hire_v_rates, .ref hire_a_brings, .ref hire_a_costs, .ref hire_a_chances, .ref hire_a_rate, .ref hire_a_mark])), (hire_a_chances, .inl (k_hire_a_chances, 5, .inr (.inr (.inr (.inr (rows_of 5 R_hire_a_chances))))))]) [0, 1, 2] (by decide) rfl
    exact W.iret (v := 0) hx hb hr (fun t ht hW => ⟨⟨0, 0, rfl, rfl, (iv.m (by decide)), by rw [ht]; exact hP9, hD9⟩, hS.F ht⟩) hS.2.2 dX4_chanceOf_9

set_option maxHeartbeats 4000000 in
set_option maxRecDepth 100000 in
theorem ct_X4_listSteps (l : Launch) (dC : Nat → ClassId) (dI : Nat → Nat → Nat) (o : Nat) (p0 : Int32) (a_above : Nat) (v_aboveLower : Int64) (o_table : Nat) (a_columnSign : Nat) (a_columnRate : Nat) (a_columnRoom : Nat) (v_columns : Int32) (v_rooms : Int32) (o_hire : Nat) (v_work : Int32) (v_keptSign : Int32) (v_joinedSign : Int32) (k_a_columnSign : ClassId) (f_a_columnSign : Nat → Int32) (k_a_columnRate : ClassId) (f_a_columnRate : Nat → Int32) (k_a_columnRoom : ClassId) (f_a_columnRoom : Nat → Int32) (hire_v_signs : Int32) (hire_v_works : Int32) (hire_v_whole : Int32) (hire_v_otherwise : Int32) (hire_v_least : Int32) (hire_v_rates : Int32) (hire_a_brings : Nat) (hire_a_costs : Nat) (hire_a_chances : Nat) (hire_a_rate : Nat) (hire_a_mark : Nat) (k_hire_a_rate : ClassId) (f_hire_a_rate : Nat → Int32) (k_hire_a_mark : ClassId) (f_hire_a_mark : Nat → Int32) (hp0 : iv p0 0 3) (hv_columns : iv v_columns 0 12) (hv_rooms : iv v_rooms 0 12) (hf_a_columnSign : ivf f_a_columnSign 0 3) (hhire_v_rates : iv hire_v_rates 1 3) (hrc : v_rooms.toInt ≤ v_columns.toInt) (sz : Nat) : Met l yX4_listSteps wsX4_listSteps ({ frames := 0, cells := 0, slots := 0, locals := 0 }) (va_Pc [.ref o, .int p0] (fun U => U.heap.size = sz ∧ va_P (dC, dI) vwCl [(o, .inr (4, [.ref a_above, .long v_aboveLower, .ref o_table, .ref a_columnSign, .ref a_columnRate, .ref a_columnRoom, .int v_columns, .int v_rooms, .ref o_hire, .int v_work, .int v_keptSign, .int v_joinedSign])), (a_columnSign, .inl (k_a_columnSign, 12, .inl f_a_columnSign)), (a_columnRate, .inl (k_a_columnRate, 12, .inl f_a_columnRate)), (a_columnRoom, .inl (k_a_columnRoom, 12, .inl f_a_columnRoom)), (o_hire, .inr (3, [.int hire_v_signs, .int hire_v_works, .int hire_v_whole, .int hire_v_otherwise, .int hire_v_least, .int hire_v_rates, .ref hire_a_brings, .ref hire_a_costs, .ref hire_a_chances, .ref hire_a_rate, .ref hire_a_mark])), (hire_a_rate, .inl (k_hire_a_rate, 3, .inl f_hire_a_rate)), (hire_a_mark, .inl (k_hire_a_mark, 2, .inl f_hire_a_mark))] U.heap ∧ va_K (dC, dI) vwCl [(k_a_columnSign, .int), (k_a_columnRate, .int), (k_a_columnRoom, .int), (k_hire_a_rate, .int), (k_hire_a_mark, .int)] U ∧ va_D (fun _ => True) [(o, .inr (4, [.ref a_above, .long v_aboveLower, .ref o_table, .ref a_columnSign, .ref a_columnRate, .ref a_columnRoom, .int v_columns, .int v_rooms, .ref o_hire, .int v_work, .int v_keptSign, .int v_joinedSign])), (a_columnSign, .inl (k_a_columnSign, 12, .inl f_a_columnSign)), (a_columnRate, .inl (k_a_columnRate, 12, .inl f_a_columnRate)), (a_columnRoom, .inl (k_a_columnRoom, 12, .inl f_a_columnRoom)), (o_hire, .inr (3, [.int hire_v_signs, .int hire_v_works, .int hire_v_whole, .int hire_v_otherwise, .int hire_v_least, .int hire_v_rates, .ref hire_a_brings, .ref hire_a_costs, .ref hire_a_chances, .ref hire_a_rate, .ref hire_a_mark])), (hire_a_rate, .inl (k_hire_a_rate, 3, .inl f_hire_a_rate)), (hire_a_mark, .inl (k_hire_a_mark, 2, .inl f_hire_a_mark))])) (va_Qv (fun _ : Unit => True) (fun _ t => ∃ (e_v_columns : Int32) (e_v_rooms : Int32) (e_f_a_columnSign : Nat → Int32) (e_f_a_columnRate : Nat → Int32) (e_f_a_columnRoom : Nat → Int32), iv e_v_columns 0 12 ∧ iv e_v_rooms 0 12 ∧ ivf e_f_a_columnSign 0 3 ∧ (e_v_rooms.toInt ≤ e_v_columns.toInt) ∧ va_P (dC, dI) vwCl [(o, .inr (4, [.ref a_above, .long v_aboveLower, .ref o_table, .ref a_columnSign, .ref a_columnRate, .ref a_columnRoom, .int e_v_columns, .int e_v_rooms, .ref o_hire, .int v_work, .int v_keptSign, .int v_joinedSign])), (a_columnSign, .inl (k_a_columnSign, 12, .inl e_f_a_columnSign)), (a_columnRate, .inl (k_a_columnRate, 12, .inl e_f_a_columnRate)), (a_columnRoom, .inl (k_a_columnRoom, 12, .inl e_f_a_columnRoom)), (o_hire, .inr (3, [.int hire_v_signs, .int hire_v_works, .int hire_v_whole, .int hire_v_otherwise, .int hire_v_least, .int hire_v_rates, .ref hire_a_brings, .ref hire_a_costs, .ref hire_a_chances, .ref hire_a_rate, .ref hire_a_mark])), (hire_a_rate, .inl (k_hire_a_rate, 3, .inl f_hire_a_rate)), (hire_a_mark, .inl (k_hire_a_mark, 2, .inl f_hire_a_mark))] t.heap ∧ va_D (va_A [(o, .inr (4, [.ref a_above, .long v_aboveLower, .ref o_table, .ref a_columnSign, .ref a_columnRate, .ref a_columnRoom, .int v_columns, .int v_rooms, .ref o_hire, .int v_work, .int v_keptSign, .int v_joinedSign])), (a_columnSign, .inl (k_a_columnSign, 12, .inl f_a_columnSign)), (a_columnRate, .inl (k_a_columnRate, 12, .inl f_a_columnRate)), (a_columnRoom, .inl (k_a_columnRoom, 12, .inl f_a_columnRoom)), (o_hire, .inr (3, [.int hire_v_signs, .int hire_v_works, .int hire_v_whole, .int hire_v_otherwise, .int hire_v_least, .int hire_v_rates, .ref hire_a_brings, .ref hire_a_costs, .ref hire_a_chances, .ref hire_a_rate, .ref hire_a_mark])), (hire_a_rate, .inl (k_hire_a_rate, 3, .inl f_hire_a_rate)), (hire_a_mark, .inl (k_hire_a_mark, 2, .inl f_hire_a_mark))] sz) [(o, .inr (4, [.ref a_above, .long v_aboveLower, .ref o_table, .ref a_columnSign, .ref a_columnRate, .ref a_columnRoom, .int e_v_columns, .int e_v_rooms, .ref o_hire, .int v_work, .int v_keptSign, .int v_joinedSign])), (a_columnSign, .inl (k_a_columnSign, 12, .inl e_f_a_columnSign)), (a_columnRate, .inl (k_a_columnRate, 12, .inl e_f_a_columnRate)), (a_columnRoom, .inl (k_a_columnRoom, 12, .inl e_f_a_columnRoom)), (o_hire, .inr (3, [.int hire_v_signs, .int hire_v_works, .int hire_v_whole, .int hire_v_otherwise, .int hire_v_least, .int hire_v_rates, .ref hire_a_brings, .ref hire_a_costs, .ref hire_a_chances, .ref hire_a_rate, .ref hire_a_mark])), (hire_a_rate, .inl (k_hire_a_rate, 3, .inl f_hire_a_rate)), (hire_a_mark, .inl (k_hire_a_mark, 2, .inl f_hire_a_mark))]) (va_A [(o, .inr (4, [.ref a_above, .long v_aboveLower, .ref o_table, .ref a_columnSign, .ref a_columnRate, .ref a_columnRoom, .int v_columns, .int v_rooms, .ref o_hire, .int v_work, .int v_keptSign, .int v_joinedSign])), (a_columnSign, .inl (k_a_columnSign, 12, .inl f_a_columnSign)), (a_columnRate, .inl (k_a_columnRate, 12, .inl f_a_columnRate)), (a_columnRoom, .inl (k_a_columnRoom, 12, .inl f_a_columnRoom)), (o_hire, .inr (3, [.int hire_v_signs, .int hire_v_works, .int hire_v_whole, .int hire_v_otherwise, .int hire_v_least, .int hire_v_rates, .ref hire_a_brings, .ref hire_a_costs, .ref hire_a_chances, .ref hire_a_rate, .ref hire_a_mark])), (hire_a_rate, .inl (k_hire_a_rate, 3, .inl f_hire_a_rate)), (hire_a_mark, .inl (k_hire_a_mark, 2, .inl f_hire_a_mark))] sz)) 0 0 (va_A [(o, .inr (4, [.ref a_above, .long v_aboveLower, .ref o_table, .ref a_columnSign, .ref a_columnRate, .ref a_columnRoom, .int v_columns, .int v_rooms, .ref o_hire, .int v_work, .int v_keptSign, .int v_joinedSign])), (a_columnSign, .inl (k_a_columnSign, 12, .inl f_a_columnSign)), (a_columnRate, .inl (k_a_columnRate, 12, .inl f_a_columnRate)), (a_columnRoom, .inl (k_a_columnRoom, 12, .inl f_a_columnRoom)), (o_hire, .inr (3, [.int hire_v_signs, .int hire_v_works, .int hire_v_whole, .int hire_v_otherwise, .int hire_v_least, .int hire_v_rates, .ref hire_a_brings, .ref hire_a_costs, .ref hire_a_chances, .ref hire_a_rate, .ref hire_a_mark])), (hire_a_rate, .inl (k_hire_a_rate, 3, .inl f_hire_a_rate)), (hire_a_mark, .inl (k_hire_a_mark, 2, .inl f_hire_a_mark))] sz) := by
  refine Met.ofW (cc := cX4_listSteps) (maxL := 5) (ret := none) (by decide) rfl ?_
  intro p e s m args below meth c s₁ B hml hv
  obtain ⟨rfl, hsz, hP, hK, hD0⟩ := hv
  have hx := B.exec
  have hb := B.bytes
  have hr := B.returns
  have hts := atoms_spec (ws := wsX4_listSteps) B.pre
  have hown : s.vm.findClass RX4 = some m.cls := findClass_of_methodNamed B.named
  have hlocks := B.notSynchronized
  subst hsz
  have hD := hD0.self (sz := s.heap.size)
  generalize hAe : va_A [(o, .inr (4, [.ref a_above, .long v_aboveLower, .ref o_table, .ref a_columnSign, .ref a_columnRate, .ref a_columnRoom, .int v_columns, .int v_rooms, .ref o_hire, .int v_work, .int v_keptSign, .int v_joinedSign])), (a_columnSign, .inl (k_a_columnSign, 12, .inl f_a_columnSign)), (a_columnRate, .inl (k_a_columnRate, 12, .inl f_a_columnRate)), (a_columnRoom, .inl (k_a_columnRoom, 12, .inl f_a_columnRoom)), (o_hire, .inr (3, [.int hire_v_signs, .int hire_v_works, .int hire_v_whole, .int hire_v_otherwise, .int hire_v_least, .int hire_v_rates, .ref hire_a_brings, .ref hire_a_costs, .ref hire_a_chances, .ref hire_a_rate, .ref hire_a_mark])), (hire_a_rate, .inl (k_hire_a_rate, 3, .inl f_hire_a_rate)), (hire_a_mark, .inl (k_hire_a_mark, 2, .inl f_hire_a_mark))] s.heap.size = A at hD ⊢
  have hA : ∀ q : Nat, s.heap.size ≤ q → A q := fun q h => by rw [← hAe]; exact Or.inr h
  have hS : va_S A s.heap s.heap [] := va_S.rf
  have hP : va_P (dC, dI) vwCl [(o, .inr (4, [.ref a_above, .long v_aboveLower, .ref o_table, .ref a_columnSign, .ref a_columnRate, .ref a_columnRoom, .int v_columns, .int v_rooms, .ref o_hire, .int v_work, .int v_keptSign, .int v_joinedSign])), (a_columnSign, .inl (k_a_columnSign, 12, .inl f_a_columnSign)), (a_columnRate, .inl (k_a_columnRate, 12, .inl f_a_columnRate)), (a_columnRoom, .inl (k_a_columnRoom, 12, .inl f_a_columnRoom)), (o_hire, .inr (3, [.int hire_v_signs, .int hire_v_works, .int hire_v_whole, .int hire_v_otherwise, .int hire_v_least, .int hire_v_rates, .ref hire_a_brings, .ref hire_a_costs, .ref hire_a_chances, .ref hire_a_rate, .ref hire_a_mark])), (hire_a_rate, .inl (k_hire_a_rate, 3, .inl f_hire_a_rate)), (hire_a_mark, .inl (k_hire_a_mark, 2, .inl f_hire_a_mark))] s.heap := hP
  have hl := lv_entry ([.ref o, .int p0]) (n := 5) (Nat.le_of_ble_eq_true rfl)
  rw [lg_entry_eq]
  generalize (lg_sl ([.ref o, .int p0]) ++ List.replicate (5 - (lg_sl ([.ref o, .int p0])).length) Slot.unset).toArray = ls at hl ⊢
  have hl : lv_has ls 5 [(0, .ref o), (1, .int p0)] := hl
  refine lv_aload_n hx hb dX4_listSteps_0 rfl (lv_at hl 0 rfl) ?_
  refine va_get (D := (dC, dI)) (ci := 4) (v := .ref o_hire) (C := RX4) (T := TX4) (N := 12) hx hb hts iw_X4_listSteps_X4 hown hK hP 0 rfl rfl 8 (by decide) (hts _ kk_X4_listSteps_0) (fun _ h9 => h9) rfl dX4_listSteps_1 ?_
  refine va_get (D := (dC, dI)) (ci := 3) (v := .int hire_v_least) (C := RX3) (T := TX3) (N := 11) hx hb hts iw_X4_listSteps_X3 hown hK hP 4 rfl rfl 4 (by decide) (hts _ kk_X4_listSteps_1) (fun _ h9 => h9) rfl dX4_listSteps_4 ?_
  refine lv_istore_n (lv' := [(2, .int hire_v_least), (0, .ref o), (1, .int p0)]) hx hb dX4_listSteps_7 rfl hl (by decide) rfl (fun ls hl => ?_)
  refine lv_iconst (v := 0) hx hb dX4_listSteps_8 (by decide) ?_
  refine lv_istore_n (lv' := [(3, .int 0), (2, .int hire_v_least), (0, .ref o), (1, .int p0)]) hx hb dX4_listSteps_9 rfl hl (by decide) rfl (fun ls hl => ?_)
  refine tl_loop (I := fun nn H locs ls => ∃ (v1 : Int32) (v2 : Int32) (v3 : Int32) (v4 : Int32) (f5 : Nat → Int32) (f6 : Nat → Int32) (f7 : Nat → Int32), nn = (3 - v1.toInt).toNat ∧ iv v1 0 3 ∧ iv v3 0 12 ∧ iv v4 0 12 ∧ ivf f5 0 3 ∧ (v4.toInt ≤ v3.toInt) ∧  va_P (dC, dI) vwCl [(o, .inr (4, [.ref a_above, .long v_aboveLower, .ref o_table, .ref a_columnSign, .ref a_columnRate, .ref a_columnRoom, .int v3, .int v4, .ref o_hire, .int v_work, .int v_keptSign, .int v_joinedSign])), (a_columnSign, .inl (k_a_columnSign, 12, .inl f5)), (a_columnRate, .inl (k_a_columnRate, 12, .inl f6)), (a_columnRoom, .inl (k_a_columnRoom, 12, .inl f7)), (o_hire, .inr (3, [.int hire_v_signs, .int hire_v_works, .int hire_v_whole, .int hire_v_otherwise, .int hire_v_least, .int hire_v_rates, .ref hire_a_brings, .ref hire_a_costs, .ref hire_a_chances, .ref hire_a_rate, .ref hire_a_mark])), (hire_a_rate, .inl (k_hire_a_rate, 3, .inl f_hire_a_rate)), (hire_a_mark, .inl (k_hire_a_mark, 2, .inl f_hire_a_mark))] H ∧ va_D A [(o, .inr (4, [.ref a_above, .long v_aboveLower, .ref o_table, .ref a_columnSign, .ref a_columnRate, .ref a_columnRoom, .int v3, .int v4, .ref o_hire, .int v_work, .int v_keptSign, .int v_joinedSign])), (a_columnSign, .inl (k_a_columnSign, 12, .inl f5)), (a_columnRate, .inl (k_a_columnRate, 12, .inl f6)), (a_columnRoom, .inl (k_a_columnRoom, 12, .inl f7)), (o_hire, .inr (3, [.int hire_v_signs, .int hire_v_works, .int hire_v_whole, .int hire_v_otherwise, .int hire_v_least, .int hire_v_rates, .ref hire_a_brings, .ref hire_a_costs, .ref hire_a_chances, .ref hire_a_rate, .ref hire_a_mark])), (hire_a_rate, .inl (k_hire_a_rate, 3, .inl f_hire_a_rate)), (hire_a_mark, .inl (k_hire_a_mark, 2, .inl f_hire_a_mark))] ∧ va_S A s.heap H locs ∧ lv_has ls 5 [(3, .int v1), (2, .int v2), (0, .ref o), (1, .int p0)]) ?_ ⟨0, hire_v_least, v_columns, v_rooms, f_a_columnSign, f_a_columnRate, f_a_columnRoom, rfl, (iv.m (by decide)), hv_columns, hv_rooms, hf_a_columnSign, (by first | omega | (simp; done) | grind), hP, hD, hS, lv_sub hl [0, 1, 2, 3] rfl⟩
  clear hP hD hS hl
  intro nn10 H locs ls hI ih10
  obtain ⟨v1, v2, v3, v4, f5, f6, f7, hn10, hv1, hv3, hv4, hf5, hi10_0, hP, hD, hS, hl⟩ := hI
  have bv1 := hv1.u
  have bv2 := i32_rng v2
  refine lv_iload_n hx hb dX4_listSteps_10 rfl (lv_at hl 0 rfl) ?_
  refine lv_aload_n hx hb dX4_listSteps_11 rfl (lv_at hl 2 rfl) ?_
  refine va_get (D := (dC, dI)) (ci := 4) (v := .ref o_hire) (C := RX4) (T := TX4) (N := 12) hx hb hts iw_X4_listSteps_X4 hown hK hP 0 rfl rfl 8 (by decide) (hts _ kk_X4_listSteps_0) (fun _ h9 => h9) rfl dX4_listSteps_12 ?_
  refine va_get (D := (dC, dI)) (ci := 3) (v := .int hire_v_rates) (C := RX3) (T := TX3) (N := 11) hx hb hts iw_X4_listSteps_X3 hown hK hP 4 rfl rfl 5 (by decide) (hts _ kk_X4_listSteps_2) (fun _ h9 => h9) rfl dX4_listSteps_15 ?_
  have bhire_v_rates := hhire_v_rates.u
  refine lv_icmp_ge (tgt := 179) hx hb dX4_listSteps_18 (by decide) (fun c8 => ?_) (fun c8 => ?_)
  · have c89 := i32_le c8 rfl rfl
    have hP9 := hP.sub (ws' := [(o, .inr (4, [.ref a_above, .long v_aboveLower, .ref o_table, .ref a_columnSign, .ref a_columnRate, .ref a_columnRoom, .int v3, .int v4, .ref o_hire, .int v_work, .int v_keptSign, .int v_joinedSign])), (a_columnSign, .inl (k_a_columnSign, 12, .inl f5)), (a_columnRate, .inl (k_a_columnRate, 12, .inl f6)), (a_columnRoom, .inl (k_a_columnRoom, 12, .inl f7)), (o_hire, .inr (3, [.int hire_v_signs, .int hire_v_works, .int hire_v_whole, .int hire_v_otherwise, .int hire_v_least, .int hire_v_rates, .ref hire_a_brings, .ref hire_a_costs, .ref hire_a_chances, .ref hire_a_rate, .ref hire_a_mark])), (hire_a_rate, .inl (k_hire_a_rate, 3, .inl f_hire_a_rate)), (hire_a_mark, .inl (k_hire_a_mark, 2, .inl f_hire_a_mark))]) [0, 1, 2, 3, 4, 5, 6] rfl
    have hD9 := hD.sub (ws' := [(o, .inr (4, [.ref a_above, .long v_aboveLower, .ref o_table, .ref a_columnSign, .ref a_columnRate, .ref a_columnRoom, .int v3, .int v4, .ref o_hire, .int v_work, .int v_keptSign, .int v_joinedSign])), (a_columnSign, .inl (k_a_columnSign, 12, .inl f5)), (a_columnRate, .inl (k_a_columnRate, 12, .inl f6)), (a_columnRoom, .inl (k_a_columnRoom, 12, .inl f7)), (o_hire, .inr (3, [.int hire_v_signs, .int hire_v_works, .int hire_v_whole, .int hire_v_otherwise, .int hire_v_least, .int hire_v_rates, .ref hire_a_brings, .ref hire_a_costs, .ref hire_a_chances, .ref hire_a_rate, .ref hire_a_mark])), (hire_a_rate, .inl (k_hire_a_rate, 3, .inl f_hire_a_rate)), (hire_a_mark, .inl (k_hire_a_mark, 2, .inl f_hire_a_mark))]) [0, 1, 2, 3, 4, 5, 6] (by decide) rfl
    have bv_rooms := hv_rooms.u
    have bv_columns := hv_columns.u
    exact W.vret hx hb hr (fun t ht hW => ⟨⟨(), rfl, trivial, v3, v4, f5, f6, f7, hv3, hv4, hf5, (by omega), by rw [ht]; exact hP9, hD9⟩, hS.F ht⟩) hS.2.2 dX4_listSteps_179
  · have c89 := i32_nle c8 rfl rfl
    refine lv_aload_n hx hb dX4_listSteps_21 rfl (lv_at hl 2 rfl) ?_
    refine va_get (D := (dC, dI)) (ci := 4) (v := .int v3) (C := RX4) (T := TX4) (N := 12) hx hb hts iw_X4_listSteps_X4 hown hK hP 0 rfl rfl 6 (by decide) (hts _ kk_X4_listSteps_3) (fun _ h9 => h9) rfl dX4_listSteps_22 ?_
    refine lv_bipush (v := 12) hx hb dX4_listSteps_25 (by decide) ?_
    have bv3 := hv3.u
    refine lv_icmp_ge (tgt := 179) hx hb dX4_listSteps_27 (by decide) (fun c9 => ?_) (fun c9 => ?_)
    · have c99 := i32_le c9 (show (12 : Int32).toInt = 12 by decide) rfl
      have hP9 := hP.sub (ws' := [(o, .inr (4, [.ref a_above, .long v_aboveLower, .ref o_table, .ref a_columnSign, .ref a_columnRate, .ref a_columnRoom, .int v3, .int v4, .ref o_hire, .int v_work, .int v_keptSign, .int v_joinedSign])), (a_columnSign, .inl (k_a_columnSign, 12, .inl f5)), (a_columnRate, .inl (k_a_columnRate, 12, .inl f6)), (a_columnRoom, .inl (k_a_columnRoom, 12, .inl f7)), (o_hire, .inr (3, [.int hire_v_signs, .int hire_v_works, .int hire_v_whole, .int hire_v_otherwise, .int hire_v_least, .int hire_v_rates, .ref hire_a_brings, .ref hire_a_costs, .ref hire_a_chances, .ref hire_a_rate, .ref hire_a_mark])), (hire_a_rate, .inl (k_hire_a_rate, 3, .inl f_hire_a_rate)), (hire_a_mark, .inl (k_hire_a_mark, 2, .inl f_hire_a_mark))]) [0, 1, 2, 3, 4, 5, 6] rfl
      have hD9 := hD.sub (ws' := [(o, .inr (4, [.ref a_above, .long v_aboveLower, .ref o_table, .ref a_columnSign, .ref a_columnRate, .ref a_columnRoom, .int v3, .int v4, .ref o_hire, .int v_work, .int v_keptSign, .int v_joinedSign])), (a_columnSign, .inl (k_a_columnSign, 12, .inl f5)), (a_columnRate, .inl (k_a_columnRate, 12, .inl f6)), (a_columnRoom, .inl (k_a_columnRoom, 12, .inl f7)), (o_hire, .inr (3, [.int hire_v_signs, .int hire_v_works, .int hire_v_whole, .int hire_v_otherwise, .int hire_v_least, .int hire_v_rates, .ref hire_a_brings, .ref hire_a_costs, .ref hire_a_chances, .ref hire_a_rate, .ref hire_a_mark])), (hire_a_rate, .inl (k_hire_a_rate, 3, .inl f_hire_a_rate)), (hire_a_mark, .inl (k_hire_a_mark, 2, .inl f_hire_a_mark))]) [0, 1, 2, 3, 4, 5, 6] (by decide) rfl
      have bv_rooms := hv_rooms.u
      have bv_columns := hv_columns.u
      exact W.vret hx hb hr (fun t ht hW => ⟨⟨(), rfl, trivial, v3, v4, f5, f6, f7, (iv.m (by omega)), hv4, hf5, (by omega), by rw [ht]; exact hP9, hD9⟩, hS.F ht⟩) hS.2.2 dX4_listSteps_179
    · have c99 := i32_nle c9 (show (12 : Int32).toInt = 12 by decide) rfl
      refine lv_iload_n hx hb dX4_listSteps_30 rfl (lv_at hl 0 rfl) ?_
      refine lv_aload_n hx hb dX4_listSteps_31 rfl (lv_at hl 2 rfl) ?_
      refine va_get (D := (dC, dI)) (ci := 4) (v := .ref o_hire) (C := RX4) (T := TX4) (N := 12) hx hb hts iw_X4_listSteps_X4 hown hK hP 0 rfl rfl 8 (by decide) (hts _ kk_X4_listSteps_0) (fun _ h9 => h9) rfl dX4_listSteps_32 ?_
      refine va_get (D := (dC, dI)) (ci := 3) (v := .int hire_v_rates) (C := RX3) (T := TX3) (N := 11) hx hb hts iw_X4_listSteps_X3 hown hK hP 4 rfl rfl 5 (by decide) (hts _ kk_X4_listSteps_2) (fun _ h9 => h9) rfl dX4_listSteps_35 ?_
      refine lv_iconst (v := 1) hx hb dX4_listSteps_38 (by decide) ?_
      refine lv_isub hx hb dX4_listSteps_39 ?_
      refine lv_topi (fun x10 ex10 => ?_)
      have tx10 := i32_sub ex10 rfl (show (1 : Int32).toInt = 1 by decide) (by omega) (by omega)
      refine lv_icmp_ne (tgt := 47) hx hb dX4_listSteps_40 (by decide) (fun c11 => ?_) (fun c11 => ?_)
      · have c119 := i32_ne c11 rfl rfl
        refine lv_iconst (v := 0) hx hb dX4_listSteps_47 (by decide) ?_
        refine lv_istore (lv' := [(4, .int 0), (3, .int v1), (2, .int v2), (0, .ref o), (1, .int p0)]) hx hb dX4_listSteps_48 hl (by decide) rfl (fun ls hl => ?_)
        refine lv_iload hx hb dX4_listSteps_50 (lv_at hl 0 rfl) ?_
        refine lv_if_ne (tgt := 71) hx hb dX4_listSteps_52 (by decide) (fun cz => absurd cz (by decide)) (fun _ => ?_)
        refine lv_aload_n hx hb dX4_listSteps_55 rfl (lv_at hl 3 rfl) ?_
        refine va_get (D := (dC, dI)) (ci := 4) (v := .ref o_hire) (C := RX4) (T := TX4) (N := 12) hx hb hts iw_X4_listSteps_X4 hown hK hP 0 rfl rfl 8 (by decide) (hts _ kk_X4_listSteps_0) (fun _ h9 => h9) rfl dX4_listSteps_56 ?_
        refine va_get (D := (dC, dI)) (ci := 3) (v := .ref hire_a_mark) (C := RX3) (T := TX3) (N := 11) hx hb hts iw_X4_listSteps_X3 hown hK hP 4 rfl rfl 10 (by decide) (hts _ kk_X4_listSteps_4) (fun _ h9 => h9) rfl dX4_listSteps_59 ?_
        refine lv_iload_n hx hb dX4_listSteps_62 rfl (lv_at hl 1 rfl) ?_
        refine va_iald hx hb hK hP 6 4 rfl rfl (vq_in v1 2 (by omega)) dX4_listSteps_63 ?_
        refine lv_topi (fun x12 ex12 => ?_)
        refine lv_iload_n hx hb dX4_listSteps_64 rfl (lv_at hl 2 rfl) ?_
        have bx12 := i32_rng x12
        refine lv_icmp_gt (tgt := 71) hx hb dX4_listSteps_65 (by decide) (fun c13 => ?_) (fun c13 => ?_)
        · have c139 := i32_lt c13 rfl rfl
          refine lv_aload_n hx hb dX4_listSteps_71 rfl (lv_at hl 3 rfl) ?_
          refine va_get (D := (dC, dI)) (ci := 4) (v := .ref a_columnSign) (C := RX4) (T := TX4) (N := 12) hx hb hts iw_X4_listSteps_X4 hown hK hP 0 rfl rfl 3 (by decide) (hts _ kk_X4_listSteps_5) (fun _ h9 => h9) rfl dX4_listSteps_72 ?_
          refine lv_aload_n hx hb dX4_listSteps_75 rfl (lv_at hl 3 rfl) ?_
          refine va_get (D := (dC, dI)) (ci := 4) (v := .int v3) (C := RX4) (T := TX4) (N := 12) hx hb hts iw_X4_listSteps_X4 hown hK hP 0 rfl rfl 6 (by decide) (hts _ kk_X4_listSteps_3) (fun _ h9 => h9) rfl dX4_listSteps_76 ?_
          refine lv_iload_n hx hb dX4_listSteps_79 rfl (lv_at hl 4 rfl) ?_
          refine va_iast hx hb hK hP hD hS 1 0 rfl rfl (vq_in v3 12 (by omega)) dX4_listSteps_80 (fun H locs hP hD hS => ?_)
          have hP : va_P (dC, dI) vwCl [(o, .inr (4, [.ref a_above, .long v_aboveLower, .ref o_table, .ref a_columnSign, .ref a_columnRate, .ref a_columnRoom, .int v3, .int v4, .ref o_hire, .int v_work, .int v_keptSign, .int v_joinedSign])), (a_columnSign, .inl (k_a_columnSign, 12, .inl (upd f5 (Int32.toNatClampNeg v3) p0))), (a_columnRate, .inl (k_a_columnRate, 12, .inl f6)), (a_columnRoom, .inl (k_a_columnRoom, 12, .inl f7)), (o_hire, .inr (3, [.int hire_v_signs, .int hire_v_works, .int hire_v_whole, .int hire_v_otherwise, .int hire_v_least, .int hire_v_rates, .ref hire_a_brings, .ref hire_a_costs, .ref hire_a_chances, .ref hire_a_rate, .ref hire_a_mark])), (hire_a_rate, .inl (k_hire_a_rate, 3, .inl f_hire_a_rate)), (hire_a_mark, .inl (k_hire_a_mark, 2, .inl f_hire_a_mark))] H := hP
          have hD : va_D A [(o, .inr (4, [.ref a_above, .long v_aboveLower, .ref o_table, .ref a_columnSign, .ref a_columnRate, .ref a_columnRoom, .int v3, .int v4, .ref o_hire, .int v_work, .int v_keptSign, .int v_joinedSign])), (a_columnSign, .inl (k_a_columnSign, 12, .inl (upd f5 (Int32.toNatClampNeg v3) p0))), (a_columnRate, .inl (k_a_columnRate, 12, .inl f6)), (a_columnRoom, .inl (k_a_columnRoom, 12, .inl f7)), (o_hire, .inr (3, [.int hire_v_signs, .int hire_v_works, .int hire_v_whole, .int hire_v_otherwise, .int hire_v_least, .int hire_v_rates, .ref hire_a_brings, .ref hire_a_costs, .ref hire_a_chances, .ref hire_a_rate, .ref hire_a_mark])), (hire_a_rate, .inl (k_hire_a_rate, 3, .inl f_hire_a_rate)), (hire_a_mark, .inl (k_hire_a_mark, 2, .inl f_hire_a_mark))] := hD
          have hf14 : ivf (upd f5 (Int32.toNatClampNeg v3) p0) 0 3 := ivf.up hf5 hp0 _
          have wf14 : (upd f5 (Int32.toNatClampNeg v3) p0) (Int32.toNatClampNeg v3) = p0 := pk_us
          generalize upd f5 (Int32.toNatClampNeg v3) p0 = f14 at hP hD hf14 wf14
          have hP : va_P (dC, dI) vwCl [(o, .inr (4, [.ref a_above, .long v_aboveLower, .ref o_table, .ref a_columnSign, .ref a_columnRate, .ref a_columnRoom, .int v3, .int v4, .ref o_hire, .int v_work, .int v_keptSign, .int v_joinedSign])), (a_columnSign, .inl (k_a_columnSign, 12, .inl f14)), (a_columnRate, .inl (k_a_columnRate, 12, .inl f6)), (a_columnRoom, .inl (k_a_columnRoom, 12, .inl f7)), (o_hire, .inr (3, [.int hire_v_signs, .int hire_v_works, .int hire_v_whole, .int hire_v_otherwise, .int hire_v_least, .int hire_v_rates, .ref hire_a_brings, .ref hire_a_costs, .ref hire_a_chances, .ref hire_a_rate, .ref hire_a_mark])), (hire_a_rate, .inl (k_hire_a_rate, 3, .inl f_hire_a_rate)), (hire_a_mark, .inl (k_hire_a_mark, 2, .inl f_hire_a_mark))] H := hP
          have hD : va_D A [(o, .inr (4, [.ref a_above, .long v_aboveLower, .ref o_table, .ref a_columnSign, .ref a_columnRate, .ref a_columnRoom, .int v3, .int v4, .ref o_hire, .int v_work, .int v_keptSign, .int v_joinedSign])), (a_columnSign, .inl (k_a_columnSign, 12, .inl f14)), (a_columnRate, .inl (k_a_columnRate, 12, .inl f6)), (a_columnRoom, .inl (k_a_columnRoom, 12, .inl f7)), (o_hire, .inr (3, [.int hire_v_signs, .int hire_v_works, .int hire_v_whole, .int hire_v_otherwise, .int hire_v_least, .int hire_v_rates, .ref hire_a_brings, .ref hire_a_costs, .ref hire_a_chances, .ref hire_a_rate, .ref hire_a_mark])), (hire_a_rate, .inl (k_hire_a_rate, 3, .inl f_hire_a_rate)), (hire_a_mark, .inl (k_hire_a_mark, 2, .inl f_hire_a_mark))] := hD
          refine lv_aload_n hx hb dX4_listSteps_81 rfl (lv_at hl 3 rfl) ?_
          refine va_get (D := (dC, dI)) (ci := 4) (v := .ref a_columnRate) (C := RX4) (T := TX4) (N := 12) hx hb hts iw_X4_listSteps_X4 hown hK hP 0 rfl rfl 4 (by decide) (hts _ kk_X4_listSteps_6) (fun _ h9 => h9) rfl dX4_listSteps_82 ?_
          refine lv_aload_n hx hb dX4_listSteps_85 rfl (lv_at hl 3 rfl) ?_
          refine va_get (D := (dC, dI)) (ci := 4) (v := .int v3) (C := RX4) (T := TX4) (N := 12) hx hb hts iw_X4_listSteps_X4 hown hK hP 0 rfl rfl 6 (by decide) (hts _ kk_X4_listSteps_3) (fun _ h9 => h9) rfl dX4_listSteps_86 ?_
          refine lv_aload_n hx hb dX4_listSteps_89 rfl (lv_at hl 3 rfl) ?_
          refine va_get (D := (dC, dI)) (ci := 4) (v := .ref o_hire) (C := RX4) (T := TX4) (N := 12) hx hb hts iw_X4_listSteps_X4 hown hK hP 0 rfl rfl 8 (by decide) (hts _ kk_X4_listSteps_0) (fun _ h9 => h9) rfl dX4_listSteps_90 ?_
          refine va_get (D := (dC, dI)) (ci := 3) (v := .ref hire_a_rate) (C := RX3) (T := TX3) (N := 11) hx hb hts iw_X4_listSteps_X3 hown hK hP 4 rfl rfl 9 (by decide) (hts _ kk_X4_listSteps_7) (fun _ h9 => h9) rfl dX4_listSteps_93 ?_
          refine lv_iload_n hx hb dX4_listSteps_96 rfl (lv_at hl 1 rfl) ?_
          refine va_iald hx hb hK hP 5 3 rfl rfl (vq_in v1 3 (by omega)) dX4_listSteps_97 ?_
          refine lv_topi (fun x15 ex15 => ?_)
          refine va_iast hx hb hK hP hD hS 2 1 rfl rfl (vq_in v3 12 (by omega)) dX4_listSteps_98 (fun H locs hP hD hS => ?_)
          have hP : va_P (dC, dI) vwCl [(o, .inr (4, [.ref a_above, .long v_aboveLower, .ref o_table, .ref a_columnSign, .ref a_columnRate, .ref a_columnRoom, .int v3, .int v4, .ref o_hire, .int v_work, .int v_keptSign, .int v_joinedSign])), (a_columnSign, .inl (k_a_columnSign, 12, .inl f14)), (a_columnRate, .inl (k_a_columnRate, 12, .inl (upd f6 (Int32.toNatClampNeg v3) x15))), (a_columnRoom, .inl (k_a_columnRoom, 12, .inl f7)), (o_hire, .inr (3, [.int hire_v_signs, .int hire_v_works, .int hire_v_whole, .int hire_v_otherwise, .int hire_v_least, .int hire_v_rates, .ref hire_a_brings, .ref hire_a_costs, .ref hire_a_chances, .ref hire_a_rate, .ref hire_a_mark])), (hire_a_rate, .inl (k_hire_a_rate, 3, .inl f_hire_a_rate)), (hire_a_mark, .inl (k_hire_a_mark, 2, .inl f_hire_a_mark))] H := hP
          have hD : va_D A [(o, .inr (4, [.ref a_above, .long v_aboveLower, .ref o_table, .ref a_columnSign, .ref a_columnRate, .ref a_columnRoom, .int v3, .int v4, .ref o_hire, .int v_work, .int v_keptSign, .int v_joinedSign])), (a_columnSign, .inl (k_a_columnSign, 12, .inl f14)), (a_columnRate, .inl (k_a_columnRate, 12, .inl (upd f6 (Int32.toNatClampNeg v3) x15))), (a_columnRoom, .inl (k_a_columnRoom, 12, .inl f7)), (o_hire, .inr (3, [.int hire_v_signs, .int hire_v_works, .int hire_v_whole, .int hire_v_otherwise, .int hire_v_least, .int hire_v_rates, .ref hire_a_brings, .ref hire_a_costs, .ref hire_a_chances, .ref hire_a_rate, .ref hire_a_mark])), (hire_a_rate, .inl (k_hire_a_rate, 3, .inl f_hire_a_rate)), (hire_a_mark, .inl (k_hire_a_mark, 2, .inl f_hire_a_mark))] := hD
          have wf16 : (upd f6 (Int32.toNatClampNeg v3) x15) (Int32.toNatClampNeg v3) = x15 := pk_us
          generalize upd f6 (Int32.toNatClampNeg v3) x15 = f16 at hP hD wf16
          have hP : va_P (dC, dI) vwCl [(o, .inr (4, [.ref a_above, .long v_aboveLower, .ref o_table, .ref a_columnSign, .ref a_columnRate, .ref a_columnRoom, .int v3, .int v4, .ref o_hire, .int v_work, .int v_keptSign, .int v_joinedSign])), (a_columnSign, .inl (k_a_columnSign, 12, .inl f14)), (a_columnRate, .inl (k_a_columnRate, 12, .inl f16)), (a_columnRoom, .inl (k_a_columnRoom, 12, .inl f7)), (o_hire, .inr (3, [.int hire_v_signs, .int hire_v_works, .int hire_v_whole, .int hire_v_otherwise, .int hire_v_least, .int hire_v_rates, .ref hire_a_brings, .ref hire_a_costs, .ref hire_a_chances, .ref hire_a_rate, .ref hire_a_mark])), (hire_a_rate, .inl (k_hire_a_rate, 3, .inl f_hire_a_rate)), (hire_a_mark, .inl (k_hire_a_mark, 2, .inl f_hire_a_mark))] H := hP
          have hD : va_D A [(o, .inr (4, [.ref a_above, .long v_aboveLower, .ref o_table, .ref a_columnSign, .ref a_columnRate, .ref a_columnRoom, .int v3, .int v4, .ref o_hire, .int v_work, .int v_keptSign, .int v_joinedSign])), (a_columnSign, .inl (k_a_columnSign, 12, .inl f14)), (a_columnRate, .inl (k_a_columnRate, 12, .inl f16)), (a_columnRoom, .inl (k_a_columnRoom, 12, .inl f7)), (o_hire, .inr (3, [.int hire_v_signs, .int hire_v_works, .int hire_v_whole, .int hire_v_otherwise, .int hire_v_least, .int hire_v_rates, .ref hire_a_brings, .ref hire_a_costs, .ref hire_a_chances, .ref hire_a_rate, .ref hire_a_mark])), (hire_a_rate, .inl (k_hire_a_rate, 3, .inl f_hire_a_rate)), (hire_a_mark, .inl (k_hire_a_mark, 2, .inl f_hire_a_mark))] := hD
          refine lv_aload_n hx hb dX4_listSteps_99 rfl (lv_at hl 3 rfl) ?_
          refine va_get (D := (dC, dI)) (ci := 4) (v := .ref a_columnRoom) (C := RX4) (T := TX4) (N := 12) hx hb hts iw_X4_listSteps_X4 hown hK hP 0 rfl rfl 5 (by decide) (hts _ kk_X4_listSteps_8) (fun _ h9 => h9) rfl dX4_listSteps_100 ?_
          refine lv_aload_n hx hb dX4_listSteps_103 rfl (lv_at hl 3 rfl) ?_
          refine va_get (D := (dC, dI)) (ci := 4) (v := .int v3) (C := RX4) (T := TX4) (N := 12) hx hb hts iw_X4_listSteps_X4 hown hK hP 0 rfl rfl 6 (by decide) (hts _ kk_X4_listSteps_3) (fun _ h9 => h9) rfl dX4_listSteps_104 ?_
          refine lv_iload hx hb dX4_listSteps_107 (lv_at hl 0 rfl) ?_
          refine lv_if_eq (tgt := 116) hx hb dX4_listSteps_109 (by decide) (fun _ => ?_) (fun cz => absurd cz (by decide))
          refine lv_aload_n hx hb dX4_listSteps_116 rfl (lv_at hl 3 rfl) ?_
          refine va_get (D := (dC, dI)) (ci := 4) (v := .ref o_hire) (C := RX4) (T := TX4) (N := 12) hx hb hts iw_X4_listSteps_X4 hown hK hP 0 rfl rfl 8 (by decide) (hts _ kk_X4_listSteps_0) (fun _ h9 => h9) rfl dX4_listSteps_117 ?_
          refine va_get (D := (dC, dI)) (ci := 3) (v := .ref hire_a_mark) (C := RX3) (T := TX3) (N := 11) hx hb hts iw_X4_listSteps_X3 hown hK hP 4 rfl rfl 10 (by decide) (hts _ kk_X4_listSteps_4) (fun _ h9 => h9) rfl dX4_listSteps_120 ?_
          refine lv_iload_n hx hb dX4_listSteps_123 rfl (lv_at hl 1 rfl) ?_
          refine va_iald hx hb hK hP 6 4 rfl rfl (vq_in v1 2 (by omega)) dX4_listSteps_124 ?_
          refine lv_topi (fun x17 ex17 => ?_)
          refine lv_iload_n hx hb dX4_listSteps_125 rfl (lv_at hl 2 rfl) ?_
          refine lv_isub hx hb dX4_listSteps_126 ?_
          refine lv_topi (fun x18 ex18 => ?_)
          refine lv_aload_n hx hb dX4_listSteps_127 rfl (lv_at hl 3 rfl) ?_
          refine va_get (D := (dC, dI)) (ci := 4) (v := .ref o_hire) (C := RX4) (T := TX4) (N := 12) hx hb hts iw_X4_listSteps_X4 hown hK hP 0 rfl rfl 8 (by decide) (hts _ kk_X4_listSteps_0) (fun _ h9 => h9) rfl dX4_listSteps_128 ?_
          refine va_get (D := (dC, dI)) (ci := 3) (v := .ref hire_a_rate) (C := RX3) (T := TX3) (N := 11) hx hb hts iw_X4_listSteps_X3 hown hK hP 4 rfl rfl 9 (by decide) (hts _ kk_X4_listSteps_7) (fun _ h9 => h9) rfl dX4_listSteps_131 ?_
          refine lv_iload_n hx hb dX4_listSteps_134 rfl (lv_at hl 1 rfl) ?_
          refine va_iald hx hb hK hP 5 3 rfl rfl (vq_in v1 3 (by omega)) dX4_listSteps_135 ?_
          refine lv_topi (fun x19 ex19 => ?_)
          refine lv_imul hx hb dX4_listSteps_136 ?_
          refine lv_topi (fun x20 ex20 => ?_)
          refine va_iast hx hb hK hP hD hS 3 2 rfl rfl (vq_in v3 12 (by omega)) dX4_listSteps_137 (fun H locs hP hD hS => ?_)
          have hP : va_P (dC, dI) vwCl [(o, .inr (4, [.ref a_above, .long v_aboveLower, .ref o_table, .ref a_columnSign, .ref a_columnRate, .ref a_columnRoom, .int v3, .int v4, .ref o_hire, .int v_work, .int v_keptSign, .int v_joinedSign])), (a_columnSign, .inl (k_a_columnSign, 12, .inl f14)), (a_columnRate, .inl (k_a_columnRate, 12, .inl f16)), (a_columnRoom, .inl (k_a_columnRoom, 12, .inl (upd f7 (Int32.toNatClampNeg v3) x20))), (o_hire, .inr (3, [.int hire_v_signs, .int hire_v_works, .int hire_v_whole, .int hire_v_otherwise, .int hire_v_least, .int hire_v_rates, .ref hire_a_brings, .ref hire_a_costs, .ref hire_a_chances, .ref hire_a_rate, .ref hire_a_mark])), (hire_a_rate, .inl (k_hire_a_rate, 3, .inl f_hire_a_rate)), (hire_a_mark, .inl (k_hire_a_mark, 2, .inl f_hire_a_mark))] H := hP
          have hD : va_D A [(o, .inr (4, [.ref a_above, .long v_aboveLower, .ref o_table, .ref a_columnSign, .ref a_columnRate, .ref a_columnRoom, .int v3, .int v4, .ref o_hire, .int v_work, .int v_keptSign, .int v_joinedSign])), (a_columnSign, .inl (k_a_columnSign, 12, .inl f14)), (a_columnRate, .inl (k_a_columnRate, 12, .inl f16)), (a_columnRoom, .inl (k_a_columnRoom, 12, .inl (upd f7 (Int32.toNatClampNeg v3) x20))), (o_hire, .inr (3, [.int hire_v_signs, .int hire_v_works, .int hire_v_whole, .int hire_v_otherwise, .int hire_v_least, .int hire_v_rates, .ref hire_a_brings, .ref hire_a_costs, .ref hire_a_chances, .ref hire_a_rate, .ref hire_a_mark])), (hire_a_rate, .inl (k_hire_a_rate, 3, .inl f_hire_a_rate)), (hire_a_mark, .inl (k_hire_a_mark, 2, .inl f_hire_a_mark))] := hD
          have wf21 : (upd f7 (Int32.toNatClampNeg v3) x20) (Int32.toNatClampNeg v3) = x20 := pk_us
          generalize upd f7 (Int32.toNatClampNeg v3) x20 = f21 at hP hD wf21
          have hP : va_P (dC, dI) vwCl [(o, .inr (4, [.ref a_above, .long v_aboveLower, .ref o_table, .ref a_columnSign, .ref a_columnRate, .ref a_columnRoom, .int v3, .int v4, .ref o_hire, .int v_work, .int v_keptSign, .int v_joinedSign])), (a_columnSign, .inl (k_a_columnSign, 12, .inl f14)), (a_columnRate, .inl (k_a_columnRate, 12, .inl f16)), (a_columnRoom, .inl (k_a_columnRoom, 12, .inl f21)), (o_hire, .inr (3, [.int hire_v_signs, .int hire_v_works, .int hire_v_whole, .int hire_v_otherwise, .int hire_v_least, .int hire_v_rates, .ref hire_a_brings, .ref hire_a_costs, .ref hire_a_chances, .ref hire_a_rate, .ref hire_a_mark])), (hire_a_rate, .inl (k_hire_a_rate, 3, .inl f_hire_a_rate)), (hire_a_mark, .inl (k_hire_a_mark, 2, .inl f_hire_a_mark))] H := hP
          have hD : va_D A [(o, .inr (4, [.ref a_above, .long v_aboveLower, .ref o_table, .ref a_columnSign, .ref a_columnRate, .ref a_columnRoom, .int v3, .int v4, .ref o_hire, .int v_work, .int v_keptSign, .int v_joinedSign])), (a_columnSign, .inl (k_a_columnSign, 12, .inl f14)), (a_columnRate, .inl (k_a_columnRate, 12, .inl f16)), (a_columnRoom, .inl (k_a_columnRoom, 12, .inl f21)), (o_hire, .inr (3, [.int hire_v_signs, .int hire_v_works, .int hire_v_whole, .int hire_v_otherwise, .int hire_v_least, .int hire_v_rates, .ref hire_a_brings, .ref hire_a_costs, .ref hire_a_chances, .ref hire_a_rate, .ref hire_a_mark])), (hire_a_rate, .inl (k_hire_a_rate, 3, .inl f_hire_a_rate)), (hire_a_mark, .inl (k_hire_a_mark, 2, .inl f_hire_a_mark))] := hD
          refine lv_aload_n hx hb dX4_listSteps_138 rfl (lv_at hl 3 rfl) ?_
          refine lv_dup hx hb dX4_listSteps_139 rfl ?_
          refine va_get (D := (dC, dI)) (ci := 4) (v := .int v3) (C := RX4) (T := TX4) (N := 12) hx hb hts iw_X4_listSteps_X4 hown hK hP 0 rfl rfl 6 (by decide) (hts _ kk_X4_listSteps_3) (fun _ h9 => h9) rfl dX4_listSteps_140 ?_
          refine lv_iconst (v := 1) hx hb dX4_listSteps_143 (by decide) ?_
          refine lv_iadd hx hb dX4_listSteps_144 ?_
          refine lv_topi (fun x22 ex22 => ?_)
          have tx22 := i32_add ex22 rfl (show (1 : Int32).toInt = 1 by decide) (by omega) (by omega)
          refine va_put (D := (dC, dI)) (ci := 4) (v := .int x22) (ty := .int) (C := RX4) (T := TX4) (N := 12) hx hb hts iw_X4_listSteps_X4 tyX4 tyX4_ok nmX4 hown hK hP hD hS 0 rfl rfl 6 (by decide) (hts _ kk_X4_listSteps_3) (fun _ h9 => h9) rfl (by decide +kernel) rfl rfl (Nat.le_of_ble_eq_true rfl) dX4_listSteps_145 (fun H locs hP hD hS => ?_)
          have hP : va_P (dC, dI) vwCl [(o, .inr (4, [.ref a_above, .long v_aboveLower, .ref o_table, .ref a_columnSign, .ref a_columnRate, .ref a_columnRoom, .int x22, .int v4, .ref o_hire, .int v_work, .int v_keptSign, .int v_joinedSign])), (a_columnSign, .inl (k_a_columnSign, 12, .inl f14)), (a_columnRate, .inl (k_a_columnRate, 12, .inl f16)), (a_columnRoom, .inl (k_a_columnRoom, 12, .inl f21)), (o_hire, .inr (3, [.int hire_v_signs, .int hire_v_works, .int hire_v_whole, .int hire_v_otherwise, .int hire_v_least, .int hire_v_rates, .ref hire_a_brings, .ref hire_a_costs, .ref hire_a_chances, .ref hire_a_rate, .ref hire_a_mark])), (hire_a_rate, .inl (k_hire_a_rate, 3, .inl f_hire_a_rate)), (hire_a_mark, .inl (k_hire_a_mark, 2, .inl f_hire_a_mark))] H := hP
          have hD : va_D A [(o, .inr (4, [.ref a_above, .long v_aboveLower, .ref o_table, .ref a_columnSign, .ref a_columnRate, .ref a_columnRoom, .int x22, .int v4, .ref o_hire, .int v_work, .int v_keptSign, .int v_joinedSign])), (a_columnSign, .inl (k_a_columnSign, 12, .inl f14)), (a_columnRate, .inl (k_a_columnRate, 12, .inl f16)), (a_columnRoom, .inl (k_a_columnRoom, 12, .inl f21)), (o_hire, .inr (3, [.int hire_v_signs, .int hire_v_works, .int hire_v_whole, .int hire_v_otherwise, .int hire_v_least, .int hire_v_rates, .ref hire_a_brings, .ref hire_a_costs, .ref hire_a_chances, .ref hire_a_rate, .ref hire_a_mark])), (hire_a_rate, .inl (k_hire_a_rate, 3, .inl f_hire_a_rate)), (hire_a_mark, .inl (k_hire_a_mark, 2, .inl f_hire_a_mark))] := hD
          refine lv_iload hx hb dX4_listSteps_148 (lv_at hl 0 rfl) ?_
          refine lv_if_ne (tgt := 173) hx hb dX4_listSteps_150 (by decide) (fun cz => absurd cz (by decide)) (fun _ => ?_)
          refine lv_aload_n hx hb dX4_listSteps_153 rfl (lv_at hl 3 rfl) ?_
          refine va_get (D := (dC, dI)) (ci := 4) (v := .ref o_hire) (C := RX4) (T := TX4) (N := 12) hx hb hts iw_X4_listSteps_X4 hown hK hP 0 rfl rfl 8 (by decide) (hts _ kk_X4_listSteps_0) (fun _ h9 => h9) rfl dX4_listSteps_154 ?_
          refine va_get (D := (dC, dI)) (ci := 3) (v := .ref hire_a_mark) (C := RX3) (T := TX3) (N := 11) hx hb hts iw_X4_listSteps_X3 hown hK hP 4 rfl rfl 10 (by decide) (hts _ kk_X4_listSteps_4) (fun _ h9 => h9) rfl dX4_listSteps_157 ?_
          refine lv_iload_n hx hb dX4_listSteps_160 rfl (lv_at hl 1 rfl) ?_
          refine va_iald hx hb hK hP 6 4 rfl rfl (vq_in v1 2 (by omega)) dX4_listSteps_161 ?_
          refine lv_topi (fun x23 ex23 => ?_)
          refine lv_istore_n (lv' := [(2, .int x23), (4, .int 0), (3, .int v1), (0, .ref o), (1, .int p0)]) hx hb dX4_listSteps_162 rfl hl (by decide) rfl (fun ls hl => ?_)
          refine lv_aload_n hx hb dX4_listSteps_163 rfl (lv_at hl 3 rfl) ?_
          refine lv_dup hx hb dX4_listSteps_164 rfl ?_
          refine va_get (D := (dC, dI)) (ci := 4) (v := .int v4) (C := RX4) (T := TX4) (N := 12) hx hb hts iw_X4_listSteps_X4 hown hK hP 0 rfl rfl 7 (by decide) (hts _ kk_X4_listSteps_9) (fun _ h9 => h9) rfl dX4_listSteps_165 ?_
          refine lv_iconst (v := 1) hx hb dX4_listSteps_168 (by decide) ?_
          refine lv_iadd hx hb dX4_listSteps_169 ?_
          refine lv_topi (fun x24 ex24 => ?_)
          have bv4 := hv4.u
          have tx24 := i32_add ex24 rfl (show (1 : Int32).toInt = 1 by decide) (by omega) (by omega)
          refine va_put (D := (dC, dI)) (ci := 4) (v := .int x24) (ty := .int) (C := RX4) (T := TX4) (N := 12) hx hb hts iw_X4_listSteps_X4 tyX4 tyX4_ok nmX4 hown hK hP hD hS 0 rfl rfl 7 (by decide) (hts _ kk_X4_listSteps_9) (fun _ h9 => h9) rfl (by decide +kernel) rfl rfl (Nat.le_of_ble_eq_true rfl) dX4_listSteps_170 (fun H locs hP hD hS => ?_)
          have hP : va_P (dC, dI) vwCl [(o, .inr (4, [.ref a_above, .long v_aboveLower, .ref o_table, .ref a_columnSign, .ref a_columnRate, .ref a_columnRoom, .int x22, .int x24, .ref o_hire, .int v_work, .int v_keptSign, .int v_joinedSign])), (a_columnSign, .inl (k_a_columnSign, 12, .inl f14)), (a_columnRate, .inl (k_a_columnRate, 12, .inl f16)), (a_columnRoom, .inl (k_a_columnRoom, 12, .inl f21)), (o_hire, .inr (3, [.int hire_v_signs, .int hire_v_works, .int hire_v_whole, .int hire_v_otherwise, .int hire_v_least, .int hire_v_rates, .ref hire_a_brings, .ref hire_a_costs, .ref hire_a_chances, .ref hire_a_rate, .ref hire_a_mark])), (hire_a_rate, .inl (k_hire_a_rate, 3, .inl f_hire_a_rate)), (hire_a_mark, .inl (k_hire_a_mark, 2, .inl f_hire_a_mark))] H := hP
          have hD : va_D A [(o, .inr (4, [.ref a_above, .long v_aboveLower, .ref o_table, .ref a_columnSign, .ref a_columnRate, .ref a_columnRoom, .int x22, .int x24, .ref o_hire, .int v_work, .int v_keptSign, .int v_joinedSign])), (a_columnSign, .inl (k_a_columnSign, 12, .inl f14)), (a_columnRate, .inl (k_a_columnRate, 12, .inl f16)), (a_columnRoom, .inl (k_a_columnRoom, 12, .inl f21)), (o_hire, .inr (3, [.int hire_v_signs, .int hire_v_works, .int hire_v_whole, .int hire_v_otherwise, .int hire_v_least, .int hire_v_rates, .ref hire_a_brings, .ref hire_a_costs, .ref hire_a_chances, .ref hire_a_rate, .ref hire_a_mark])), (hire_a_rate, .inl (k_hire_a_rate, 3, .inl f_hire_a_rate)), (hire_a_mark, .inl (k_hire_a_mark, 2, .inl f_hire_a_mark))] := hD
          obtain ⟨x25, ex25⟩ : ∃ z : Int32, v1 + Int32.ofInt 1 = z := ⟨_, rfl⟩
          have tx25 := i32_inc ex25 rfl (by decide) (by omega) (by omega)
          refine lv_iinc (v := x25) (lv' := [(3, .int x25), (2, .int x23), (4, .int 0), (0, .ref o), (1, .int p0)]) hx hb dX4_listSteps_173 hl (k := 2) rfl ex25 (by decide) rfl (fun ls hl => ?_)
          refine lv_goto (tgt := 10) hx hb dX4_listSteps_176 (by decide) ?_
          have bx23 := i32_rng x23
          exact ih10 _ _ _ _ (by omega) ⟨x25, x23, x22, x24, f14, f16, f21, rfl, (iv.m (by omega)), (iv.m (by omega)), (iv.m (by omega)), hf14, (by first | omega | (simp; done) | grind), hP, hD, hS, lv_sub hl [0, 1, 3, 4] rfl⟩
        · have c139 := i32_nlt c13 rfl rfl
          refine lv_goto (tgt := 173) hx hb dX4_listSteps_68 (by decide) ?_
          obtain ⟨x26, ex26⟩ : ∃ z : Int32, v1 + Int32.ofInt 1 = z := ⟨_, rfl⟩
          have tx26 := i32_inc ex26 rfl (by decide) (by omega) (by omega)
          refine lv_iinc (v := x26) (lv' := [(3, .int x26), (4, .int 0), (2, .int v2), (0, .ref o), (1, .int p0)]) hx hb dX4_listSteps_173 hl (k := 1) rfl ex26 (by decide) rfl (fun ls hl => ?_)
          refine lv_goto (tgt := 10) hx hb dX4_listSteps_176 (by decide) ?_
          have bv4 := hv4.u
          exact ih10 _ _ _ _ (by omega) ⟨x26, v2, v3, v4, f5, f6, f7, rfl, (iv.m (by omega)), (iv.m (by omega)), hv4, hf5, (by first | omega | (simp; done) | grind), hP, hD, hS, lv_sub hl [0, 2, 3, 4] rfl⟩
      · have c119 := i32_eq c11 rfl rfl
        refine lv_iconst (v := 1) hx hb dX4_listSteps_43 (by decide) ?_
        refine lv_goto (tgt := 48) hx hb dX4_listSteps_44 (by decide) ?_
        refine lv_istore (lv' := [(4, .int 1), (3, .int v1), (2, .int v2), (0, .ref o), (1, .int p0)]) hx hb dX4_listSteps_48 hl (by decide) rfl (fun ls hl => ?_)
        refine lv_iload hx hb dX4_listSteps_50 (lv_at hl 0 rfl) ?_
        refine lv_if_ne (tgt := 71) hx hb dX4_listSteps_52 (by decide) (fun _ => ?_) (fun cz => absurd cz (by decide))
        refine lv_aload_n hx hb dX4_listSteps_71 rfl (lv_at hl 3 rfl) ?_
        refine va_get (D := (dC, dI)) (ci := 4) (v := .ref a_columnSign) (C := RX4) (T := TX4) (N := 12) hx hb hts iw_X4_listSteps_X4 hown hK hP 0 rfl rfl 3 (by decide) (hts _ kk_X4_listSteps_5) (fun _ h9 => h9) rfl dX4_listSteps_72 ?_
        refine lv_aload_n hx hb dX4_listSteps_75 rfl (lv_at hl 3 rfl) ?_
        refine va_get (D := (dC, dI)) (ci := 4) (v := .int v3) (C := RX4) (T := TX4) (N := 12) hx hb hts iw_X4_listSteps_X4 hown hK hP 0 rfl rfl 6 (by decide) (hts _ kk_X4_listSteps_3) (fun _ h9 => h9) rfl dX4_listSteps_76 ?_
        refine lv_iload_n hx hb dX4_listSteps_79 rfl (lv_at hl 4 rfl) ?_
        refine va_iast hx hb hK hP hD hS 1 0 rfl rfl (vq_in v3 12 (by omega)) dX4_listSteps_80 (fun H locs hP hD hS => ?_)
        have hP : va_P (dC, dI) vwCl [(o, .inr (4, [.ref a_above, .long v_aboveLower, .ref o_table, .ref a_columnSign, .ref a_columnRate, .ref a_columnRoom, .int v3, .int v4, .ref o_hire, .int v_work, .int v_keptSign, .int v_joinedSign])), (a_columnSign, .inl (k_a_columnSign, 12, .inl (upd f5 (Int32.toNatClampNeg v3) p0))), (a_columnRate, .inl (k_a_columnRate, 12, .inl f6)), (a_columnRoom, .inl (k_a_columnRoom, 12, .inl f7)), (o_hire, .inr (3, [.int hire_v_signs, .int hire_v_works, .int hire_v_whole, .int hire_v_otherwise, .int hire_v_least, .int hire_v_rates, .ref hire_a_brings, .ref hire_a_costs, .ref hire_a_chances, .ref hire_a_rate, .ref hire_a_mark])), (hire_a_rate, .inl (k_hire_a_rate, 3, .inl f_hire_a_rate)), (hire_a_mark, .inl (k_hire_a_mark, 2, .inl f_hire_a_mark))] H := hP
        have hD : va_D A [(o, .inr (4, [.ref a_above, .long v_aboveLower, .ref o_table, .ref a_columnSign, .ref a_columnRate, .ref a_columnRoom, .int v3, .int v4, .ref o_hire, .int v_work, .int v_keptSign, .int v_joinedSign])), (a_columnSign, .inl (k_a_columnSign, 12, .inl (upd f5 (Int32.toNatClampNeg v3) p0))), (a_columnRate, .inl (k_a_columnRate, 12, .inl f6)), (a_columnRoom, .inl (k_a_columnRoom, 12, .inl f7)), (o_hire, .inr (3, [.int hire_v_signs, .int hire_v_works, .int hire_v_whole, .int hire_v_otherwise, .int hire_v_least, .int hire_v_rates, .ref hire_a_brings, .ref hire_a_costs, .ref hire_a_chances, .ref hire_a_rate, .ref hire_a_mark])), (hire_a_rate, .inl (k_hire_a_rate, 3, .inl f_hire_a_rate)), (hire_a_mark, .inl (k_hire_a_mark, 2, .inl f_hire_a_mark))] := hD
        have hf27 : ivf (upd f5 (Int32.toNatClampNeg v3) p0) 0 3 := ivf.up hf5 hp0 _
        have wf27 : (upd f5 (Int32.toNatClampNeg v3) p0) (Int32.toNatClampNeg v3) = p0 := pk_us
        generalize upd f5 (Int32.toNatClampNeg v3) p0 = f27 at hP hD hf27 wf27
        have hP : va_P (dC, dI) vwCl [(o, .inr (4, [.ref a_above, .long v_aboveLower, .ref o_table, .ref a_columnSign, .ref a_columnRate, .ref a_columnRoom, .int v3, .int v4, .ref o_hire, .int v_work, .int v_keptSign, .int v_joinedSign])), (a_columnSign, .inl (k_a_columnSign, 12, .inl f27)), (a_columnRate, .inl (k_a_columnRate, 12, .inl f6)), (a_columnRoom, .inl (k_a_columnRoom, 12, .inl f7)), (o_hire, .inr (3, [.int hire_v_signs, .int hire_v_works, .int hire_v_whole, .int hire_v_otherwise, .int hire_v_least, .int hire_v_rates, .ref hire_a_brings, .ref hire_a_costs, .ref hire_a_chances, .ref hire_a_rate, .ref hire_a_mark])), (hire_a_rate, .inl (k_hire_a_rate, 3, .inl f_hire_a_rate)), (hire_a_mark, .inl (k_hire_a_mark, 2, .inl f_hire_a_mark))] H := hP
        have hD : va_D A [(o, .inr (4, [.ref a_above, .long v_aboveLower, .ref o_table, .ref a_columnSign, .ref a_columnRate, .ref a_columnRoom, .int v3, .int v4, .ref o_hire, .int v_work, .int v_keptSign, .int v_joinedSign])), (a_columnSign, .inl (k_a_columnSign, 12, .inl f27)), (a_columnRate, .inl (k_a_columnRate, 12, .inl f6)), (a_columnRoom, .inl (k_a_columnRoom, 12, .inl f7)), (o_hire, .inr (3, [.int hire_v_signs, .int hire_v_works, .int hire_v_whole, .int hire_v_otherwise, .int hire_v_least, .int hire_v_rates, .ref hire_a_brings, .ref hire_a_costs, .ref hire_a_chances, .ref hire_a_rate, .ref hire_a_mark])), (hire_a_rate, .inl (k_hire_a_rate, 3, .inl f_hire_a_rate)), (hire_a_mark, .inl (k_hire_a_mark, 2, .inl f_hire_a_mark))] := hD
        refine lv_aload_n hx hb dX4_listSteps_81 rfl (lv_at hl 3 rfl) ?_
        refine va_get (D := (dC, dI)) (ci := 4) (v := .ref a_columnRate) (C := RX4) (T := TX4) (N := 12) hx hb hts iw_X4_listSteps_X4 hown hK hP 0 rfl rfl 4 (by decide) (hts _ kk_X4_listSteps_6) (fun _ h9 => h9) rfl dX4_listSteps_82 ?_
        refine lv_aload_n hx hb dX4_listSteps_85 rfl (lv_at hl 3 rfl) ?_
        refine va_get (D := (dC, dI)) (ci := 4) (v := .int v3) (C := RX4) (T := TX4) (N := 12) hx hb hts iw_X4_listSteps_X4 hown hK hP 0 rfl rfl 6 (by decide) (hts _ kk_X4_listSteps_3) (fun _ h9 => h9) rfl dX4_listSteps_86 ?_
        refine lv_aload_n hx hb dX4_listSteps_89 rfl (lv_at hl 3 rfl) ?_
        refine va_get (D := (dC, dI)) (ci := 4) (v := .ref o_hire) (C := RX4) (T := TX4) (N := 12) hx hb hts iw_X4_listSteps_X4 hown hK hP 0 rfl rfl 8 (by decide) (hts _ kk_X4_listSteps_0) (fun _ h9 => h9) rfl dX4_listSteps_90 ?_
        refine va_get (D := (dC, dI)) (ci := 3) (v := .ref hire_a_rate) (C := RX3) (T := TX3) (N := 11) hx hb hts iw_X4_listSteps_X3 hown hK hP 4 rfl rfl 9 (by decide) (hts _ kk_X4_listSteps_7) (fun _ h9 => h9) rfl dX4_listSteps_93 ?_
        refine lv_iload_n hx hb dX4_listSteps_96 rfl (lv_at hl 1 rfl) ?_
        refine va_iald hx hb hK hP 5 3 rfl rfl (vq_in v1 3 (by omega)) dX4_listSteps_97 ?_
        refine lv_topi (fun x28 ex28 => ?_)
        refine va_iast hx hb hK hP hD hS 2 1 rfl rfl (vq_in v3 12 (by omega)) dX4_listSteps_98 (fun H locs hP hD hS => ?_)
        have hP : va_P (dC, dI) vwCl [(o, .inr (4, [.ref a_above, .long v_aboveLower, .ref o_table, .ref a_columnSign, .ref a_columnRate, .ref a_columnRoom, .int v3, .int v4, .ref o_hire, .int v_work, .int v_keptSign, .int v_joinedSign])), (a_columnSign, .inl (k_a_columnSign, 12, .inl f27)), (a_columnRate, .inl (k_a_columnRate, 12, .inl (upd f6 (Int32.toNatClampNeg v3) x28))), (a_columnRoom, .inl (k_a_columnRoom, 12, .inl f7)), (o_hire, .inr (3, [.int hire_v_signs, .int hire_v_works, .int hire_v_whole, .int hire_v_otherwise, .int hire_v_least, .int hire_v_rates, .ref hire_a_brings, .ref hire_a_costs, .ref hire_a_chances, .ref hire_a_rate, .ref hire_a_mark])), (hire_a_rate, .inl (k_hire_a_rate, 3, .inl f_hire_a_rate)), (hire_a_mark, .inl (k_hire_a_mark, 2, .inl f_hire_a_mark))] H := hP
        have hD : va_D A [(o, .inr (4, [.ref a_above, .long v_aboveLower, .ref o_table, .ref a_columnSign, .ref a_columnRate, .ref a_columnRoom, .int v3, .int v4, .ref o_hire, .int v_work, .int v_keptSign, .int v_joinedSign])), (a_columnSign, .inl (k_a_columnSign, 12, .inl f27)), (a_columnRate, .inl (k_a_columnRate, 12, .inl (upd f6 (Int32.toNatClampNeg v3) x28))), (a_columnRoom, .inl (k_a_columnRoom, 12, .inl f7)), (o_hire, .inr (3, [.int hire_v_signs, .int hire_v_works, .int hire_v_whole, .int hire_v_otherwise, .int hire_v_least, .int hire_v_rates, .ref hire_a_brings, .ref hire_a_costs, .ref hire_a_chances, .ref hire_a_rate, .ref hire_a_mark])), (hire_a_rate, .inl (k_hire_a_rate, 3, .inl f_hire_a_rate)), (hire_a_mark, .inl (k_hire_a_mark, 2, .inl f_hire_a_mark))] := hD
        have wf29 : (upd f6 (Int32.toNatClampNeg v3) x28) (Int32.toNatClampNeg v3) = x28 := pk_us
        generalize upd f6 (Int32.toNatClampNeg v3) x28 = f29 at hP hD wf29
        have hP : va_P (dC, dI) vwCl [(o, .inr (4, [.ref a_above, .long v_aboveLower, .ref o_table, .ref a_columnSign, .ref a_columnRate, .ref a_columnRoom, .int v3, .int v4, .ref o_hire, .int v_work, .int v_keptSign, .int v_joinedSign])), (a_columnSign, .inl (k_a_columnSign, 12, .inl f27)), (a_columnRate, .inl (k_a_columnRate, 12, .inl f29)), (a_columnRoom, .inl (k_a_columnRoom, 12, .inl f7)), (o_hire, .inr (3, [.int hire_v_signs, .int hire_v_works, .int hire_v_whole, .int hire_v_otherwise, .int hire_v_least, .int hire_v_rates, .ref hire_a_brings, .ref hire_a_costs, .ref hire_a_chances, .ref hire_a_rate, .ref hire_a_mark])), (hire_a_rate, .inl (k_hire_a_rate, 3, .inl f_hire_a_rate)), (hire_a_mark, .inl (k_hire_a_mark, 2, .inl f_hire_a_mark))] H := hP
        have hD : va_D A [(o, .inr (4, [.ref a_above, .long v_aboveLower, .ref o_table, .ref a_columnSign, .ref a_columnRate, .ref a_columnRoom, .int v3, .int v4, .ref o_hire, .int v_work, .int v_keptSign, .int v_joinedSign])), (a_columnSign, .inl (k_a_columnSign, 12, .inl f27)), (a_columnRate, .inl (k_a_columnRate, 12, .inl f29)), (a_columnRoom, .inl (k_a_columnRoom, 12, .inl f7)), (o_hire, .inr (3, [.int hire_v_signs, .int hire_v_works, .int hire_v_whole, .int hire_v_otherwise, .int hire_v_least, .int hire_v_rates, .ref hire_a_brings, .ref hire_a_costs, .ref hire_a_chances, .ref hire_a_rate, .ref hire_a_mark])), (hire_a_rate, .inl (k_hire_a_rate, 3, .inl f_hire_a_rate)), (hire_a_mark, .inl (k_hire_a_mark, 2, .inl f_hire_a_mark))] := hD
        refine lv_aload_n hx hb dX4_listSteps_99 rfl (lv_at hl 3 rfl) ?_
        refine va_get (D := (dC, dI)) (ci := 4) (v := .ref a_columnRoom) (C := RX4) (T := TX4) (N := 12) hx hb hts iw_X4_listSteps_X4 hown hK hP 0 rfl rfl 5 (by decide) (hts _ kk_X4_listSteps_8) (fun _ h9 => h9) rfl dX4_listSteps_100 ?_
        refine lv_aload_n hx hb dX4_listSteps_103 rfl (lv_at hl 3 rfl) ?_
        refine va_get (D := (dC, dI)) (ci := 4) (v := .int v3) (C := RX4) (T := TX4) (N := 12) hx hb hts iw_X4_listSteps_X4 hown hK hP 0 rfl rfl 6 (by decide) (hts _ kk_X4_listSteps_3) (fun _ h9 => h9) rfl dX4_listSteps_104 ?_
        refine lv_iload hx hb dX4_listSteps_107 (lv_at hl 0 rfl) ?_
        refine lv_if_eq (tgt := 116) hx hb dX4_listSteps_109 (by decide) (fun cz => absurd cz (by decide)) (fun _ => ?_)
        refine lv_iconst (v := (-1)) hx hb dX4_listSteps_112 (by decide) ?_
        refine lv_goto (tgt := 137) hx hb dX4_listSteps_113 (by decide) ?_
        refine va_iast hx hb hK hP hD hS 3 2 rfl rfl (vq_in v3 12 (by omega)) dX4_listSteps_137 (fun H locs hP hD hS => ?_)
        have hP : va_P (dC, dI) vwCl [(o, .inr (4, [.ref a_above, .long v_aboveLower, .ref o_table, .ref a_columnSign, .ref a_columnRate, .ref a_columnRoom, .int v3, .int v4, .ref o_hire, .int v_work, .int v_keptSign, .int v_joinedSign])), (a_columnSign, .inl (k_a_columnSign, 12, .inl f27)), (a_columnRate, .inl (k_a_columnRate, 12, .inl f29)), (a_columnRoom, .inl (k_a_columnRoom, 12, .inl (upd f7 (Int32.toNatClampNeg v3) (-1)))), (o_hire, .inr (3, [.int hire_v_signs, .int hire_v_works, .int hire_v_whole, .int hire_v_otherwise, .int hire_v_least, .int hire_v_rates, .ref hire_a_brings, .ref hire_a_costs, .ref hire_a_chances, .ref hire_a_rate, .ref hire_a_mark])), (hire_a_rate, .inl (k_hire_a_rate, 3, .inl f_hire_a_rate)), (hire_a_mark, .inl (k_hire_a_mark, 2, .inl f_hire_a_mark))] H := hP
        have hD : va_D A [(o, .inr (4, [.ref a_above, .long v_aboveLower, .ref o_table, .ref a_columnSign, .ref a_columnRate, .ref a_columnRoom, .int v3, .int v4, .ref o_hire, .int v_work, .int v_keptSign, .int v_joinedSign])), (a_columnSign, .inl (k_a_columnSign, 12, .inl f27)), (a_columnRate, .inl (k_a_columnRate, 12, .inl f29)), (a_columnRoom, .inl (k_a_columnRoom, 12, .inl (upd f7 (Int32.toNatClampNeg v3) (-1)))), (o_hire, .inr (3, [.int hire_v_signs, .int hire_v_works, .int hire_v_whole, .int hire_v_otherwise, .int hire_v_least, .int hire_v_rates, .ref hire_a_brings, .ref hire_a_costs, .ref hire_a_chances, .ref hire_a_rate, .ref hire_a_mark])), (hire_a_rate, .inl (k_hire_a_rate, 3, .inl f_hire_a_rate)), (hire_a_mark, .inl (k_hire_a_mark, 2, .inl f_hire_a_mark))] := hD
        have wf30 : (upd f7 (Int32.toNatClampNeg v3) (-1)) (Int32.toNatClampNeg v3) = (-1) := pk_us
        generalize upd f7 (Int32.toNatClampNeg v3) (-1) = f30 at hP hD wf30
        have hP : va_P (dC, dI) vwCl [(o, .inr (4, [.ref a_above, .long v_aboveLower, .ref o_table, .ref a_columnSign, .ref a_columnRate, .ref a_columnRoom, .int v3, .int v4, .ref o_hire, .int v_work, .int v_keptSign, .int v_joinedSign])), (a_columnSign, .inl (k_a_columnSign, 12, .inl f27)), (a_columnRate, .inl (k_a_columnRate, 12, .inl f29)), (a_columnRoom, .inl (k_a_columnRoom, 12, .inl f30)), (o_hire, .inr (3, [.int hire_v_signs, .int hire_v_works, .int hire_v_whole, .int hire_v_otherwise, .int hire_v_least, .int hire_v_rates, .ref hire_a_brings, .ref hire_a_costs, .ref hire_a_chances, .ref hire_a_rate, .ref hire_a_mark])), (hire_a_rate, .inl (k_hire_a_rate, 3, .inl f_hire_a_rate)), (hire_a_mark, .inl (k_hire_a_mark, 2, .inl f_hire_a_mark))] H := hP
        have hD : va_D A [(o, .inr (4, [.ref a_above, .long v_aboveLower, .ref o_table, .ref a_columnSign, .ref a_columnRate, .ref a_columnRoom, .int v3, .int v4, .ref o_hire, .int v_work, .int v_keptSign, .int v_joinedSign])), (a_columnSign, .inl (k_a_columnSign, 12, .inl f27)), (a_columnRate, .inl (k_a_columnRate, 12, .inl f29)), (a_columnRoom, .inl (k_a_columnRoom, 12, .inl f30)), (o_hire, .inr (3, [.int hire_v_signs, .int hire_v_works, .int hire_v_whole, .int hire_v_otherwise, .int hire_v_least, .int hire_v_rates, .ref hire_a_brings, .ref hire_a_costs, .ref hire_a_chances, .ref hire_a_rate, .ref hire_a_mark])), (hire_a_rate, .inl (k_hire_a_rate, 3, .inl f_hire_a_rate)), (hire_a_mark, .inl (k_hire_a_mark, 2, .inl f_hire_a_mark))] := hD
        refine lv_aload_n hx hb dX4_listSteps_138 rfl (lv_at hl 3 rfl) ?_
        refine lv_dup hx hb dX4_listSteps_139 rfl ?_
        refine va_get (D := (dC, dI)) (ci := 4) (v := .int v3) (C := RX4) (T := TX4) (N := 12) hx hb hts iw_X4_listSteps_X4 hown hK hP 0 rfl rfl 6 (by decide) (hts _ kk_X4_listSteps_3) (fun _ h9 => h9) rfl dX4_listSteps_140 ?_
        refine lv_iconst (v := 1) hx hb dX4_listSteps_143 (by decide) ?_
        refine lv_iadd hx hb dX4_listSteps_144 ?_
        refine lv_topi (fun x31 ex31 => ?_)
        have tx31 := i32_add ex31 rfl (show (1 : Int32).toInt = 1 by decide) (by omega) (by omega)
        refine va_put (D := (dC, dI)) (ci := 4) (v := .int x31) (ty := .int) (C := RX4) (T := TX4) (N := 12) hx hb hts iw_X4_listSteps_X4 tyX4 tyX4_ok nmX4 hown hK hP hD hS 0 rfl rfl 6 (by decide) (hts _ kk_X4_listSteps_3) (fun _ h9 => h9) rfl (by decide +kernel) rfl rfl (Nat.le_of_ble_eq_true rfl) dX4_listSteps_145 (fun H locs hP hD hS => ?_)
        have hP : va_P (dC, dI) vwCl [(o, .inr (4, [.ref a_above, .long v_aboveLower, .ref o_table, .ref a_columnSign, .ref a_columnRate, .ref a_columnRoom, .int x31, .int v4, .ref o_hire, .int v_work, .int v_keptSign, .int v_joinedSign])), (a_columnSign, .inl (k_a_columnSign, 12, .inl f27)), (a_columnRate, .inl (k_a_columnRate, 12, .inl f29)), (a_columnRoom, .inl (k_a_columnRoom, 12, .inl f30)), (o_hire, .inr (3, [.int hire_v_signs, .int hire_v_works, .int hire_v_whole, .int hire_v_otherwise, .int hire_v_least, .int hire_v_rates, .ref hire_a_brings, .ref hire_a_costs, .ref hire_a_chances, .ref hire_a_rate, .ref hire_a_mark])), (hire_a_rate, .inl (k_hire_a_rate, 3, .inl f_hire_a_rate)), (hire_a_mark, .inl (k_hire_a_mark, 2, .inl f_hire_a_mark))] H := hP
        have hD : va_D A [(o, .inr (4, [.ref a_above, .long v_aboveLower, .ref o_table, .ref a_columnSign, .ref a_columnRate, .ref a_columnRoom, .int x31, .int v4, .ref o_hire, .int v_work, .int v_keptSign, .int v_joinedSign])), (a_columnSign, .inl (k_a_columnSign, 12, .inl f27)), (a_columnRate, .inl (k_a_columnRate, 12, .inl f29)), (a_columnRoom, .inl (k_a_columnRoom, 12, .inl f30)), (o_hire, .inr (3, [.int hire_v_signs, .int hire_v_works, .int hire_v_whole, .int hire_v_otherwise, .int hire_v_least, .int hire_v_rates, .ref hire_a_brings, .ref hire_a_costs, .ref hire_a_chances, .ref hire_a_rate, .ref hire_a_mark])), (hire_a_rate, .inl (k_hire_a_rate, 3, .inl f_hire_a_rate)), (hire_a_mark, .inl (k_hire_a_mark, 2, .inl f_hire_a_mark))] := hD
        refine lv_iload hx hb dX4_listSteps_148 (lv_at hl 0 rfl) ?_
        refine lv_if_ne (tgt := 173) hx hb dX4_listSteps_150 (by decide) (fun _ => ?_) (fun cz => absurd cz (by decide))
        obtain ⟨x32, ex32⟩ : ∃ z : Int32, v1 + Int32.ofInt 1 = z := ⟨_, rfl⟩
        have tx32 := i32_inc ex32 rfl (by decide) (by omega) (by omega)
        refine lv_iinc (v := x32) (lv' := [(3, .int x32), (4, .int 1), (2, .int v2), (0, .ref o), (1, .int p0)]) hx hb dX4_listSteps_173 hl (k := 1) rfl ex32 (by decide) rfl (fun ls hl => ?_)
        refine lv_goto (tgt := 10) hx hb dX4_listSteps_176 (by decide) ?_
        have bv4 := hv4.u
        exact ih10 _ _ _ _ (by omega) ⟨x32, v2, x31, v4, f27, f29, f30, rfl, (iv.m (by omega)), (iv.m (by omega)), hv4, hf27, (by first | omega | (simp; done) | grind), hP, hD, hS, lv_sub hl [0, 2, 3, 4] rfl⟩

set_option maxHeartbeats 4000000 in
set_option maxRecDepth 100000 in
theorem ct_X4_listColumns (l : Launch) (dC : Nat → ClassId) (dI : Nat → Nat → Nat) (o : Nat) (a_above : Nat) (v_aboveLower : Int64) (o_table : Nat) (a_columnSign : Nat) (a_columnRate : Nat) (a_columnRoom : Nat) (v_columns : Int32) (v_rooms : Int32) (o_hire : Nat) (v_work : Int32) (v_keptSign : Int32) (v_joinedSign : Int32) (k_a_columnSign : ClassId) (f_a_columnSign : Nat → Int32) (k_a_columnRate : ClassId) (f_a_columnRate : Nat → Int32) (k_a_columnRoom : ClassId) (f_a_columnRoom : Nat → Int32) (hire_v_signs : Int32) (hire_v_works : Int32) (hire_v_whole : Int32) (hire_v_otherwise : Int32) (hire_v_least : Int32) (hire_v_rates : Int32) (hire_a_brings : Nat) (hire_a_costs : Nat) (hire_a_chances : Nat) (hire_a_rate : Nat) (hire_a_mark : Nat) (k_hire_a_chances : ClassId) (R_hire_a_chances : Nat → Nat) (k_hire_a_rate : ClassId) (f_hire_a_rate : Nat → Int32) (k_hire_a_mark : ClassId) (f_hire_a_mark : Nat → Int32) (LP : List Nat) (sh : Nat → Nat) (fp : Nat → va_E) (cI : ClassId) (cJ : ClassId) (hv_work : iv v_work 0 4) (hv_keptSign : iv v_keptSign (-1) 3) (hv_joinedSign : iv v_joinedSign (-1) 3) (hf_a_columnSign : ivf f_a_columnSign 0 3) (hhire_v_signs : iv hire_v_signs 0 4) (hhire_v_rates : iv hire_v_rates 1 3) (hfp : pok cI cJ LP sh fp) (hRR_hire_a_chances : ∀ i : Nat, i < 5 → R_hire_a_chances i ∈ LP ∧ sh (R_hire_a_chances i) = 104) (hkj : v_keptSign.toInt = -1 ∨ 0 ≤ v_joinedSign.toInt) (sz : Nat) : Met l yX4_listColumns wsX4_listColumns ({ frames := 1, cells := 0, slots := 0, locals := 24 }) (va_Pc [.ref o] (fun U => U.heap.size = sz ∧ va_P (dC, dI) vwCl ([(o, .inr (4, [.ref a_above, .long v_aboveLower, .ref o_table, .ref a_columnSign, .ref a_columnRate, .ref a_columnRoom, .int v_columns, .int v_rooms, .ref o_hire, .int v_work, .int v_keptSign, .int v_joinedSign])), (a_columnSign, .inl (k_a_columnSign, 12, .inl f_a_columnSign)), (a_columnRate, .inl (k_a_columnRate, 12, .inl f_a_columnRate)), (a_columnRoom, .inl (k_a_columnRoom, 12, .inl f_a_columnRoom)), (o_hire, .inr (3, [.int hire_v_signs, .int hire_v_works, .int hire_v_whole, .int hire_v_otherwise, .int hire_v_least, .int hire_v_rates, .ref hire_a_brings, .ref hire_a_costs, .ref hire_a_chances, .ref hire_a_rate, .ref hire_a_mark])), (hire_a_chances, .inl (k_hire_a_chances, 5, .inr (.inr (.inr (.inr (rows_of 5 R_hire_a_chances)))))), (hire_a_rate, .inl (k_hire_a_rate, 3, .inl f_hire_a_rate)), (hire_a_mark, .inl (k_hire_a_mark, 2, .inl f_hire_a_mark))] ++ va_pl LP fp) U.heap ∧ va_K (dC, dI) vwCl [(k_a_columnSign, .int), (k_a_columnRate, .int), (k_a_columnRoom, .int), (k_hire_a_chances, (.array .int)), (k_hire_a_rate, .int), (k_hire_a_mark, .int), (cI, .int), (cJ, .long)] U ∧ va_D (fun _ => True) ([(o, .inr (4, [.ref a_above, .long v_aboveLower, .ref o_table, .ref a_columnSign, .ref a_columnRate, .ref a_columnRoom, .int v_columns, .int v_rooms, .ref o_hire, .int v_work, .int v_keptSign, .int v_joinedSign])), (a_columnSign, .inl (k_a_columnSign, 12, .inl f_a_columnSign)), (a_columnRate, .inl (k_a_columnRate, 12, .inl f_a_columnRate)), (a_columnRoom, .inl (k_a_columnRoom, 12, .inl f_a_columnRoom)), (o_hire, .inr (3, [.int hire_v_signs, .int hire_v_works, .int hire_v_whole, .int hire_v_otherwise, .int hire_v_least, .int hire_v_rates, .ref hire_a_brings, .ref hire_a_costs, .ref hire_a_chances, .ref hire_a_rate, .ref hire_a_mark])), (hire_a_chances, .inl (k_hire_a_chances, 5, .inr (.inr (.inr (.inr (rows_of 5 R_hire_a_chances)))))), (hire_a_rate, .inl (k_hire_a_rate, 3, .inl f_hire_a_rate)), (hire_a_mark, .inl (k_hire_a_mark, 2, .inl f_hire_a_mark))] ++ va_pl LP fp))) (va_Qv (fun _ : Unit => True) (fun _ t => ∃ (e_v_columns : Int32) (e_v_rooms : Int32) (e_f_a_columnSign : Nat → Int32) (e_f_a_columnRate : Nat → Int32) (e_f_a_columnRoom : Nat → Int32), iv e_v_columns 0 12 ∧ iv e_v_rooms 0 12 ∧ ivf e_f_a_columnSign 0 3 ∧ va_P (dC, dI) vwCl ([(o, .inr (4, [.ref a_above, .long v_aboveLower, .ref o_table, .ref a_columnSign, .ref a_columnRate, .ref a_columnRoom, .int e_v_columns, .int e_v_rooms, .ref o_hire, .int v_work, .int v_keptSign, .int v_joinedSign])), (a_columnSign, .inl (k_a_columnSign, 12, .inl e_f_a_columnSign)), (a_columnRate, .inl (k_a_columnRate, 12, .inl e_f_a_columnRate)), (a_columnRoom, .inl (k_a_columnRoom, 12, .inl e_f_a_columnRoom)), (o_hire, .inr (3, [.int hire_v_signs, .int hire_v_works, .int hire_v_whole, .int hire_v_otherwise, .int hire_v_least, .int hire_v_rates, .ref hire_a_brings, .ref hire_a_costs, .ref hire_a_chances, .ref hire_a_rate, .ref hire_a_mark])), (hire_a_chances, .inl (k_hire_a_chances, 5, .inr (.inr (.inr (.inr (rows_of 5 R_hire_a_chances)))))), (hire_a_rate, .inl (k_hire_a_rate, 3, .inl f_hire_a_rate)), (hire_a_mark, .inl (k_hire_a_mark, 2, .inl f_hire_a_mark))] ++ va_pl LP fp) t.heap ∧ va_D (va_A ([(o, .inr (4, [.ref a_above, .long v_aboveLower, .ref o_table, .ref a_columnSign, .ref a_columnRate, .ref a_columnRoom, .int v_columns, .int v_rooms, .ref o_hire, .int v_work, .int v_keptSign, .int v_joinedSign])), (a_columnSign, .inl (k_a_columnSign, 12, .inl f_a_columnSign)), (a_columnRate, .inl (k_a_columnRate, 12, .inl f_a_columnRate)), (a_columnRoom, .inl (k_a_columnRoom, 12, .inl f_a_columnRoom)), (o_hire, .inr (3, [.int hire_v_signs, .int hire_v_works, .int hire_v_whole, .int hire_v_otherwise, .int hire_v_least, .int hire_v_rates, .ref hire_a_brings, .ref hire_a_costs, .ref hire_a_chances, .ref hire_a_rate, .ref hire_a_mark])), (hire_a_chances, .inl (k_hire_a_chances, 5, .inr (.inr (.inr (.inr (rows_of 5 R_hire_a_chances)))))), (hire_a_rate, .inl (k_hire_a_rate, 3, .inl f_hire_a_rate)), (hire_a_mark, .inl (k_hire_a_mark, 2, .inl f_hire_a_mark))] ++ va_pl LP fp) sz) ([(o, .inr (4, [.ref a_above, .long v_aboveLower, .ref o_table, .ref a_columnSign, .ref a_columnRate, .ref a_columnRoom, .int e_v_columns, .int e_v_rooms, .ref o_hire, .int v_work, .int v_keptSign, .int v_joinedSign])), (a_columnSign, .inl (k_a_columnSign, 12, .inl e_f_a_columnSign)), (a_columnRate, .inl (k_a_columnRate, 12, .inl e_f_a_columnRate)), (a_columnRoom, .inl (k_a_columnRoom, 12, .inl e_f_a_columnRoom)), (o_hire, .inr (3, [.int hire_v_signs, .int hire_v_works, .int hire_v_whole, .int hire_v_otherwise, .int hire_v_least, .int hire_v_rates, .ref hire_a_brings, .ref hire_a_costs, .ref hire_a_chances, .ref hire_a_rate, .ref hire_a_mark])), (hire_a_chances, .inl (k_hire_a_chances, 5, .inr (.inr (.inr (.inr (rows_of 5 R_hire_a_chances)))))), (hire_a_rate, .inl (k_hire_a_rate, 3, .inl f_hire_a_rate)), (hire_a_mark, .inl (k_hire_a_mark, 2, .inl f_hire_a_mark))] ++ va_pl LP fp)) (va_A ([(o, .inr (4, [.ref a_above, .long v_aboveLower, .ref o_table, .ref a_columnSign, .ref a_columnRate, .ref a_columnRoom, .int v_columns, .int v_rooms, .ref o_hire, .int v_work, .int v_keptSign, .int v_joinedSign])), (a_columnSign, .inl (k_a_columnSign, 12, .inl f_a_columnSign)), (a_columnRate, .inl (k_a_columnRate, 12, .inl f_a_columnRate)), (a_columnRoom, .inl (k_a_columnRoom, 12, .inl f_a_columnRoom)), (o_hire, .inr (3, [.int hire_v_signs, .int hire_v_works, .int hire_v_whole, .int hire_v_otherwise, .int hire_v_least, .int hire_v_rates, .ref hire_a_brings, .ref hire_a_costs, .ref hire_a_chances, .ref hire_a_rate, .ref hire_a_mark])), (hire_a_chances, .inl (k_hire_a_chances, 5, .inr (.inr (.inr (.inr (rows_of 5 R_hire_a_chances)))))), (hire_a_rate, .inl (k_hire_a_rate, 3, .inl f_hire_a_rate)), (hire_a_mark, .inl (k_hire_a_mark, 2, .inl f_hire_a_mark))] ++ va_pl LP fp) sz)) 0 0 (va_A ([(o, .inr (4, [.ref a_above, .long v_aboveLower, .ref o_table, .ref a_columnSign, .ref a_columnRate, .ref a_columnRoom, .int v_columns, .int v_rooms, .ref o_hire, .int v_work, .int v_keptSign, .int v_joinedSign])), (a_columnSign, .inl (k_a_columnSign, 12, .inl f_a_columnSign)), (a_columnRate, .inl (k_a_columnRate, 12, .inl f_a_columnRate)), (a_columnRoom, .inl (k_a_columnRoom, 12, .inl f_a_columnRoom)), (o_hire, .inr (3, [.int hire_v_signs, .int hire_v_works, .int hire_v_whole, .int hire_v_otherwise, .int hire_v_least, .int hire_v_rates, .ref hire_a_brings, .ref hire_a_costs, .ref hire_a_chances, .ref hire_a_rate, .ref hire_a_mark])), (hire_a_chances, .inl (k_hire_a_chances, 5, .inr (.inr (.inr (.inr (rows_of 5 R_hire_a_chances)))))), (hire_a_rate, .inl (k_hire_a_rate, 3, .inl f_hire_a_rate)), (hire_a_mark, .inl (k_hire_a_mark, 2, .inl f_hire_a_mark))] ++ va_pl LP fp) sz) := by
  refine Met.ofW (cc := cX4_listColumns) (maxL := 2) (ret := none) (by decide) rfl ?_
  intro p e s m args below meth c s₁ B hml hv
  obtain ⟨rfl, hsz, hP, hK, hD0⟩ := hv
  have hx := B.exec
  have hb := B.bytes
  have hr := B.returns
  have hts := atoms_spec (ws := wsX4_listColumns) B.pre
  have hown : s.vm.findClass RX4 = some m.cls := findClass_of_methodNamed B.named
  have hlocks := B.notSynchronized
  subst hsz
  have hD := hD0.self (sz := s.heap.size)
  generalize hAe : va_A ([(o, .inr (4, [.ref a_above, .long v_aboveLower, .ref o_table, .ref a_columnSign, .ref a_columnRate, .ref a_columnRoom, .int v_columns, .int v_rooms, .ref o_hire, .int v_work, .int v_keptSign, .int v_joinedSign])), (a_columnSign, .inl (k_a_columnSign, 12, .inl f_a_columnSign)), (a_columnRate, .inl (k_a_columnRate, 12, .inl f_a_columnRate)), (a_columnRoom, .inl (k_a_columnRoom, 12, .inl f_a_columnRoom)), (o_hire, .inr (3, [.int hire_v_signs, .int hire_v_works, .int hire_v_whole, .int hire_v_otherwise, .int hire_v_least, .int hire_v_rates, .ref hire_a_brings, .ref hire_a_costs, .ref hire_a_chances, .ref hire_a_rate, .ref hire_a_mark])), (hire_a_chances, .inl (k_hire_a_chances, 5, .inr (.inr (.inr (.inr (rows_of 5 R_hire_a_chances)))))), (hire_a_rate, .inl (k_hire_a_rate, 3, .inl f_hire_a_rate)), (hire_a_mark, .inl (k_hire_a_mark, 2, .inl f_hire_a_mark))] ++ va_pl LP fp) s.heap.size = A at hD ⊢
  have hA : ∀ q : Nat, s.heap.size ≤ q → A q := fun q h => by rw [← hAe]; exact Or.inr h
  have hS : va_S A s.heap s.heap [] := va_S.rf
  have hP : va_P (dC, dI) vwCl ([(o, .inr (4, [.ref a_above, .long v_aboveLower, .ref o_table, .ref a_columnSign, .ref a_columnRate, .ref a_columnRoom, .int v_columns, .int v_rooms, .ref o_hire, .int v_work, .int v_keptSign, .int v_joinedSign])), (a_columnSign, .inl (k_a_columnSign, 12, .inl f_a_columnSign)), (a_columnRate, .inl (k_a_columnRate, 12, .inl f_a_columnRate)), (a_columnRoom, .inl (k_a_columnRoom, 12, .inl f_a_columnRoom)), (o_hire, .inr (3, [.int hire_v_signs, .int hire_v_works, .int hire_v_whole, .int hire_v_otherwise, .int hire_v_least, .int hire_v_rates, .ref hire_a_brings, .ref hire_a_costs, .ref hire_a_chances, .ref hire_a_rate, .ref hire_a_mark])), (hire_a_chances, .inl (k_hire_a_chances, 5, .inr (.inr (.inr (.inr (rows_of 5 R_hire_a_chances)))))), (hire_a_rate, .inl (k_hire_a_rate, 3, .inl f_hire_a_rate)), (hire_a_mark, .inl (k_hire_a_mark, 2, .inl f_hire_a_mark))] ++ va_pl LP fp) s.heap := hP
  have hl := lv_entry ([.ref o]) (n := 2) (Nat.le_of_ble_eq_true rfl)
  rw [lg_entry_eq]
  generalize (lg_sl ([.ref o]) ++ List.replicate (2 - (lg_sl ([.ref o])).length) Slot.unset).toArray = ls at hl ⊢
  have hl : lv_has ls 2 [(0, .ref o)] := hl
  refine lv_aload_n hx hb dX4_listColumns_0 rfl (lv_at hl 0 rfl) ?_
  refine lv_iconst (v := 0) hx hb dX4_listColumns_1 (by decide) ?_
  refine va_put (D := (dC, dI)) (ci := 4) (v := .int 0) (ty := .int) (C := RX4) (T := TX4) (N := 12) hx hb hts iw_X4_listColumns_X4 tyX4 tyX4_ok nmX4 hown hK hP hD hS 0 rfl rfl 6 (by decide) (hts _ kk_X4_listColumns_0) (fun _ h9 => h9) rfl (by decide +kernel) rfl rfl (Nat.le_of_ble_eq_true rfl) dX4_listColumns_2 (fun H locs hP hD hS => ?_)
  have hP : va_P (dC, dI) vwCl ([(o, .inr (4, [.ref a_above, .long v_aboveLower, .ref o_table, .ref a_columnSign, .ref a_columnRate, .ref a_columnRoom, .int 0, .int v_rooms, .ref o_hire, .int v_work, .int v_keptSign, .int v_joinedSign])), (a_columnSign, .inl (k_a_columnSign, 12, .inl f_a_columnSign)), (a_columnRate, .inl (k_a_columnRate, 12, .inl f_a_columnRate)), (a_columnRoom, .inl (k_a_columnRoom, 12, .inl f_a_columnRoom)), (o_hire, .inr (3, [.int hire_v_signs, .int hire_v_works, .int hire_v_whole, .int hire_v_otherwise, .int hire_v_least, .int hire_v_rates, .ref hire_a_brings, .ref hire_a_costs, .ref hire_a_chances, .ref hire_a_rate, .ref hire_a_mark])), (hire_a_chances, .inl (k_hire_a_chances, 5, .inr (.inr (.inr (.inr (rows_of 5 R_hire_a_chances)))))), (hire_a_rate, .inl (k_hire_a_rate, 3, .inl f_hire_a_rate)), (hire_a_mark, .inl (k_hire_a_mark, 2, .inl f_hire_a_mark))] ++ va_pl LP fp) H := hP
  have hD : va_D A ([(o, .inr (4, [.ref a_above, .long v_aboveLower, .ref o_table, .ref a_columnSign, .ref a_columnRate, .ref a_columnRoom, .int 0, .int v_rooms, .ref o_hire, .int v_work, .int v_keptSign, .int v_joinedSign])), (a_columnSign, .inl (k_a_columnSign, 12, .inl f_a_columnSign)), (a_columnRate, .inl (k_a_columnRate, 12, .inl f_a_columnRate)), (a_columnRoom, .inl (k_a_columnRoom, 12, .inl f_a_columnRoom)), (o_hire, .inr (3, [.int hire_v_signs, .int hire_v_works, .int hire_v_whole, .int hire_v_otherwise, .int hire_v_least, .int hire_v_rates, .ref hire_a_brings, .ref hire_a_costs, .ref hire_a_chances, .ref hire_a_rate, .ref hire_a_mark])), (hire_a_chances, .inl (k_hire_a_chances, 5, .inr (.inr (.inr (.inr (rows_of 5 R_hire_a_chances)))))), (hire_a_rate, .inl (k_hire_a_rate, 3, .inl f_hire_a_rate)), (hire_a_mark, .inl (k_hire_a_mark, 2, .inl f_hire_a_mark))] ++ va_pl LP fp) := hD
  refine lv_aload_n hx hb dX4_listColumns_5 rfl (lv_at hl 0 rfl) ?_
  refine lv_iconst (v := 0) hx hb dX4_listColumns_6 (by decide) ?_
  refine va_put (D := (dC, dI)) (ci := 4) (v := .int 0) (ty := .int) (C := RX4) (T := TX4) (N := 12) hx hb hts iw_X4_listColumns_X4 tyX4 tyX4_ok nmX4 hown hK hP hD hS 0 rfl rfl 7 (by decide) (hts _ kk_X4_listColumns_1) (fun _ h9 => h9) rfl (by decide +kernel) rfl rfl (Nat.le_of_ble_eq_true rfl) dX4_listColumns_7 (fun H locs hP hD hS => ?_)
  have hP : va_P (dC, dI) vwCl ([(o, .inr (4, [.ref a_above, .long v_aboveLower, .ref o_table, .ref a_columnSign, .ref a_columnRate, .ref a_columnRoom, .int 0, .int 0, .ref o_hire, .int v_work, .int v_keptSign, .int v_joinedSign])), (a_columnSign, .inl (k_a_columnSign, 12, .inl f_a_columnSign)), (a_columnRate, .inl (k_a_columnRate, 12, .inl f_a_columnRate)), (a_columnRoom, .inl (k_a_columnRoom, 12, .inl f_a_columnRoom)), (o_hire, .inr (3, [.int hire_v_signs, .int hire_v_works, .int hire_v_whole, .int hire_v_otherwise, .int hire_v_least, .int hire_v_rates, .ref hire_a_brings, .ref hire_a_costs, .ref hire_a_chances, .ref hire_a_rate, .ref hire_a_mark])), (hire_a_chances, .inl (k_hire_a_chances, 5, .inr (.inr (.inr (.inr (rows_of 5 R_hire_a_chances)))))), (hire_a_rate, .inl (k_hire_a_rate, 3, .inl f_hire_a_rate)), (hire_a_mark, .inl (k_hire_a_mark, 2, .inl f_hire_a_mark))] ++ va_pl LP fp) H := hP
  have hD : va_D A ([(o, .inr (4, [.ref a_above, .long v_aboveLower, .ref o_table, .ref a_columnSign, .ref a_columnRate, .ref a_columnRoom, .int 0, .int 0, .ref o_hire, .int v_work, .int v_keptSign, .int v_joinedSign])), (a_columnSign, .inl (k_a_columnSign, 12, .inl f_a_columnSign)), (a_columnRate, .inl (k_a_columnRate, 12, .inl f_a_columnRate)), (a_columnRoom, .inl (k_a_columnRoom, 12, .inl f_a_columnRoom)), (o_hire, .inr (3, [.int hire_v_signs, .int hire_v_works, .int hire_v_whole, .int hire_v_otherwise, .int hire_v_least, .int hire_v_rates, .ref hire_a_brings, .ref hire_a_costs, .ref hire_a_chances, .ref hire_a_rate, .ref hire_a_mark])), (hire_a_chances, .inl (k_hire_a_chances, 5, .inr (.inr (.inr (.inr (rows_of 5 R_hire_a_chances)))))), (hire_a_rate, .inl (k_hire_a_rate, 3, .inl f_hire_a_rate)), (hire_a_mark, .inl (k_hire_a_mark, 2, .inl f_hire_a_mark))] ++ va_pl LP fp) := hD
  refine lv_iconst (v := 0) hx hb dX4_listColumns_10 (by decide) ?_
  refine lv_istore_n (lv' := [(1, .int 0), (0, .ref o)]) hx hb dX4_listColumns_11 rfl hl (by decide) rfl (fun ls hl => ?_)
  refine tl_loop (I := fun nn H locs ls => ∃ (v1 : Int32) (v2 : Int32) (v3 : Int32) (f4 : Nat → Int32) (f5 : Nat → Int32) (f6 : Nat → Int32), nn = (4 - v1.toInt).toNat ∧ iv v1 0 4 ∧ iv v2 0 12 ∧ iv v3 0 12 ∧ ivf f4 0 3 ∧ (v3.toInt ≤ v2.toInt) ∧  va_P (dC, dI) vwCl ([(o, .inr (4, [.ref a_above, .long v_aboveLower, .ref o_table, .ref a_columnSign, .ref a_columnRate, .ref a_columnRoom, .int v2, .int v3, .ref o_hire, .int v_work, .int v_keptSign, .int v_joinedSign])), (a_columnSign, .inl (k_a_columnSign, 12, .inl f4)), (a_columnRate, .inl (k_a_columnRate, 12, .inl f5)), (a_columnRoom, .inl (k_a_columnRoom, 12, .inl f6)), (o_hire, .inr (3, [.int hire_v_signs, .int hire_v_works, .int hire_v_whole, .int hire_v_otherwise, .int hire_v_least, .int hire_v_rates, .ref hire_a_brings, .ref hire_a_costs, .ref hire_a_chances, .ref hire_a_rate, .ref hire_a_mark])), (hire_a_chances, .inl (k_hire_a_chances, 5, .inr (.inr (.inr (.inr (rows_of 5 R_hire_a_chances)))))), (hire_a_rate, .inl (k_hire_a_rate, 3, .inl f_hire_a_rate)), (hire_a_mark, .inl (k_hire_a_mark, 2, .inl f_hire_a_mark))] ++ va_pl LP fp) H ∧ va_D A ([(o, .inr (4, [.ref a_above, .long v_aboveLower, .ref o_table, .ref a_columnSign, .ref a_columnRate, .ref a_columnRoom, .int v2, .int v3, .ref o_hire, .int v_work, .int v_keptSign, .int v_joinedSign])), (a_columnSign, .inl (k_a_columnSign, 12, .inl f4)), (a_columnRate, .inl (k_a_columnRate, 12, .inl f5)), (a_columnRoom, .inl (k_a_columnRoom, 12, .inl f6)), (o_hire, .inr (3, [.int hire_v_signs, .int hire_v_works, .int hire_v_whole, .int hire_v_otherwise, .int hire_v_least, .int hire_v_rates, .ref hire_a_brings, .ref hire_a_costs, .ref hire_a_chances, .ref hire_a_rate, .ref hire_a_mark])), (hire_a_chances, .inl (k_hire_a_chances, 5, .inr (.inr (.inr (.inr (rows_of 5 R_hire_a_chances)))))), (hire_a_rate, .inl (k_hire_a_rate, 3, .inl f_hire_a_rate)), (hire_a_mark, .inl (k_hire_a_mark, 2, .inl f_hire_a_mark))] ++ va_pl LP fp) ∧ va_S A s.heap H locs ∧ lv_has ls 2 [(1, .int v1), (0, .ref o)]) ?_ ⟨0, 0, 0, f_a_columnSign, f_a_columnRate, f_a_columnRoom, rfl, (iv.m (by decide)), (iv.m (by decide)), (iv.m (by decide)), hf_a_columnSign, (by first | omega | (simp; done) | grind), hP, hD, hS, lv_sub hl [0, 1] rfl⟩
  clear hP hD hS hl
  intro nn12 H locs ls hI ih12
  obtain ⟨v1, v2, v3, f4, f5, f6, hn12, hv1, hv2, hv3, hf4, hi12_0, hP, hD, hS, hl⟩ := hI
  have bv1 := hv1.u
  refine lv_iload_n hx hb dX4_listColumns_12 rfl (lv_at hl 0 rfl) ?_
  refine lv_aload_n hx hb dX4_listColumns_13 rfl (lv_at hl 1 rfl) ?_
  refine va_get (D := (dC, dI)) (ci := 4) (v := .ref o_hire) (C := RX4) (T := TX4) (N := 12) hx hb hts iw_X4_listColumns_X4 hown hK hP 0 rfl rfl 8 (by decide) (hts _ kk_X4_listColumns_2) (fun _ h9 => h9) rfl dX4_listColumns_14 ?_
  refine va_get (D := (dC, dI)) (ci := 3) (v := .int hire_v_signs) (C := RX3) (T := TX3) (N := 11) hx hb hts iw_X4_listColumns_X3 hown hK hP 4 rfl rfl 0 (by decide) (hts _ kk_X4_listColumns_3) (fun _ h9 => h9) rfl dX4_listColumns_17 ?_
  have bhire_v_signs := hhire_v_signs.u
  refine lv_icmp_ge (tgt := 46) hx hb dX4_listColumns_20 (by decide) (fun c7 => ?_) (fun c7 => ?_)
  · have c79 := i32_le c7 rfl rfl
    have hP9 := hP.part (cx := [(o, .inr (4, [.ref a_above, .long v_aboveLower, .ref o_table, .ref a_columnSign, .ref a_columnRate, .ref a_columnRoom, .int v2, .int v3, .ref o_hire, .int v_work, .int v_keptSign, .int v_joinedSign])), (a_columnSign, .inl (k_a_columnSign, 12, .inl f4)), (a_columnRate, .inl (k_a_columnRate, 12, .inl f5)), (a_columnRoom, .inl (k_a_columnRoom, 12, .inl f6)), (o_hire, .inr (3, [.int hire_v_signs, .int hire_v_works, .int hire_v_whole, .int hire_v_otherwise, .int hire_v_least, .int hire_v_rates, .ref hire_a_brings, .ref hire_a_costs, .ref hire_a_chances, .ref hire_a_rate, .ref hire_a_mark])), (hire_a_chances, .inl (k_hire_a_chances, 5, .inr (.inr (.inr (.inr (rows_of 5 R_hire_a_chances)))))), (hire_a_rate, .inl (k_hire_a_rate, 3, .inl f_hire_a_rate)), (hire_a_mark, .inl (k_hire_a_mark, 2, .inl f_hire_a_mark))]) [0, 1, 2, 3, 4, 5, 6, 7] rfl
    have hD9 := hD.part (cx := [(o, .inr (4, [.ref a_above, .long v_aboveLower, .ref o_table, .ref a_columnSign, .ref a_columnRate, .ref a_columnRoom, .int v2, .int v3, .ref o_hire, .int v_work, .int v_keptSign, .int v_joinedSign])), (a_columnSign, .inl (k_a_columnSign, 12, .inl f4)), (a_columnRate, .inl (k_a_columnRate, 12, .inl f5)), (a_columnRoom, .inl (k_a_columnRoom, 12, .inl f6)), (o_hire, .inr (3, [.int hire_v_signs, .int hire_v_works, .int hire_v_whole, .int hire_v_otherwise, .int hire_v_least, .int hire_v_rates, .ref hire_a_brings, .ref hire_a_costs, .ref hire_a_chances, .ref hire_a_rate, .ref hire_a_mark])), (hire_a_chances, .inl (k_hire_a_chances, 5, .inr (.inr (.inr (.inr (rows_of 5 R_hire_a_chances)))))), (hire_a_rate, .inl (k_hire_a_rate, 3, .inl f_hire_a_rate)), (hire_a_mark, .inl (k_hire_a_mark, 2, .inl f_hire_a_mark))]) [0, 1, 2, 3, 4, 5, 6, 7] (by decide) rfl
    exact W.vret hx hb hr (fun t ht hW => ⟨⟨(), rfl, trivial, v2, v3, f4, f5, f6, hv2, hv3, hf4, by rw [ht]; exact hP9, hD9⟩, hS.F ht⟩) hS.2.2 dX4_listColumns_46
  · have c79 := i32_nle c7 rfl rfl
    refine lv_aload_n hx hb dX4_listColumns_23 rfl (lv_at hl 1 rfl) ?_
    refine lv_aload_n hx hb dX4_listColumns_24 rfl (lv_at hl 1 rfl) ?_
    refine va_get (D := (dC, dI)) (ci := 4) (v := .int v_work) (C := RX4) (T := TX4) (N := 12) hx hb hts iw_X4_listColumns_X4 hown hK hP 0 rfl rfl 9 (by decide) (hts _ kk_X4_listColumns_4) (fun _ h9 => h9) rfl dX4_listColumns_25 ?_
    refine lv_iload_n hx hb dX4_listColumns_28 rfl (lv_at hl 0 rfl) ?_
    have bv_keptSign := hv_keptSign.u
    have bv_joinedSign := hv_joinedSign.u
    have hPc := hP.part (cx := [(o, .inr (4, [.ref a_above, .long v_aboveLower, .ref o_table, .ref a_columnSign, .ref a_columnRate, .ref a_columnRoom, .int v2, .int v3, .ref o_hire, .int v_work, .int v_keptSign, .int v_joinedSign])), (o_hire, .inr (3, [.int hire_v_signs, .int hire_v_works, .int hire_v_whole, .int hire_v_otherwise, .int hire_v_least, .int hire_v_rates, .ref hire_a_brings, .ref hire_a_costs, .ref hire_a_chances, .ref hire_a_rate, .ref hire_a_mark])), (hire_a_chances, .inl (k_hire_a_chances, 5, .inr (.inr (.inr (.inr (rows_of 5 R_hire_a_chances))))))]) [0, 4, 5] rfl
    have hDc := hD.part (cx := [(o, .inr (4, [.ref a_above, .long v_aboveLower, .ref o_table, .ref a_columnSign, .ref a_columnRate, .ref a_columnRoom, .int v2, .int v3, .ref o_hire, .int v_work, .int v_keptSign, .int v_joinedSign])), (o_hire, .inr (3, [.int hire_v_signs, .int hire_v_works, .int hire_v_whole, .int hire_v_otherwise, .int hire_v_least, .int hire_v_rates, .ref hire_a_brings, .ref hire_a_costs, .ref hire_a_chances, .ref hire_a_rate, .ref hire_a_mark])), (hire_a_chances, .inl (k_hire_a_chances, 5, .inr (.inr (.inr (.inr (rows_of 5 R_hire_a_chances))))))]) [0, 4, 5] (by decide) rfl
    have hKc := hK.sub (tys' := [(k_hire_a_chances, (.array .int)), (cI, .int), (cJ, .long)]) [3, 6, 7] rfl
    have hFc := va_freeP (cx := [(o, .inr (4, [.ref a_above, .long v_aboveLower, .ref o_table, .ref a_columnSign, .ref a_columnRate, .ref a_columnRoom, .int v2, .int v3, .ref o_hire, .int v_work, .int v_keptSign, .int v_joinedSign])), (o_hire, .inr (3, [.int hire_v_signs, .int hire_v_works, .int hire_v_whole, .int hire_v_otherwise, .int hire_v_least, .int hire_v_rates, .ref hire_a_brings, .ref hire_a_costs, .ref hire_a_chances, .ref hire_a_rate, .ref hire_a_mark])), (hire_a_chances, .inl (k_hire_a_chances, 5, .inr (.inr (.inr (.inr (rows_of 5 R_hire_a_chances))))))]) hD hS hA [0, 4, 5] rfl
    refine va_calli (va_runV (As := [.int v_work, .int v1]) (rest := []) ⟨hx, hb, hml, hown, hts⟩ (ct_X4_chanceOf l dC dI o v_work v1 a_above v_aboveLower o_table a_columnSign a_columnRate a_columnRoom v2 v3 o_hire v_work v_keptSign v_joinedSign hire_v_signs hire_v_works hire_v_whole hire_v_otherwise hire_v_least hire_v_rates hire_a_brings hire_a_costs hire_a_chances hire_a_rate hire_a_mark k_hire_a_chances R_hire_a_chances LP sh fp cI cJ hv_work (iv.m (by omega)) hv_keptSign hv_joinedSign hfp hRR_hire_a_chances (by first | omega | (simp; done) | decide) H.size) (cwV 2 hts gX4_listColumns_X4_chanceOf rfl rfl rfl (by decide +kernel) ⟨Nat.le_of_ble_eq_true rfl, Nat.le_of_ble_eq_true rfl⟩) ⟨fun a U g mk q => by obtain ⟨q0, q1, qP, qK, qD⟩ := q; exact ⟨q0, q1, qP, va_K.moved (u := U) (U := U.calling g mk a) (Vm.Alike.refl U.vm) qK, qD⟩, va_recv hKc hPc (ci := 4) (q0 := 0) rfl rfl, fun U hU hW => ⟨rfl, by rw [hU], by rw [hU]; exact hPc, va_K.moved hW.alike hKc, hDc.weaken (fun _ _ _ _ => trivial)⟩⟩ rfl rfl hl.1 rfl (lv_room (Nat.le_of_ble_eq_true rfl)) dX4_listColumns_29 ⟨Nat.le_of_ble_eq_true rfl, Nat.le_of_ble_eq_true rfl⟩) hS (fun q _ h => hFc q h) hFc (fun r8 u t H1 locs ht hvm hw hB hz1 hk1 hS => ?_)
    have hw : r8 = u := hw.symm
    subst hw
    obtain ⟨hr8, hP1, hD1⟩ := hB
    rw [ht] at hP1
    obtain ⟨hP, hD⟩ := va_joinP (X := [(o, .inr (4, [.ref a_above, .long v_aboveLower, .ref o_table, .ref a_columnSign, .ref a_columnRate, .ref a_columnRoom, .int v2, .int v3, .ref o_hire, .int v_work, .int v_keptSign, .int v_joinedSign])), (a_columnSign, .inl (k_a_columnSign, 12, .inl f4)), (a_columnRate, .inl (k_a_columnRate, 12, .inl f5)), (a_columnRoom, .inl (k_a_columnRoom, 12, .inl f6)), (o_hire, .inr (3, [.int hire_v_signs, .int hire_v_works, .int hire_v_whole, .int hire_v_otherwise, .int hire_v_least, .int hire_v_rates, .ref hire_a_brings, .ref hire_a_costs, .ref hire_a_chances, .ref hire_a_rate, .ref hire_a_mark])), (hire_a_chances, .inl (k_hire_a_chances, 5, .inr (.inr (.inr (.inr (rows_of 5 R_hire_a_chances)))))), (hire_a_rate, .inl (k_hire_a_rate, 3, .inl f_hire_a_rate)), (hire_a_mark, .inl (k_hire_a_mark, 2, .inl f_hire_a_mark))]) (cx := [(o, .inr (4, [.ref a_above, .long v_aboveLower, .ref o_table, .ref a_columnSign, .ref a_columnRate, .ref a_columnRoom, .int v2, .int v3, .ref o_hire, .int v_work, .int v_keptSign, .int v_joinedSign])), (o_hire, .inr (3, [.int hire_v_signs, .int hire_v_works, .int hire_v_whole, .int hire_v_otherwise, .int hire_v_least, .int hire_v_rates, .ref hire_a_brings, .ref hire_a_costs, .ref hire_a_chances, .ref hire_a_rate, .ref hire_a_mark])), (hire_a_chances, .inl (k_hire_a_chances, 5, .inr (.inr (.inr (.inr (rows_of 5 R_hire_a_chances))))))]) (wr := [(a_columnSign, .inl (k_a_columnSign, 12, .inl f4)), (a_columnRate, .inl (k_a_columnRate, 12, .inl f5)), (a_columnRoom, .inl (k_a_columnRoom, 12, .inl f6)), (hire_a_rate, .inl (k_hire_a_rate, 3, .inl f_hire_a_rate)), (hire_a_mark, .inl (k_hire_a_mark, 2, .inl f_hire_a_mark))]) (rx := [(o, .inr (4, [.ref a_above, .long v_aboveLower, .ref o_table, .ref a_columnSign, .ref a_columnRate, .ref a_columnRoom, .int v2, .int v3, .ref o_hire, .int v_work, .int v_keptSign, .int v_joinedSign])), (o_hire, .inr (3, [.int hire_v_signs, .int hire_v_works, .int hire_v_whole, .int hire_v_otherwise, .int hire_v_least, .int hire_v_rates, .ref hire_a_brings, .ref hire_a_costs, .ref hire_a_chances, .ref hire_a_rate, .ref hire_a_mark])), (hire_a_chances, .inl (k_hire_a_chances, 5, .inr (.inr (.inr (.inr (rows_of 5 R_hire_a_chances))))))]) hP hD [0, 4, 5] [1, 2, 3, 6, 7] rfl rfl (by decide) (by decide) hk1 hFc hP1 hD1
    clear hPc hDc hKc hFc hP1 hD1 hk1 hz1
    generalize H1 = H at hP hS ⊢
    have hP : va_P (dC, dI) vwCl ([(a_columnSign, .inl (k_a_columnSign, 12, .inl f4)), (a_columnRate, .inl (k_a_columnRate, 12, .inl f5)), (a_columnRoom, .inl (k_a_columnRoom, 12, .inl f6)), (hire_a_rate, .inl (k_hire_a_rate, 3, .inl f_hire_a_rate)), (hire_a_mark, .inl (k_hire_a_mark, 2, .inl f_hire_a_mark)), (o, .inr (4, [.ref a_above, .long v_aboveLower, .ref o_table, .ref a_columnSign, .ref a_columnRate, .ref a_columnRoom, .int v2, .int v3, .ref o_hire, .int v_work, .int v_keptSign, .int v_joinedSign])), (o_hire, .inr (3, [.int hire_v_signs, .int hire_v_works, .int hire_v_whole, .int hire_v_otherwise, .int hire_v_least, .int hire_v_rates, .ref hire_a_brings, .ref hire_a_costs, .ref hire_a_chances, .ref hire_a_rate, .ref hire_a_mark])), (hire_a_chances, .inl (k_hire_a_chances, 5, .inr (.inr (.inr (.inr (rows_of 5 R_hire_a_chances))))))] ++ va_pl LP fp) H := hP
    have hD : va_D A ([(a_columnSign, .inl (k_a_columnSign, 12, .inl f4)), (a_columnRate, .inl (k_a_columnRate, 12, .inl f5)), (a_columnRoom, .inl (k_a_columnRoom, 12, .inl f6)), (hire_a_rate, .inl (k_hire_a_rate, 3, .inl f_hire_a_rate)), (hire_a_mark, .inl (k_hire_a_mark, 2, .inl f_hire_a_mark)), (o, .inr (4, [.ref a_above, .long v_aboveLower, .ref o_table, .ref a_columnSign, .ref a_columnRate, .ref a_columnRoom, .int v2, .int v3, .ref o_hire, .int v_work, .int v_keptSign, .int v_joinedSign])), (o_hire, .inr (3, [.int hire_v_signs, .int hire_v_works, .int hire_v_whole, .int hire_v_otherwise, .int hire_v_least, .int hire_v_rates, .ref hire_a_brings, .ref hire_a_costs, .ref hire_a_chances, .ref hire_a_rate, .ref hire_a_mark])), (hire_a_chances, .inl (k_hire_a_chances, 5, .inr (.inr (.inr (.inr (rows_of 5 R_hire_a_chances))))))] ++ va_pl LP fp) := hD
    refine W.widen (k := 0) (n := 0) (by decide) (by decide) ?_
    have br8 := hr8.u
    refine lv_if_le (tgt := 40) hx hb dX4_listColumns_32 (by decide) (fun c9 => ?_) (fun c9 => ?_)
    · have c99 := i32_le c9 rfl (show (0 : Int32).toInt = 0 by decide)
      obtain ⟨x10, ex10⟩ : ∃ z : Int32, v1 + Int32.ofInt 1 = z := ⟨_, rfl⟩
      have tx10 := i32_inc ex10 rfl (by decide) (by omega) (by omega)
      refine lv_iinc (v := x10) (lv' := [(1, .int x10), (0, .ref o)]) hx hb dX4_listColumns_40 hl (k := 0) rfl ex10 (by decide) rfl (fun ls hl => ?_)
      refine lv_goto (tgt := 12) hx hb dX4_listColumns_43 (by decide) ?_
      have bv2 := hv2.u
      have bv3 := hv3.u
      exact ih12 _ _ _ _ (by omega) ⟨x10, v2, v3, f4, f5, f6, rfl, (iv.m (by omega)), hv2, hv3, hf4, (by first | omega | (simp; done) | grind), hP.part [5, 0, 1, 2, 6, 7, 3, 4] rfl, hD.part [5, 0, 1, 2, 6, 7, 3, 4] (by decide) rfl, hS, lv_sub hl [0, 1] rfl⟩
    · have c99 := i32_nle c9 rfl (show (0 : Int32).toInt = 0 by decide)
      refine lv_aload_n hx hb dX4_listColumns_35 rfl (lv_at hl 1 rfl) ?_
      refine lv_iload_n hx hb dX4_listColumns_36 rfl (lv_at hl 0 rfl) ?_
      have bv3 := hv3.u
      have bv2 := hv2.u
      have hPc := hP.sub (ws' := [(o, .inr (4, [.ref a_above, .long v_aboveLower, .ref o_table, .ref a_columnSign, .ref a_columnRate, .ref a_columnRoom, .int v2, .int v3, .ref o_hire, .int v_work, .int v_keptSign, .int v_joinedSign])), (a_columnSign, .inl (k_a_columnSign, 12, .inl f4)), (a_columnRate, .inl (k_a_columnRate, 12, .inl f5)), (a_columnRoom, .inl (k_a_columnRoom, 12, .inl f6)), (o_hire, .inr (3, [.int hire_v_signs, .int hire_v_works, .int hire_v_whole, .int hire_v_otherwise, .int hire_v_least, .int hire_v_rates, .ref hire_a_brings, .ref hire_a_costs, .ref hire_a_chances, .ref hire_a_rate, .ref hire_a_mark])), (hire_a_rate, .inl (k_hire_a_rate, 3, .inl f_hire_a_rate)), (hire_a_mark, .inl (k_hire_a_mark, 2, .inl f_hire_a_mark))]) [5, 0, 1, 2, 6, 3, 4] rfl
      have hDc := hD.sub (ws' := [(o, .inr (4, [.ref a_above, .long v_aboveLower, .ref o_table, .ref a_columnSign, .ref a_columnRate, .ref a_columnRoom, .int v2, .int v3, .ref o_hire, .int v_work, .int v_keptSign, .int v_joinedSign])), (a_columnSign, .inl (k_a_columnSign, 12, .inl f4)), (a_columnRate, .inl (k_a_columnRate, 12, .inl f5)), (a_columnRoom, .inl (k_a_columnRoom, 12, .inl f6)), (o_hire, .inr (3, [.int hire_v_signs, .int hire_v_works, .int hire_v_whole, .int hire_v_otherwise, .int hire_v_least, .int hire_v_rates, .ref hire_a_brings, .ref hire_a_costs, .ref hire_a_chances, .ref hire_a_rate, .ref hire_a_mark])), (hire_a_rate, .inl (k_hire_a_rate, 3, .inl f_hire_a_rate)), (hire_a_mark, .inl (k_hire_a_mark, 2, .inl f_hire_a_mark))]) [5, 0, 1, 2, 6, 3, 4] (by decide) rfl
      have hKc := hK.sub (tys' := [(k_a_columnSign, .int), (k_a_columnRate, .int), (k_a_columnRoom, .int), (k_hire_a_rate, .int), (k_hire_a_mark, .int)]) [0, 1, 2, 4, 5] rfl
      have hFc := va_free (wc := [(o, .inr (4, [.ref a_above, .long v_aboveLower, .ref o_table, .ref a_columnSign, .ref a_columnRate, .ref a_columnRoom, .int v2, .int v3, .ref o_hire, .int v_work, .int v_keptSign, .int v_joinedSign])), (a_columnSign, .inl (k_a_columnSign, 12, .inl f4)), (a_columnRate, .inl (k_a_columnRate, 12, .inl f5)), (a_columnRoom, .inl (k_a_columnRoom, 12, .inl f6)), (o_hire, .inr (3, [.int hire_v_signs, .int hire_v_works, .int hire_v_whole, .int hire_v_otherwise, .int hire_v_least, .int hire_v_rates, .ref hire_a_brings, .ref hire_a_costs, .ref hire_a_chances, .ref hire_a_rate, .ref hire_a_mark])), (hire_a_rate, .inl (k_hire_a_rate, 3, .inl f_hire_a_rate)), (hire_a_mark, .inl (k_hire_a_mark, 2, .inl f_hire_a_mark))]) hD hS hA [5, 0, 1, 2, 6, 3, 4] rfl
      refine va_callv (va_runV (As := [.int v1]) (rest := []) ⟨hx, hb, hml, hown, hts⟩ (ct_X4_listSteps l dC dI o v1 a_above v_aboveLower o_table a_columnSign a_columnRate a_columnRoom v2 v3 o_hire v_work v_keptSign v_joinedSign k_a_columnSign f4 k_a_columnRate f5 k_a_columnRoom f6 hire_v_signs hire_v_works hire_v_whole hire_v_otherwise hire_v_least hire_v_rates hire_a_brings hire_a_costs hire_a_chances hire_a_rate hire_a_mark k_hire_a_rate f_hire_a_rate k_hire_a_mark f_hire_a_mark (iv.m (by omega)) hv2 hv3 hf4 hhire_v_rates (by first | omega | (simp; done) | decide) H.size) (cwV 1 hts gX4_listColumns_X4_listSteps rfl rfl rfl (by decide +kernel) ⟨Nat.le_of_ble_eq_true rfl, Nat.le_of_ble_eq_true rfl⟩) ⟨fun a U g mk q => by obtain ⟨q0, q1, qP, qK, qD⟩ := q; exact ⟨q0, q1, qP, va_K.moved (u := U) (U := U.calling g mk a) (Vm.Alike.refl U.vm) qK, qD⟩, va_recv hKc hPc (ci := 4) (q0 := 0) rfl rfl, fun U hU hW => ⟨rfl, by rw [hU], by rw [hU]; exact hPc, va_K.moved hW.alike hKc, hDc.weaken (fun _ _ _ _ => trivial)⟩⟩ rfl rfl hl.1 rfl (lv_room (Nat.le_of_ble_eq_true rfl)) dX4_listColumns_37 ⟨Nat.le_of_ble_eq_true rfl, Nat.le_of_ble_eq_true rfl⟩) hS (fun q _ h => hFc q h) hFc (fun u t H1 locs ht hvm hw hB hz1 hk1 hS => ?_)
      obtain ⟨v12, v13, f14, f15, f16, hv12, hv13, hf14, w17, hP1, hD1⟩ := hB
      rw [ht] at hP1
      obtain ⟨hP, hD⟩ := va_joinQ (X := [(a_columnSign, .inl (k_a_columnSign, 12, .inl f4)), (a_columnRate, .inl (k_a_columnRate, 12, .inl f5)), (a_columnRoom, .inl (k_a_columnRoom, 12, .inl f6)), (hire_a_rate, .inl (k_hire_a_rate, 3, .inl f_hire_a_rate)), (hire_a_mark, .inl (k_hire_a_mark, 2, .inl f_hire_a_mark)), (o, .inr (4, [.ref a_above, .long v_aboveLower, .ref o_table, .ref a_columnSign, .ref a_columnRate, .ref a_columnRoom, .int v2, .int v3, .ref o_hire, .int v_work, .int v_keptSign, .int v_joinedSign])), (o_hire, .inr (3, [.int hire_v_signs, .int hire_v_works, .int hire_v_whole, .int hire_v_otherwise, .int hire_v_least, .int hire_v_rates, .ref hire_a_brings, .ref hire_a_costs, .ref hire_a_chances, .ref hire_a_rate, .ref hire_a_mark])), (hire_a_chances, .inl (k_hire_a_chances, 5, .inr (.inr (.inr (.inr (rows_of 5 R_hire_a_chances))))))]) (cx := [(o, .inr (4, [.ref a_above, .long v_aboveLower, .ref o_table, .ref a_columnSign, .ref a_columnRate, .ref a_columnRoom, .int v2, .int v3, .ref o_hire, .int v_work, .int v_keptSign, .int v_joinedSign])), (a_columnSign, .inl (k_a_columnSign, 12, .inl f4)), (a_columnRate, .inl (k_a_columnRate, 12, .inl f5)), (a_columnRoom, .inl (k_a_columnRoom, 12, .inl f6)), (o_hire, .inr (3, [.int hire_v_signs, .int hire_v_works, .int hire_v_whole, .int hire_v_otherwise, .int hire_v_least, .int hire_v_rates, .ref hire_a_brings, .ref hire_a_costs, .ref hire_a_chances, .ref hire_a_rate, .ref hire_a_mark])), (hire_a_rate, .inl (k_hire_a_rate, 3, .inl f_hire_a_rate)), (hire_a_mark, .inl (k_hire_a_mark, 2, .inl f_hire_a_mark))]) (wr := [(hire_a_chances, .inl (k_hire_a_chances, 5, .inr (.inr (.inr (.inr (rows_of 5 R_hire_a_chances))))))]) (w1 := [(o, .inr (4, [.ref a_above, .long v_aboveLower, .ref o_table, .ref a_columnSign, .ref a_columnRate, .ref a_columnRoom, .int v12, .int v13, .ref o_hire, .int v_work, .int v_keptSign, .int v_joinedSign])), (a_columnSign, .inl (k_a_columnSign, 12, .inl f14)), (a_columnRate, .inl (k_a_columnRate, 12, .inl f15)), (a_columnRoom, .inl (k_a_columnRoom, 12, .inl f16)), (o_hire, .inr (3, [.int hire_v_signs, .int hire_v_works, .int hire_v_whole, .int hire_v_otherwise, .int hire_v_least, .int hire_v_rates, .ref hire_a_brings, .ref hire_a_costs, .ref hire_a_chances, .ref hire_a_rate, .ref hire_a_mark])), (hire_a_rate, .inl (k_hire_a_rate, 3, .inl f_hire_a_rate)), (hire_a_mark, .inl (k_hire_a_mark, 2, .inl f_hire_a_mark))]) hP hD [5, 0, 1, 2, 6, 3, 4] [7] rfl rfl (by decide) (by decide) hk1 hFc hP1 hD1
      clear hPc hDc hKc hFc hP1 hD1 hk1 hz1
      generalize H1 = H at hP hS ⊢
      have hP : va_P (dC, dI) vwCl ([(hire_a_chances, .inl (k_hire_a_chances, 5, .inr (.inr (.inr (.inr (rows_of 5 R_hire_a_chances)))))), (o, .inr (4, [.ref a_above, .long v_aboveLower, .ref o_table, .ref a_columnSign, .ref a_columnRate, .ref a_columnRoom, .int v12, .int v13, .ref o_hire, .int v_work, .int v_keptSign, .int v_joinedSign])), (a_columnSign, .inl (k_a_columnSign, 12, .inl f14)), (a_columnRate, .inl (k_a_columnRate, 12, .inl f15)), (a_columnRoom, .inl (k_a_columnRoom, 12, .inl f16)), (o_hire, .inr (3, [.int hire_v_signs, .int hire_v_works, .int hire_v_whole, .int hire_v_otherwise, .int hire_v_least, .int hire_v_rates, .ref hire_a_brings, .ref hire_a_costs, .ref hire_a_chances, .ref hire_a_rate, .ref hire_a_mark])), (hire_a_rate, .inl (k_hire_a_rate, 3, .inl f_hire_a_rate)), (hire_a_mark, .inl (k_hire_a_mark, 2, .inl f_hire_a_mark))] ++ va_pl LP fp) H := hP
      have hD : va_D A ([(hire_a_chances, .inl (k_hire_a_chances, 5, .inr (.inr (.inr (.inr (rows_of 5 R_hire_a_chances)))))), (o, .inr (4, [.ref a_above, .long v_aboveLower, .ref o_table, .ref a_columnSign, .ref a_columnRate, .ref a_columnRoom, .int v12, .int v13, .ref o_hire, .int v_work, .int v_keptSign, .int v_joinedSign])), (a_columnSign, .inl (k_a_columnSign, 12, .inl f14)), (a_columnRate, .inl (k_a_columnRate, 12, .inl f15)), (a_columnRoom, .inl (k_a_columnRoom, 12, .inl f16)), (o_hire, .inr (3, [.int hire_v_signs, .int hire_v_works, .int hire_v_whole, .int hire_v_otherwise, .int hire_v_least, .int hire_v_rates, .ref hire_a_brings, .ref hire_a_costs, .ref hire_a_chances, .ref hire_a_rate, .ref hire_a_mark])), (hire_a_rate, .inl (k_hire_a_rate, 3, .inl f_hire_a_rate)), (hire_a_mark, .inl (k_hire_a_mark, 2, .inl f_hire_a_mark))] ++ va_pl LP fp) := hD
      refine W.widen (k := 0) (n := 0) (by decide) (by decide) ?_
      have bv13 := hv13.u
      have bv12 := hv12.u
      obtain ⟨x18, ex18⟩ : ∃ z : Int32, v1 + Int32.ofInt 1 = z := ⟨_, rfl⟩
      have tx18 := i32_inc ex18 rfl (by decide) (by omega) (by omega)
      refine lv_iinc (v := x18) (lv' := [(1, .int x18), (0, .ref o)]) hx hb dX4_listColumns_40 hl (k := 0) rfl ex18 (by decide) rfl (fun ls hl => ?_)
      refine lv_goto (tgt := 12) hx hb dX4_listColumns_43 (by decide) ?_
      exact ih12 _ _ _ _ (by omega) ⟨x18, v12, v13, f14, f15, f16, rfl, (iv.m (by omega)), hv12, hv13, hf14, (by first | omega | (simp; done) | grind), hP.part [1, 2, 3, 4, 5, 0, 6, 7] rfl, hD.part [1, 2, 3, 4, 5, 0, 6, 7] (by decide) rfl, hS, lv_sub hl [0, 1] rfl⟩

set_option maxHeartbeats 4000000 in
set_option maxRecDepth 100000 in
theorem ct_J7_fill_d0a16_R13 (l : Launch) (dC : Nat → ClassId) (dI : Nat → Nat → Nat) (p0 : Nat) (p1 : Int64) (LP : List Nat) (sh : Nat → Nat) (fp : Nat → va_E) (cI : ClassId) (cJ : ClassId) (hfp : pok cI cJ LP sh fp) (mp0 : p0 ∈ LP ∧ sh p0 = 13) (sz : Nat) : Met l yJ7_fill_d0a16 wsJ7_fill_d0a16 ({ frames := 0, cells := 0, slots := 0, locals := 0 }) (va_Pc [.ref p0, .long p1] (fun U => U.heap.size = sz ∧ va_P (dC, dI) vwCl ([] ++ va_pl LP fp) U.heap ∧ va_K (dC, dI) vwCl [(cI, .int), (cJ, .long)] U ∧ va_D (fun _ => True) ([] ++ va_pl LP fp))) (va_Qv (fun _ : Unit => True) (fun _ t => ∃ (e_fp : Nat → va_E), pok cI cJ LP sh e_fp ∧ va_P (dC, dI) vwCl ([] ++ va_pl LP e_fp) t.heap ∧ va_D (va_A ([] ++ va_pl LP fp) sz) ([] ++ va_pl LP e_fp)) (va_A ([] ++ va_pl LP fp) sz)) 0 0 (va_A ([] ++ va_pl LP fp) sz) := by
  refine Met.ofW (cc := cJ7_fill_d0a16) (maxL := 5) (ret := none) (by decide) rfl ?_
  intro p e s m args below meth c s₁ B hml hv
  obtain ⟨rfl, hsz, hP, hK, hD0⟩ := hv
  have hx := B.exec
  have hb := B.bytes
  have hr := B.returns
  have hts := atoms_spec (ws := wsJ7_fill_d0a16) B.pre
  have hown : s.vm.findClass RJ7 = some m.cls := findClass_of_methodNamed B.named
  have hlocks := B.notSynchronized
  subst hsz
  have hD := hD0.self (sz := s.heap.size)
  generalize hAe : va_A ([] ++ va_pl LP fp) s.heap.size = A at hD ⊢
  have hA : ∀ q : Nat, s.heap.size ≤ q → A q := fun q h => by rw [← hAe]; exact Or.inr h
  have hS : va_S A s.heap s.heap [] := va_S.rf
  have hP : va_P (dC, dI) vwCl ([] ++ va_pl LP fp) s.heap := hP
  have hl := lv_entry ([.ref p0, .long p1]) (n := 5) (Nat.le_of_ble_eq_true rfl)
  rw [lg_entry_eq]
  generalize (lg_sl ([.ref p0, .long p1]) ++ List.replicate (5 - (lg_sl ([.ref p0, .long p1])).length) Slot.unset).toArray = ls at hl ⊢
  have hl : lv_has ls 5 [(0, .ref p0), (1, .long p1)] := hl
  refine lv_iconst (v := 0) hx hb dJ7_fill_d0a16_0 (by decide) ?_
  refine lv_istore_n (lv' := [(3, .int 0), (0, .ref p0), (1, .long p1)]) hx hb dJ7_fill_d0a16_1 rfl hl (by decide) rfl (fun ls hl => ?_)
  refine lv_aload_n hx hb dJ7_fill_d0a16_2 rfl (lv_at hl 1 rfl) ?_
  obtain ⟨gk1, hgk1⟩ := pok_13 (hfp) mp0
  obtain ⟨kk2, hkk2⟩ := va_pl_get (X := []) (f := fp) mp0.1
  rw [hgk1] at hkk2
  refine va_alen hx hb hK hP kk2 1 hkk2 rfl (v := 13) (show Int32.ofNat 13 = 13 by decide) dJ7_fill_d0a16_3 ?_
  refine lv_istore (lv' := [(4, .int 13), (3, .int 0), (0, .ref p0), (1, .long p1)]) hx hb dJ7_fill_d0a16_4 hl (by decide) rfl (fun ls hl => ?_)
  refine tl_loop (I := fun nn H locs ls => ∃ (v3 : Int32) (f4 : Nat → va_E), nn = (18 - v3.toInt).toNat ∧ iv v3 0 18 ∧ pok cI cJ LP sh f4 ∧  va_P (dC, dI) vwCl ([] ++ va_pl LP f4) H ∧ va_D A ([] ++ va_pl LP f4) ∧ va_S A s.heap H locs ∧ lv_has ls 5 [(4, .int 13), (3, .int v3), (0, .ref p0), (1, .long p1)]) ?_ ⟨0, fp, rfl, (iv.m (by decide)), hfp, hP, hD, hS, lv_sub hl [0, 1, 2, 3] rfl⟩
  clear hP hD hS hl
  intro nn6 H locs ls hI ih6
  obtain ⟨v3, f4, hn6, hv3, hf4, hP, hD, hS, hl⟩ := hI
  have bv3 := hv3.u
  refine lv_iload_n hx hb dJ7_fill_d0a16_6 rfl (lv_at hl 1 rfl) ?_
  refine lv_iload hx hb dJ7_fill_d0a16_7 (lv_at hl 0 rfl) ?_
  refine lv_icmp_ge (tgt := 22) hx hb dJ7_fill_d0a16_9 (by decide) (fun c5 => ?_) (fun c5 => ?_)
  · have c59 := i32_le c5 (show (13 : Int32).toInt = 13 by decide) rfl
    have hP9 := hP.part (cx := []) [] rfl
    have hD9 := hD.part (cx := []) [] (by decide) rfl
    exact W.vret hx hb hr (fun t ht hW => ⟨⟨(), rfl, trivial, f4, hf4, by rw [ht]; exact hP9, hD9⟩, hS.F ht⟩) hS.2.2 dJ7_fill_d0a16_22
  · have c59 := i32_nle c5 (show (13 : Int32).toInt = 13 by decide) rfl
    refine lv_aload_n hx hb dJ7_fill_d0a16_12 rfl (lv_at hl 2 rfl) ?_
    refine lv_iload_n hx hb dJ7_fill_d0a16_13 rfl (lv_at hl 1 rfl) ?_
    refine lv_lload_n hx hb dJ7_fill_d0a16_14 rfl (lv_at hl 3 rfl) ?_
    obtain ⟨gk6, hgk6⟩ := pok_13 (hf4) mp0
    obtain ⟨kk7, hkk7⟩ := va_pl_get (X := []) (f := f4) mp0.1
    have qkk7 := hkk7
    rw [hgk6] at qkk7
    have hDo := hD
    refine va_last hx hb hK hP hD hS kk7 1 qkk7 rfl (vq_in v3 13 (by omega)) dJ7_fill_d0a16_15 (fun H locs hP hD hS => ?_)
    rw [va_pl_set hDo mp0.1 hkk7] at hP hD
    have hfp8 := pok_up13 hf4 mp0 (Int32.toNatClampNeg v3) p1 gk6
    generalize va_up f4 p0 _ = fp8 at hP hD hfp8
    have hP : va_P (dC, dI) vwCl ([] ++ va_pl LP fp8) H := hP
    have hD : va_D A ([] ++ va_pl LP fp8) := hD
    obtain ⟨x9, ex9⟩ : ∃ z : Int32, v3 + Int32.ofInt 1 = z := ⟨_, rfl⟩
    have tx9 := i32_inc ex9 rfl (by decide) (by omega) (by omega)
    refine lv_iinc (v := x9) (lv' := [(3, .int x9), (4, .int 13), (0, .ref p0), (1, .long p1)]) hx hb dJ7_fill_d0a16_16 hl (k := 1) rfl ex9 (by decide) rfl (fun ls hl => ?_)
    refine lv_goto (tgt := 6) hx hb dJ7_fill_d0a16_19 (by decide) ?_
    exact ih6 _ _ _ _ (by omega) ⟨x9, fp8, rfl, (iv.m (by omega)), hfp8, hP, hD, hS, lv_sub hl [1, 0, 2, 3] rfl⟩

