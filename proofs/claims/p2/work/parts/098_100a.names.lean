abbrev wsX00 : List Cond := u_ws RX0 TX0 11
abbrev cX0_fillFelt : ByteArray := prog_2_method_3_code
def yX0_fillFelt : MethodName := ⟨RX0, "fillFelt", "(LPaidBySigns$Hire;)V"⟩
abbrev cX0_firstCoin : ByteArray := prog_2_method_7_code
def yX0_firstCoin : MethodName := ⟨RX0, "firstCoin", "(I)I"⟩
abbrev cX0_lastCoin : ByteArray := prog_2_method_8_code
def yX0_lastCoin : MethodName := ⟨RX0, "lastCoin", "(I)I"⟩
abbrev cX0_isShort : ByteArray := prog_2_method_9_code
def yX0_isShort : MethodName := ⟨RX0, "isShort", "(III)Z"⟩
abbrev wsX30 : List Cond := u_ws RX3 TX3 11
abbrev cX3_feltOf : ByteArray := prog_5_method_3_code
def yX3_feltOf : MethodName := ⟨RX3, "feltOf", "(I)I"⟩
def wsX3_feltOf : List Cond := .code yX3_feltOf cX3_feltOf 6 (some .int) :: ([.fieldLink RX3 48 "PaidBySigns$Hire" "rates" "I", .fieldLink RX3 26 "PaidBySigns$Hire" "mark" "[I", .methodLink RX3 51 Lib.Math.min.name, .static Lib.Math.min.name, .initialized "java/lang/Math", .code Lib.Math.min.name Lib.Math.min.code 2 (some .int), .fieldLink RX3 23 "PaidBySigns$Hire" "rate" "[I"] ++ wsX30)
def wsX0_fillFelt : List Cond := .code yX0_fillFelt cX0_fillFelt 4 none :: ([.fieldLink RX0 76 "PaidBySigns$Hire" "least" "I", .fieldLink RX0 20 "PaidBySigns$CoinSearch" "felt" "[I", .methodLink RX0 79 yX3_feltOf, .instanceMethod yX3_feltOf, .selects RX3 yX3_feltOf yX3_feltOf, .initialized RX3, .code yX3_feltOf cX3_feltOf 6 (some .int), .fieldLink RX3 48 "PaidBySigns$Hire" "rates" "I", .fieldLink RX3 26 "PaidBySigns$Hire" "mark" "[I", .methodLink RX3 51 Lib.Math.min.name, .static Lib.Math.min.name, .initialized "java/lang/Math", .code Lib.Math.min.name Lib.Math.min.code 2 (some .int), .fieldLink RX3 23 "PaidBySigns$Hire" "rate" "[I"] ++ wsX30 ++ wsX00)
def wsX0_isShort : List Cond := .code yX0_isShort cX0_isShort 4 (some .boolean) :: ([.fieldLink RX0 34 "PaidBySigns$CoinSearch" "left" "[[I", .fieldLink RX0 28 "PaidBySigns$CoinSearch" "share" "[[I", .fieldLink RX0 20 "PaidBySigns$CoinSearch" "felt" "[I", .fieldLink RX0 31 "PaidBySigns$CoinSearch" "rest" "[[I"] ++ wsX00)
def wsX0_lastCoin : List Cond := .code yX0_lastCoin cX0_lastCoin 4 (some .int) :: ([.fieldLink RX0 23 "PaidBySigns$CoinSearch" "own" "[I", .fieldLink RX0 58 "PaidBySigns$CoinSearch" "most" "I", .fieldLink RX0 49 "PaidBySigns$CoinSearch" "lines" "I", .fieldLink RX0 28 "PaidBySigns$CoinSearch" "share" "[[I", .methodLink RX0 108 yX0_isShort, .instanceMethod yX0_isShort, .selects RX0 yX0_isShort yX0_isShort, .initialized RX0, .code yX0_isShort cX0_isShort 4 (some .boolean), .fieldLink RX0 34 "PaidBySigns$CoinSearch" "left" "[[I", .fieldLink RX0 20 "PaidBySigns$CoinSearch" "felt" "[I", .fieldLink RX0 31 "PaidBySigns$CoinSearch" "rest" "[[I"] ++ wsX00)
def wsX0_firstCoin : List Cond := .code yX0_firstCoin cX0_firstCoin 4 (some .int) :: ([.fieldLink RX0 49 "PaidBySigns$CoinSearch" "lines" "I", .fieldLink RX0 58 "PaidBySigns$CoinSearch" "most" "I", .fieldLink RX0 28 "PaidBySigns$CoinSearch" "share" "[[I", .methodLink RX0 108 yX0_isShort, .instanceMethod yX0_isShort, .selects RX0 yX0_isShort yX0_isShort, .initialized RX0, .code yX0_isShort cX0_isShort 4 (some .boolean), .fieldLink RX0 34 "PaidBySigns$CoinSearch" "left" "[[I", .fieldLink RX0 20 "PaidBySigns$CoinSearch" "felt" "[I", .fieldLink RX0 31 "PaidBySigns$CoinSearch" "rest" "[[I"] ++ wsX00)
set_option maxRecDepth 20000 in
theorem ggX0_fillFelt_X3_feltOf : GoodIn wsX0_fillFelt wsX3_feltOf := goodIn_r _ [7, 8, 9, 10, 11, 12, 13, 14, 15, 16, 17, 18, 19, 20, 21, 22, 23, 24, 25] (by decide +kernel) (by decide +kernel)
set_option maxRecDepth 20000 in
theorem gX0_fillFelt_X3_feltOf : GoodIn wsX0_fillFelt (wsV RX0 79 RX3 yX3_feltOf wsX3_feltOf) := goodIn_app (goodIn_of _ (by decide +kernel)) ggX0_fillFelt_X3_feltOf
theorem dX0_fillFelt_0 : decode cX0_fillFelt 0 = .ok (.aload_n 1, 1) := by decide +kernel
theorem dX0_fillFelt_1 : decode cX0_fillFelt 1 = .ok (.aload_n 1, 1) := by decide +kernel
theorem dX0_fillFelt_2 : decode cX0_fillFelt 2 = .ok (.getfield 76, 3) := by decide +kernel
theorem dX0_fillFelt_5 : decode cX0_fillFelt 5 = .ok (.invokevirtual 79, 3) := by decide +kernel
theorem dX0_fillFelt_8 : decode cX0_fillFelt 8 = .ok (.istore_n 2, 1) := by decide +kernel
theorem dX0_fillFelt_9 : decode cX0_fillFelt 9 = .ok (.iconst 0, 1) := by decide +kernel
theorem dX0_fillFelt_10 : decode cX0_fillFelt 10 = .ok (.istore_n 3, 1) := by decide +kernel
theorem dX0_fillFelt_11 : decode cX0_fillFelt 11 = .ok (.iload_n 3, 1) := by decide +kernel
theorem dX0_fillFelt_12 : decode cX0_fillFelt 12 = .ok (.bipush 20, 2) := by decide +kernel
theorem dX0_fillFelt_14 : decode cX0_fillFelt 14 = .ok (.if_icmp .gt 27, 3) := by decide +kernel
theorem dX0_fillFelt_17 : decode cX0_fillFelt 17 = .ok (.aload_n 0, 1) := by decide +kernel
theorem dX0_fillFelt_18 : decode cX0_fillFelt 18 = .ok (.getfield 20, 3) := by decide +kernel
theorem dX0_fillFelt_21 : decode cX0_fillFelt 21 = .ok (.iload_n 3, 1) := by decide +kernel
theorem dX0_fillFelt_22 : decode cX0_fillFelt 22 = .ok (.aload_n 1, 1) := by decide +kernel
theorem dX0_fillFelt_23 : decode cX0_fillFelt 23 = .ok (.aload_n 1, 1) := by decide +kernel
theorem dX0_fillFelt_24 : decode cX0_fillFelt 24 = .ok (.getfield 76, 3) := by decide +kernel
theorem dX0_fillFelt_27 : decode cX0_fillFelt 27 = .ok (.iload_n 3, 1) := by decide +kernel
theorem dX0_fillFelt_28 : decode cX0_fillFelt 28 = .ok (.iadd, 1) := by decide +kernel
theorem dX0_fillFelt_29 : decode cX0_fillFelt 29 = .ok (.invokevirtual 79, 3) := by decide +kernel
theorem dX0_fillFelt_32 : decode cX0_fillFelt 32 = .ok (.iload_n 2, 1) := by decide +kernel
theorem dX0_fillFelt_33 : decode cX0_fillFelt 33 = .ok (.isub, 1) := by decide +kernel
theorem dX0_fillFelt_34 : decode cX0_fillFelt 34 = .ok (.iastore, 1) := by decide +kernel
theorem dX0_fillFelt_35 : decode cX0_fillFelt 35 = .ok (.iinc 3 1, 3) := by decide +kernel
theorem dX0_fillFelt_38 : decode cX0_fillFelt 38 = .ok (.goto (-27), 3) := by decide +kernel
theorem dX0_fillFelt_41 : decode cX0_fillFelt 41 = .ok (.return_, 1) := by decide +kernel
set_option maxRecDepth 20000 in
theorem ggX0_firstCoin_X0_isShort : GoodIn wsX0_firstCoin wsX0_isShort := goodIn_r _ [8, 9, 3, 10, 11, 12, 13, 14, 15, 16, 17, 18, 19, 20, 21, 22] (by decide +kernel) (by decide +kernel)
set_option maxRecDepth 20000 in
theorem gX0_firstCoin_X0_isShort : GoodIn wsX0_firstCoin (wsV RX0 108 RX0 yX0_isShort wsX0_isShort) := goodIn_app (goodIn_of _ (by decide +kernel)) ggX0_firstCoin_X0_isShort
theorem dX0_firstCoin_0 : decode cX0_firstCoin 0 = .ok (.iconst 0, 1) := by decide +kernel
theorem dX0_firstCoin_1 : decode cX0_firstCoin 1 = .ok (.istore_n 2, 1) := by decide +kernel
theorem dX0_firstCoin_2 : decode cX0_firstCoin 2 = .ok (.iconst 0, 1) := by decide +kernel
theorem dX0_firstCoin_3 : decode cX0_firstCoin 3 = .ok (.istore_n 3, 1) := by decide +kernel
theorem dX0_firstCoin_4 : decode cX0_firstCoin 4 = .ok (.iload_n 3, 1) := by decide +kernel
theorem dX0_firstCoin_5 : decode cX0_firstCoin 5 = .ok (.aload_n 0, 1) := by decide +kernel
theorem dX0_firstCoin_6 : decode cX0_firstCoin 6 = .ok (.getfield 49, 3) := by decide +kernel
theorem dX0_firstCoin_9 : decode cX0_firstCoin 9 = .ok (.if_icmp .ge 44, 3) := by decide +kernel
theorem dX0_firstCoin_12 : decode cX0_firstCoin 12 = .ok (.iload_n 2, 1) := by decide +kernel
theorem dX0_firstCoin_13 : decode cX0_firstCoin 13 = .ok (.aload_n 0, 1) := by decide +kernel
theorem dX0_firstCoin_14 : decode cX0_firstCoin 14 = .ok (.getfield 58, 3) := by decide +kernel
theorem dX0_firstCoin_17 : decode cX0_firstCoin 17 = .ok (.if_icmp .gt 30, 3) := by decide +kernel
theorem dX0_firstCoin_20 : decode cX0_firstCoin 20 = .ok (.aload_n 0, 1) := by decide +kernel
theorem dX0_firstCoin_21 : decode cX0_firstCoin 21 = .ok (.getfield 28, 3) := by decide +kernel
theorem dX0_firstCoin_24 : decode cX0_firstCoin 24 = .ok (.iload_n 3, 1) := by decide +kernel
theorem dX0_firstCoin_25 : decode cX0_firstCoin 25 = .ok (.aaload, 1) := by decide +kernel
theorem dX0_firstCoin_26 : decode cX0_firstCoin 26 = .ok (.iload_n 1, 1) := by decide +kernel
theorem dX0_firstCoin_27 : decode cX0_firstCoin 27 = .ok (.iaload, 1) := by decide +kernel
theorem dX0_firstCoin_28 : decode cX0_firstCoin 28 = .ok (.ifCond .lt 19, 3) := by decide +kernel
theorem dX0_firstCoin_31 : decode cX0_firstCoin 31 = .ok (.aload_n 0, 1) := by decide +kernel
theorem dX0_firstCoin_32 : decode cX0_firstCoin 32 = .ok (.iload_n 3, 1) := by decide +kernel
theorem dX0_firstCoin_33 : decode cX0_firstCoin 33 = .ok (.iload_n 1, 1) := by decide +kernel
theorem dX0_firstCoin_34 : decode cX0_firstCoin 34 = .ok (.iload_n 2, 1) := by decide +kernel
theorem dX0_firstCoin_35 : decode cX0_firstCoin 35 = .ok (.invokevirtual 108, 3) := by decide +kernel
theorem dX0_firstCoin_38 : decode cX0_firstCoin 38 = .ok (.ifCond .eq 9, 3) := by decide +kernel
theorem dX0_firstCoin_41 : decode cX0_firstCoin 41 = .ok (.iinc 2 1, 3) := by decide +kernel
theorem dX0_firstCoin_44 : decode cX0_firstCoin 44 = .ok (.goto (-32), 3) := by decide +kernel
theorem dX0_firstCoin_47 : decode cX0_firstCoin 47 = .ok (.iinc 3 1, 3) := by decide +kernel
theorem dX0_firstCoin_50 : decode cX0_firstCoin 50 = .ok (.goto (-46), 3) := by decide +kernel
theorem dX0_firstCoin_53 : decode cX0_firstCoin 53 = .ok (.iload_n 2, 1) := by decide +kernel
theorem dX0_firstCoin_54 : decode cX0_firstCoin 54 = .ok (.ireturn, 1) := by decide +kernel
set_option maxRecDepth 20000 in
theorem ggX0_lastCoin_X0_isShort : GoodIn wsX0_lastCoin wsX0_isShort := goodIn_r _ [9, 10, 4, 11, 12, 13, 14, 15, 16, 17, 18, 19, 20, 21, 22, 23] (by decide +kernel) (by decide +kernel)
set_option maxRecDepth 20000 in
theorem gX0_lastCoin_X0_isShort : GoodIn wsX0_lastCoin (wsV RX0 108 RX0 yX0_isShort wsX0_isShort) := goodIn_app (goodIn_of _ (by decide +kernel)) ggX0_lastCoin_X0_isShort
theorem dX0_lastCoin_0 : decode cX0_lastCoin 0 = .ok (.aload_n 0, 1) := by decide +kernel
theorem dX0_lastCoin_1 : decode cX0_lastCoin 1 = .ok (.getfield 23, 3) := by decide +kernel
theorem dX0_lastCoin_4 : decode cX0_lastCoin 4 = .ok (.iload_n 1, 1) := by decide +kernel
theorem dX0_lastCoin_5 : decode cX0_lastCoin 5 = .ok (.iaload, 1) := by decide +kernel
theorem dX0_lastCoin_6 : decode cX0_lastCoin 6 = .ok (.ifCond .ne 7, 3) := by decide +kernel
theorem dX0_lastCoin_9 : decode cX0_lastCoin 9 = .ok (.iconst 0, 1) := by decide +kernel
theorem dX0_lastCoin_10 : decode cX0_lastCoin 10 = .ok (.goto 7, 3) := by decide +kernel
theorem dX0_lastCoin_13 : decode cX0_lastCoin 13 = .ok (.aload_n 0, 1) := by decide +kernel
theorem dX0_lastCoin_14 : decode cX0_lastCoin 14 = .ok (.getfield 58, 3) := by decide +kernel
theorem dX0_lastCoin_17 : decode cX0_lastCoin 17 = .ok (.istore_n 2, 1) := by decide +kernel
theorem dX0_lastCoin_18 : decode cX0_lastCoin 18 = .ok (.iconst 0, 1) := by decide +kernel
theorem dX0_lastCoin_19 : decode cX0_lastCoin 19 = .ok (.istore_n 3, 1) := by decide +kernel
theorem dX0_lastCoin_20 : decode cX0_lastCoin 20 = .ok (.iload_n 3, 1) := by decide +kernel
theorem dX0_lastCoin_21 : decode cX0_lastCoin 21 = .ok (.aload_n 0, 1) := by decide +kernel
theorem dX0_lastCoin_22 : decode cX0_lastCoin 22 = .ok (.getfield 49, 3) := by decide +kernel
theorem dX0_lastCoin_25 : decode cX0_lastCoin 25 = .ok (.if_icmp .ge 40, 3) := by decide +kernel
theorem dX0_lastCoin_28 : decode cX0_lastCoin 28 = .ok (.iload_n 2, 1) := by decide +kernel
theorem dX0_lastCoin_29 : decode cX0_lastCoin 29 = .ok (.ifCond .lt 30, 3) := by decide +kernel
theorem dX0_lastCoin_32 : decode cX0_lastCoin 32 = .ok (.aload_n 0, 1) := by decide +kernel
theorem dX0_lastCoin_33 : decode cX0_lastCoin 33 = .ok (.getfield 28, 3) := by decide +kernel
theorem dX0_lastCoin_36 : decode cX0_lastCoin 36 = .ok (.iload_n 3, 1) := by decide +kernel
theorem dX0_lastCoin_37 : decode cX0_lastCoin 37 = .ok (.aaload, 1) := by decide +kernel
theorem dX0_lastCoin_38 : decode cX0_lastCoin 38 = .ok (.iload_n 1, 1) := by decide +kernel
theorem dX0_lastCoin_39 : decode cX0_lastCoin 39 = .ok (.iaload, 1) := by decide +kernel
theorem dX0_lastCoin_40 : decode cX0_lastCoin 40 = .ok (.ifCond .ge 19, 3) := by decide +kernel
theorem dX0_lastCoin_43 : decode cX0_lastCoin 43 = .ok (.aload_n 0, 1) := by decide +kernel
theorem dX0_lastCoin_44 : decode cX0_lastCoin 44 = .ok (.iload_n 3, 1) := by decide +kernel
theorem dX0_lastCoin_45 : decode cX0_lastCoin 45 = .ok (.iload_n 1, 1) := by decide +kernel
theorem dX0_lastCoin_46 : decode cX0_lastCoin 46 = .ok (.iload_n 2, 1) := by decide +kernel
theorem dX0_lastCoin_47 : decode cX0_lastCoin 47 = .ok (.invokevirtual 108, 3) := by decide +kernel
theorem dX0_lastCoin_50 : decode cX0_lastCoin 50 = .ok (.ifCond .eq 9, 3) := by decide +kernel
theorem dX0_lastCoin_53 : decode cX0_lastCoin 53 = .ok (.iinc 2 (-1), 3) := by decide +kernel
theorem dX0_lastCoin_56 : decode cX0_lastCoin 56 = .ok (.goto (-28), 3) := by decide +kernel
theorem dX0_lastCoin_59 : decode cX0_lastCoin 59 = .ok (.iinc 3 1, 3) := by decide +kernel
theorem dX0_lastCoin_62 : decode cX0_lastCoin 62 = .ok (.goto (-42), 3) := by decide +kernel
theorem dX0_lastCoin_65 : decode cX0_lastCoin 65 = .ok (.iload_n 2, 1) := by decide +kernel
theorem dX0_lastCoin_66 : decode cX0_lastCoin 66 = .ok (.ireturn, 1) := by decide +kernel
theorem dX0_isShort_0 : decode cX0_isShort 0 = .ok (.aload_n 0, 1) := by decide +kernel
theorem dX0_isShort_1 : decode cX0_isShort 1 = .ok (.getfield 34, 3) := by decide +kernel
theorem dX0_isShort_4 : decode cX0_isShort 4 = .ok (.iload_n 2, 1) := by decide +kernel
theorem dX0_isShort_5 : decode cX0_isShort 5 = .ok (.aaload, 1) := by decide +kernel
theorem dX0_isShort_6 : decode cX0_isShort 6 = .ok (.iload_n 1, 1) := by decide +kernel
theorem dX0_isShort_7 : decode cX0_isShort 7 = .ok (.iaload, 1) := by decide +kernel
theorem dX0_isShort_8 : decode cX0_isShort 8 = .ok (.aload_n 0, 1) := by decide +kernel
theorem dX0_isShort_9 : decode cX0_isShort 9 = .ok (.getfield 28, 3) := by decide +kernel
theorem dX0_isShort_12 : decode cX0_isShort 12 = .ok (.iload_n 1, 1) := by decide +kernel
theorem dX0_isShort_13 : decode cX0_isShort 13 = .ok (.aaload, 1) := by decide +kernel
theorem dX0_isShort_14 : decode cX0_isShort 14 = .ok (.iload_n 2, 1) := by decide +kernel
theorem dX0_isShort_15 : decode cX0_isShort 15 = .ok (.iaload, 1) := by decide +kernel
theorem dX0_isShort_16 : decode cX0_isShort 16 = .ok (.aload_n 0, 1) := by decide +kernel
theorem dX0_isShort_17 : decode cX0_isShort 17 = .ok (.getfield 20, 3) := by decide +kernel
theorem dX0_isShort_20 : decode cX0_isShort 20 = .ok (.iload_n 3, 1) := by decide +kernel
theorem dX0_isShort_21 : decode cX0_isShort 21 = .ok (.iaload, 1) := by decide +kernel
theorem dX0_isShort_22 : decode cX0_isShort 22 = .ok (.imul, 1) := by decide +kernel
theorem dX0_isShort_23 : decode cX0_isShort 23 = .ok (.aload_n 0, 1) := by decide +kernel
theorem dX0_isShort_24 : decode cX0_isShort 24 = .ok (.getfield 31, 3) := by decide +kernel
theorem dX0_isShort_27 : decode cX0_isShort 27 = .ok (.iload_n 1, 1) := by decide +kernel
theorem dX0_isShort_28 : decode cX0_isShort 28 = .ok (.aaload, 1) := by decide +kernel
theorem dX0_isShort_29 : decode cX0_isShort 29 = .ok (.iload_n 2, 1) := by decide +kernel
theorem dX0_isShort_30 : decode cX0_isShort 30 = .ok (.iconst 1, 1) := by decide +kernel
theorem dX0_isShort_31 : decode cX0_isShort 31 = .ok (.iadd, 1) := by decide +kernel
theorem dX0_isShort_32 : decode cX0_isShort 32 = .ok (.iaload, 1) := by decide +kernel
theorem dX0_isShort_33 : decode cX0_isShort 33 = .ok (.iadd, 1) := by decide +kernel
theorem dX0_isShort_34 : decode cX0_isShort 34 = .ok (.if_icmp .le 7, 3) := by decide +kernel
theorem dX0_isShort_37 : decode cX0_isShort 37 = .ok (.iconst 1, 1) := by decide +kernel
theorem dX0_isShort_38 : decode cX0_isShort 38 = .ok (.goto 4, 3) := by decide +kernel
theorem dX0_isShort_41 : decode cX0_isShort 41 = .ok (.iconst 0, 1) := by decide +kernel
theorem dX0_isShort_42 : decode cX0_isShort 42 = .ok (.ireturn, 1) := by decide +kernel
theorem dX3_feltOf_0 : decode cX3_feltOf 0 = .ok (.iconst 0, 1) := by decide +kernel
theorem dX3_feltOf_1 : decode cX3_feltOf 1 = .ok (.istore_n 2, 1) := by decide +kernel
theorem dX3_feltOf_2 : decode cX3_feltOf 2 = .ok (.iconst 0, 1) := by decide +kernel
theorem dX3_feltOf_3 : decode cX3_feltOf 3 = .ok (.istore_n 3, 1) := by decide +kernel
theorem dX3_feltOf_4 : decode cX3_feltOf 4 = .ok (.iconst 0, 1) := by decide +kernel
theorem dX3_feltOf_5 : decode cX3_feltOf 5 = .ok (.istore 4, 2) := by decide +kernel
theorem dX3_feltOf_7 : decode cX3_feltOf 7 = .ok (.iload 4, 2) := by decide +kernel
theorem dX3_feltOf_9 : decode cX3_feltOf 9 = .ok (.aload_n 0, 1) := by decide +kernel
theorem dX3_feltOf_10 : decode cX3_feltOf 10 = .ok (.getfield 48, 3) := by decide +kernel
theorem dX3_feltOf_13 : decode cX3_feltOf 13 = .ok (.if_icmp .ge 61, 3) := by decide +kernel
theorem dX3_feltOf_16 : decode cX3_feltOf 16 = .ok (.iload 4, 2) := by decide +kernel
theorem dX3_feltOf_18 : decode cX3_feltOf 18 = .ok (.aload_n 0, 1) := by decide +kernel
theorem dX3_feltOf_19 : decode cX3_feltOf 19 = .ok (.getfield 48, 3) := by decide +kernel
theorem dX3_feltOf_22 : decode cX3_feltOf 22 = .ok (.iconst 1, 1) := by decide +kernel
theorem dX3_feltOf_23 : decode cX3_feltOf 23 = .ok (.isub, 1) := by decide +kernel
theorem dX3_feltOf_24 : decode cX3_feltOf 24 = .ok (.if_icmp .ne 7, 3) := by decide +kernel
theorem dX3_feltOf_27 : decode cX3_feltOf 27 = .ok (.iload_n 1, 1) := by decide +kernel
theorem dX3_feltOf_28 : decode cX3_feltOf 28 = .ok (.goto 14, 3) := by decide +kernel
theorem dX3_feltOf_31 : decode cX3_feltOf 31 = .ok (.iload_n 1, 1) := by decide +kernel
theorem dX3_feltOf_32 : decode cX3_feltOf 32 = .ok (.aload_n 0, 1) := by decide +kernel
theorem dX3_feltOf_33 : decode cX3_feltOf 33 = .ok (.getfield 26, 3) := by decide +kernel
theorem dX3_feltOf_36 : decode cX3_feltOf 36 = .ok (.iload 4, 2) := by decide +kernel
theorem dX3_feltOf_38 : decode cX3_feltOf 38 = .ok (.iaload, 1) := by decide +kernel
theorem dX3_feltOf_39 : decode cX3_feltOf 39 = .ok (.invokestatic 51, 3) := by decide +kernel
theorem dX3_feltOf_42 : decode cX3_feltOf 42 = .ok (.istore 5, 2) := by decide +kernel
theorem dX3_feltOf_44 : decode cX3_feltOf 44 = .ok (.iload 5, 2) := by decide +kernel
theorem dX3_feltOf_46 : decode cX3_feltOf 46 = .ok (.iload_n 3, 1) := by decide +kernel
theorem dX3_feltOf_47 : decode cX3_feltOf 47 = .ok (.if_icmp .le 21, 3) := by decide +kernel
theorem dX3_feltOf_50 : decode cX3_feltOf 50 = .ok (.iload_n 2, 1) := by decide +kernel
theorem dX3_feltOf_51 : decode cX3_feltOf 51 = .ok (.aload_n 0, 1) := by decide +kernel
theorem dX3_feltOf_52 : decode cX3_feltOf 52 = .ok (.getfield 23, 3) := by decide +kernel
theorem dX3_feltOf_55 : decode cX3_feltOf 55 = .ok (.iload 4, 2) := by decide +kernel
theorem dX3_feltOf_57 : decode cX3_feltOf 57 = .ok (.iaload, 1) := by decide +kernel
theorem dX3_feltOf_58 : decode cX3_feltOf 58 = .ok (.iload 5, 2) := by decide +kernel
theorem dX3_feltOf_60 : decode cX3_feltOf 60 = .ok (.iload_n 3, 1) := by decide +kernel
theorem dX3_feltOf_61 : decode cX3_feltOf 61 = .ok (.isub, 1) := by decide +kernel
theorem dX3_feltOf_62 : decode cX3_feltOf 62 = .ok (.imul, 1) := by decide +kernel
theorem dX3_feltOf_63 : decode cX3_feltOf 63 = .ok (.iadd, 1) := by decide +kernel
theorem dX3_feltOf_64 : decode cX3_feltOf 64 = .ok (.istore_n 2, 1) := by decide +kernel
theorem dX3_feltOf_65 : decode cX3_feltOf 65 = .ok (.iload 5, 2) := by decide +kernel
theorem dX3_feltOf_67 : decode cX3_feltOf 67 = .ok (.istore_n 3, 1) := by decide +kernel
theorem dX3_feltOf_68 : decode cX3_feltOf 68 = .ok (.iinc 4 1, 3) := by decide +kernel
theorem dX3_feltOf_71 : decode cX3_feltOf 71 = .ok (.goto (-64), 3) := by decide +kernel
theorem dX3_feltOf_74 : decode cX3_feltOf 74 = .ok (.iload_n 2, 1) := by decide +kernel
theorem dX3_feltOf_75 : decode cX3_feltOf 75 = .ok (.ireturn, 1) := by decide +kernel
theorem kk_X0_fillFelt_0 : Cond.fieldLink RX0 76 "PaidBySigns$Hire" "least" "I" ∈ wsX0_fillFelt := by decide +kernel
theorem kk_X3_feltOf_0 : Cond.fieldLink RX3 48 "PaidBySigns$Hire" "rates" "I" ∈ wsX3_feltOf := by decide +kernel
theorem kk_X3_feltOf_1 : Cond.fieldLink RX3 26 "PaidBySigns$Hire" "mark" "[I" ∈ wsX3_feltOf := by decide +kernel
theorem kk_X3_feltOf_2 : Cond.methodLink RX3 51 Lib.Math.min.name ∈ wsX3_feltOf := by decide +kernel
theorem kk_X3_feltOf_3 : Cond.static Lib.Math.min.name ∈ wsX3_feltOf := by decide +kernel
theorem kk_X3_feltOf_4 : Cond.initialized "java/lang/Math" ∈ wsX3_feltOf := by decide +kernel
theorem kk_X3_feltOf_5 : Cond.code Lib.Math.min.name Lib.Math.min.code 2 (some .int) ∈ wsX3_feltOf := by decide +kernel
theorem kk_X3_feltOf_6 : Cond.fieldLink RX3 23 "PaidBySigns$Hire" "rate" "[I" ∈ wsX3_feltOf := by decide +kernel
theorem kk_X0_fillFelt_1 : Cond.fieldLink RX0 20 "PaidBySigns$CoinSearch" "felt" "[I" ∈ wsX0_fillFelt := by decide +kernel
theorem kk_X0_lastCoin_0 : Cond.fieldLink RX0 23 "PaidBySigns$CoinSearch" "own" "[I" ∈ wsX0_lastCoin := by decide +kernel
theorem kk_X0_lastCoin_1 : Cond.fieldLink RX0 58 "PaidBySigns$CoinSearch" "most" "I" ∈ wsX0_lastCoin := by decide +kernel
theorem kk_X0_lastCoin_2 : Cond.fieldLink RX0 49 "PaidBySigns$CoinSearch" "lines" "I" ∈ wsX0_lastCoin := by decide +kernel
theorem kk_X0_lastCoin_3 : Cond.fieldLink RX0 28 "PaidBySigns$CoinSearch" "share" "[[I" ∈ wsX0_lastCoin := by decide +kernel
theorem kk_X0_isShort_0 : Cond.fieldLink RX0 34 "PaidBySigns$CoinSearch" "left" "[[I" ∈ wsX0_isShort := by decide +kernel
theorem kk_X0_isShort_1 : Cond.fieldLink RX0 28 "PaidBySigns$CoinSearch" "share" "[[I" ∈ wsX0_isShort := by decide +kernel
theorem kk_X0_isShort_2 : Cond.fieldLink RX0 20 "PaidBySigns$CoinSearch" "felt" "[I" ∈ wsX0_isShort := by decide +kernel
theorem kk_X0_isShort_3 : Cond.fieldLink RX0 31 "PaidBySigns$CoinSearch" "rest" "[[I" ∈ wsX0_isShort := by decide +kernel
theorem kk_X0_firstCoin_0 : Cond.fieldLink RX0 49 "PaidBySigns$CoinSearch" "lines" "I" ∈ wsX0_firstCoin := by decide +kernel
theorem kk_X0_firstCoin_1 : Cond.fieldLink RX0 58 "PaidBySigns$CoinSearch" "most" "I" ∈ wsX0_firstCoin := by decide +kernel
theorem kk_X0_firstCoin_2 : Cond.fieldLink RX0 28 "PaidBySigns$CoinSearch" "share" "[[I" ∈ wsX0_firstCoin := by decide +kernel
theorem iw_X0_fillFelt_X3 : ∀ w ∈ wsX30, w ∈ wsX0_fillFelt := by decide +kernel
theorem iw_X3_feltOf_X3 : ∀ w ∈ wsX30, w ∈ wsX3_feltOf := by decide +kernel
theorem iw_X0_fillFelt_X0 : ∀ w ∈ wsX00, w ∈ wsX0_fillFelt := by decide +kernel
theorem iw_X0_lastCoin_X0 : ∀ w ∈ wsX00, w ∈ wsX0_lastCoin := by decide +kernel
theorem iw_X0_isShort_X0 : ∀ w ∈ wsX00, w ∈ wsX0_isShort := by decide +kernel
theorem iw_X0_firstCoin_X0 : ∀ w ∈ wsX00, w ∈ wsX0_firstCoin := by decide +kernel
