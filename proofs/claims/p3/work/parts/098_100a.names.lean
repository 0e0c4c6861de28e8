abbrev wsX00 : List Cond := u_ws RX0 TX0 11
abbrev cX0_fillFelt : ByteArray := prog_2_method_3_code
def yX0_fillFelt : MethodName := ⟨RX0, "fillFelt", "(LPaidBySigns$Hire;)V"⟩
abbrev cX0_firstCoin : ByteArray := prog_2_method_7_code
def yX0_firstCoin : MethodName := ⟨RX0, "firstCoin", "(I)I"⟩
abbrev cX0_lastCoin : ByteArray := prog_2_method_8_code
def yX0_lastCoin : MethodName := ⟨RX0, "lastCoin", "(I)I"⟩
abbrev cX0_isShort : ByteArray := prog_2_method_9_code
def yX0_isShort : MethodName := ⟨RX0, "isShort", "(III)Z"⟩
abbrev wsX30 : List Cond := u_ws RX3 TX3 11
abbrev cX3_feltOf : ByteArray := prog_5_method_3_code
def yX3_feltOf : MethodName := ⟨RX3, "feltOf", "(I)I"⟩
def wsX3_feltOf : List Cond := .code yX3_feltOf cX3_feltOf 6 (some .int) :: ([.fieldLink RX3 48 "PaidBySigns$Hire" "rates" "I", .fieldLink RX3 26 "PaidBySigns$Hire" "mark" "[I", .methodLink RX3 51 Lib.Math.min.name, .static Lib.Math.min.name, .initialized "java/lang/Math", .code Lib.Math.min.name Lib.Math.min.code 2 (some .int), .fieldLink RX3 23 "PaidBySigns$Hire" "rate" "[I"] ++ wsX30)
def wsX0_fillFelt : List Cond := .code yX0_fillFelt cX0_fillFelt 4 none :: ([.fieldLink RX0 76 "PaidBySigns$Hire" "least" "I", .fieldLink RX0 20 "PaidBySigns$CoinSearch" "felt" "[I", .methodLink RX0 79 yX3_feltOf, .instanceMethod yX3_feltOf, .selects RX3 yX3_feltOf yX3_feltOf, .initialized RX3, .code yX3_feltOf cX3_feltOf 6 (some .int), .fieldLink RX3 48 "PaidBySigns$Hire" "rates" "I", .fieldLink RX3 26 "PaidBySigns$Hire" "mark" "[I", .methodLink RX3 51 Lib.Math.min.name, .static Lib.Math.min.name, .initialized "java/lang/Math", .code Lib.Math.min.name Lib.Math.min.code 2 (some .int), .fieldLink RX3 23 "PaidBySigns$Hire" "rate" "[I"] ++ wsX30 ++ wsX00)
def wsX0_isShort : List Cond := .code yX0_isShort cX0_isShort 4 (some .boolean) :: ([.fieldLink RX0 34 "PaidBySigns$CoinSearch" "left" "[[I", .fieldLink RX0 28 "PaidBySigns$CoinSearch" "share" "[[I", .fieldLink RX0 20 "PaidBySigns$CoinSearch" "felt" "[I", .fieldLink RX0 31 "PaidBySigns$CoinSearch" "rest" "[[I"] ++ wsX00)
def wsX0_lastCoin : List Cond := .code yX0_lastCoin cX0_lastCoin 4 (some .int) :: ([.fieldLink RX0 23 "PaidBySigns$CoinSearch" "own" "[I", .fieldLink RX0 58 "PaidBySigns$CoinSearch" "most" "I", .fieldLink RX0 49 "PaidBySigns$CoinSearch" "lines" "I", .fieldLink RX0 28 "PaidBySigns$CoinSearch" "share" "[[I", .methodLink RX0 108 yX0_isShort, .instanceMethod yX0_isShort, .selects RX0 yX0_isShort yX0_isShort, .initialized RX0, .code yX0_isShort cX0_isShort 4 (some .boolean), .fieldLink RX0 34 "PaidBySigns$CoinSearch" "left" "[[I", .fieldLink RX0 20 "PaidBySigns$CoinSearch" "felt" "[I", .fieldLink RX0 31 "PaidBySigns$CoinSearch" "rest" "[[I"] ++ wsX00)
def wsX0_firstCoin : List Cond := .code yX0_firstCoin cX0_firstCoin 4 (some .int) :: ([.fieldLink RX0 49 "PaidBySigns$CoinSearch" "lines" "I", .fieldLink RX0 58 "PaidBySigns$CoinSearch" "most" "I", .fieldLink RX0 28 "PaidBySigns$CoinSearch" "share" "[[I", .methodLink RX0 108 yX0_isShort, .instanceMethod yX0_isShort, .selects RX0 yX0_isShort yX0_isShort, .initialized RX0, .code yX0_isShort cX0_isShort 4 (some .boolean), .fieldLink RX0 34 "PaidBySigns$CoinSearch" "left" "[[I", .fieldLink RX0 20 "PaidBySigns$CoinSearch" "felt" "[I", .fieldLink RX0 31 "PaidBySigns$CoinSearch" "rest" "[[I"] ++ wsX00)
set_option maxRecDepth 20000 in
theorem ggX0_fillFelt_X3_feltOf : GoodIn wsX0_fillFelt wsX3_feltOf := goodIn_r _ [7, 8, 9, 10, 11, 12, 13, 14, 15, 16, 17, 18, 19, 20, 21, 22, 23, 24, 25] (by decide +kernel) (by decide +kernel)
set_option maxRecDepth 20000 in
theorem gX0_fillFelt_X3_feltOf : GoodIn wsX0_fillFelt (wsV RX0 79 RX3 yX3_feltOf wsX3_feltOf) := goodIn_app (goodIn_of _ (by decide +kernel)) ggX0_fillFelt_X3_feltOf
theorem dX0_fillFelt_0 : decode cX0_fillFelt 0 = .ok (.aload_n 1, 1) := by decide +kernel
theorem dX0_fillFelt_1 : decode cX0_fillFelt 1 = .ok (.aload_n 1, 1) := by decide +kernel
theorem dX0_fillFelt_2 : decode cX0_fillFelt 2 = .ok (.getfield 76, 3) := by decide +kernel
theorem dX0_fillFelt_5 : decode cX0_fillFelt 5 = .ok (.invokevirtual 79, 3) := by decide +kernel
theorem dX0_fillFelt_8 : decode cX0_fillFelt 8 = .ok (.istore_n 2, 1) := by decide +kernel
theorem dX0_fillFelt_9 : decode cX0_fillFelt 9 = .ok (.iconst 0, 1) := by decide +kernel
theorem dX0_fillFelt_10 : decode cX0_fillFelt 10 = .ok (.istore_n 3, 1) := by decide +kernel
theorem dX0_fillFelt_11 : decode cX0_fillFelt 11 = .ok (.iload_n 3, 1) := by decide +kernel
theorem dX0_fillFelt_12 : decode cX0_fillFelt 12 = .ok (.bipush 20, 2) := by decide +kernel
theorem dX0_fillFelt_14 : decode cX0_fillFelt 14 = .ok (.if_icmp .gt 27, 3) := by decide +kernel
theorem dX0_fillFelt_17 : decode cX0_fillFelt 17 = .ok (.aload_n 0, 1) := by decide +kernel
theorem dX0_fillFelt_18 : decode cX0_fillFelt 18 = .ok (.getfield 20, 3) := by decide +kernel
theorem dX0_fillFelt_21 : decode cX0_fillFelt 21 = .ok (.iload_n 3, 1) := by decide +kernel
theorem dX0_fillFelt_22 : decode cX0_fillFelt 22 = .ok (.aload_n 1, 1) := by decide +kernel
theorem dX0_fillFelt_23 : decode cX0_fillFelt 23 = .ok (.aload_n 1, 1) := by decide +kernel
theorem dX0_fillFelt_24 : decode cX0_fillFelt 24 = .ok (.getfield 76, 3) := by decide +kernel
theorem dX0_fillFelt_27 : decode cX0_fillFelt 27 = .ok (.iload_n 3, 1) := by decide +kernel
theorem dX0_fillFelt_28 : decode cX0_fillFelt 28 = .ok (.iadd, 1) := by decide +kernel
theorem dX0_fillFelt_29 : decode cX0_fillFelt 29 = .ok (.invokevirtual 79, 3) := by decide +kernel
theorem dX0_fillFelt_32 : decode cX0_fillFelt 32 = .ok (.iload_n 2, 1) := by decide +kernel
theorem dX0_fillFelt_33 : decode cX0_fillFelt 33 = .ok (.isub, 1) := by decide +kernel
theorem dX0_fillFelt_34 : decode cX0_fillFelt 34 = .ok (.iastore, 1) := by decide +kernel
theorem dX0_fillFelt_35 : decode cX0_fillFelt 35 = .ok (.iinc 3 1, 3) := by decide +kernel
theorem dX0_fillFelt_38 : decode cX0_fillFelt 38 = .ok (.goto (-27), 3) := by decide +kernel
theorem dX0_fillFelt_41 : decode cX0_fillFelt 41 = .ok (.return_, 1) := by decide +kernel
set_option maxRecDepth 20000 in
theorem ggX0_firstCoin_X0_isShort : GoodIn wsX0_firstCoin wsX0_isShort := goodIn_r _ [8, 9, 3, 10, 11, 12, 13, 14, 15, 16, 17, 18, 19, 20, 21, 22] (by decide +kernel) (by decide +kernel)
set_option maxRecDepth 20000 in
theorem gX0_firstCoin_X0_isShort : GoodIn wsX0_firstCoin (wsV RX0 108 RX0 yX0_isShort wsX0_isShort) := goodIn_app (goodIn_of _ (by decide +kernel)) ggX0_firstCoin_X0_isShort
theorem dX0_firstCoin_0 : decode cX0_firstCoin 0 = .ok (.iconst 0, 1) := by decide +kernel
theorem dX0_firstCoin_1 : decode cX0_firstCoin 1 = .ok (.istore_n 2, 1) := by decide +kernel
theorem dX0_firstCoin_2 : decode cX0_firstCoin 2 = .ok (.iconst 0, 1) := by decide +kernel
theorem dX0_firstCoin_3 : decode cX0_firstCoin 3 = .ok (.istore_n 3, 1) := by decide +kernel
theorem dX0_firstCoin_4 : decode cX0_firstCoin 4 = .ok (.iload_n 3, 1) := by decide +kernel
theorem dX0_firstCoin_5 : decode cX0_firstCoin 5 = .ok (.aload_n 0, 1) := by decide +kernel
theorem dX0_firstCoin_6 : decode cX0_firstCoin 6 = .ok (.getfield 49, 3) := by decide +kernel
theorem dX0_firstCoin_9 : decode cX0_firstCoin 9 = .ok (.if_icmp .ge 44, 3) := by decide +kernel
theorem dX0_firstCoin_12 : decode cX0_firstCoin 12 = .ok (.iload_n 2, 1) := by decide +kernel
theorem dX0_firstCoin_13 : decode cX0_firstCoin 13 = .ok (.aload_n 0, 1) := by decide +kernel
theorem dX0_firstCoin_14 : decode cX0_firstCoin 14 = .ok (.getfield 58, 3) := by decide +kernel
theorem dX0_firstCoin_17 : decode cX0_firstCoin 17 = .ok (.if_icmp .gt 30, 3) := by decide +kernel
theorem dX0_firstCoin_20 : decode cX0_firstCoin 20 = .ok (.aload_n 0, 1) := by decide +kernel
theorem dX0_firstCoin_21 : decode cX0_firstCoin 21 = .ok (.getfield 28, 3) := by decide +kernel
theorem dX0_firstCoin_24 : decode cX0_firstCoin 24 = .ok (.iload_n 3, 1) := by decide +kernel
theorem dX0_firstCoin_25 : decode cX0_firstCoin 25 = .ok (.aaload, 1) := by decide +kernel
theorem dX0_firstCoin_26 : decode cX0_firstCoin 26 = .ok (.iload_n 1, 1) := by decide +kernel
theorem dX0_firstCoin_27 : decode cX0_firstCoin 27 = .ok (.iaload, 1) := by decide +kernel
theorem dX0_firstCoin_28 : decode cX0_firstCoin 28 = .ok (.ifCond .lt 19, 3) := by decide +kernel
theorem dX0_firstCoin_31 : decode cX0_firstCoin 31 = .ok (.aload_n 0, 1) := by decide +kernel
theorem dX0_firstCoin_32 : decode cX0_firstCoin 32 = .ok (.iload_n 3, 1) := by decide +kernel
theorem dX0_firstCoin_33 : decode cX0_firstCoin 33 = .ok (.iload_n 1, 1) := by decide +kernel
theorem dX0_firstCoin_34 : decode cX0_firstCoin 34 = .ok (.iload_n 2, 1) := by decide +kernel
theorem dX0_firstCoin_35 : decode cX0_firstCoin 35 = .ok (.invokevirtual 108, 3) := by decide +kernel
theorem dX0_firstCoin_38 : decode cX0_firstCoin 38 = .ok (.ifCond .eq 9, 3) := by decide +kernel
theorem dX0_firstCoin_41 : decode cX0_firstCoin 41 = .ok (.iinc 2 1, 3) := by decide +kernel
theorem dX0_firstCoin_44 : decode cX0_firstCoin 44 = .ok (.goto (-32), 3) := by decide +kernel
theorem dX0_firstCoin_47 : decode cX0_firstCoin 47 = .ok (.iinc 3 1, 3) := by decide +kernel
theorem dX0_firstCoin_50 : decode cX0_firstCoin 50 = .ok (.goto (-46), 3) := by decide +kernel
theorem dX0_firstCoin_53 : decode cX0_firstCoin 53 = .ok (.iload_n 2, 1) := by decide +kernel
theorem dX0_firstCoin_54 : decode cX0_firstCoin 54 = .ok (.ireturn, 1) := by decide +kernel
set_option maxRecDepth 20000 in
theorem ggX0_lastCoin_X0_isShort : GoodIn wsX0_lastCoin wsX0_isShort := goodIn_r _ [9, 10, 4, 11, 12, 13, 14, 15, 16, 17, 18, 19, 20, 21, 22, 23] (by decide +kernel) (by decide +kernel)
set_option maxRecDepth 20000 in
theorem gX0_lastCoin_X0_isShort : GoodIn wsX0_lastCoin (wsV RX0 108 RX0 yX0_isShort wsX0_isShort) := goodIn_app (goodIn_of _ (by decide +kernel)) ggX0_lastCoin_X0_isShort
theorem dX0_lastCoin_0 : decode cX0_lastCoin 0 = .ok (.aload_n 0, 1) := by decide +kernel
theorem dX0_lastCoin_1 : decode cX0_lastCoin 1 = .ok (.getfield 23, 3) := by decide +kernel
theorem dX0_lastCoin_4 : decode cX0_lastCoin 4 = .ok (.iload_n 1, 1) := by decide +kernel
theorem dX0_lastCoin_5 : decode cX0_lastCoin 5 = .ok (.iaload, 1) := by decide +kernel
theorem dX0_lastCoin_6 : decode cX0_lastCoin 6 = .ok (.ifCond .ne 7, 3) := by decide +kernel
theorem dX0_lastCoin_9 : decode cX0_lastCoin 9 = .ok (.iconst 0, 1) := by decide +kernel
theorem dX0_lastCoin_10 : decode cX0_lastCoin 10 = .ok (.goto 7, 3) := by decide +kernel
theorem dX0_lastCoin_13 : decode cX0_lastCoin 13 = .ok (.aload_n 0, 1) := by decide +kernel
theorem dX0_lastCoin_14 : decode cX0_lastCoin 14 = .ok (.getfield 58, 3) := by decide +kernel
theorem dX0_lastCoin_17 : decode cX0_lastCoin 17 = .ok (.istore_n 2, 1) := by decide +kernel
theorem dX0_lastCoin_18 : decode cX0_lastCoin 18 = .ok (.iconst 0, 1) := by decide +kernel
theorem dX0_lastCoin_19 : decode cX0_lastCoin 19 = .ok (.istore_n 3, 1) := by decide +kernel
theorem dX0_lastCoin_20 : decode cX0_lastCoin 20 = .ok (.iload_n 3, 1) := by decide +kernel
theorem dX0_lastCoin_21 : decode cX0_lastCoin 21 = .ok (.aload_n 0, 1) := by decide +kernel
theorem dX0_lastCoin_22 : decode cX0_lastCoin 22 = .ok (.getfield 49, 3) := by decide +kernel
theorem dX0_lastCoin_25 : decode cX0_lastCoin 25 = .ok (.if_icmp .ge 40, 3) := by decide +kernel
theorem dX0_lastCoin_28 : decode cX0_lastCoin 28 = .ok (.iload_n 2, 1) := by decide +kernel
theorem dX0_lastCoin_29 : decode cX0_lastCoin 29 = .ok (.ifCond .lt 30, 3) := by decide +kernel
theorem dX0_lastCoin_32 : decode cX0_lastCoin 32 = .ok (.aload_n 0, 1) := by decide +kernel
theorem dX0_lastCoin_33 : decode cX0_lastCoin 33 = .ok (.getfield 28, 3) := by decide +kernel
theorem dX0_lastCoin_36 : decode cX0_lastCoin 36 = .ok (.iload_n 3, 1) := by decide +kernel
theorem dX0_lastCoin_37 : decode cX0_lastCoin 37 = .ok (.aaload, 1) := by decide +kernel
theorem dX0_lastCoin_38 : decode cX0_lastCoin 38 = .ok (.iload_n 1, 1) := by decide +kernel
theorem dX0_lastCoin_39 : decode cX0_lastCoin 39 = .ok (.iaload, 1) := by decide +kernel
theorem dX0_lastCoin_40 : decode cX0_lastCoin 40 = .ok (.ifCond .ge 19, 3) := by decide +kernel
theorem dX0_lastCoin_43 : decode cX0_lastCoin 43 = .ok (.aload_n 0, 1) := by decide +kernel
theorem dX0_lastCoin_44 : decode cX0_lastCoin 44 = .ok (.iload_n 3, 1) := by decide +kernel
theorem dX0_lastCoin_45 : decode cX0_lastCoin 45 = .ok (.iload_n 1, 1) := by decide +kernel
theorem dX0_lastCoin_46 : decode cX0_lastCoin 46 = .ok (.iload_n 2, 1) := by decide +kernel
theorem dX0_lastCoin_47 : decode cX0_lastCoin 47 = .ok (.invokevirtual 108, 3) := by decide +kernel
theorem dX0_lastCoin_50 : decode cX0_lastCoin 50 = .ok (.ifCond .eq 9, 3) := by decide +kernel
theorem dX0_lastCoin_53 : decode cX0_lastCoin 53 = .ok (.iinc 2 (-1), 3) := by decide +kernel
theorem dX0_lastCoin_56 : decode cX0_lastCoin 56 = .ok (.goto (-28), 3) := by decide +kernel
theorem dX0_lastCoin_59 : decode cX0_lastCoin 59 = .ok (.iinc 3 1, 3) := by decide +kernel
theorem dX0_lastCoin_62 : decode cX0_lastCoin 62 = .ok (.goto (-42), 3) := by decide +kernel
theorem dX0_lastCoin_65 : decode cX0_lastCoin 65 = .ok (.iload_n 2, 1) := by decide +kernel
theorem dX0_lastCoin_66 : decode cX0_lastCoin 66 = .ok (.ireturn, 1) := by decide +kernel
theorem dX0_isShort_0 : decode cX0_isShort 0 = .ok (.aload_n 0, 1) := by decide +kernel
theorem dX0_isShort_1 : decode cX0_isShort 1 = .ok (.getfield 34, 3) := by decide +kernel
theorem dX0_isShort_4 : decode cX0_isShort 4 = .ok (.iload_n 2, 1) := by decide +kernel
theorem dX0_isShort_5 : decode cX0_isShort 5 = .ok (.aaload, 1) := by decide +kernel
theorem dX0_isShort_6 : decode cX0_isShort 6 = .ok (.iload_n 1, 1) := by decide +kernel
theorem dX0_isShort_7 : decode cX0_isShort 7 = .ok (.iaload, 1) := by decide +kernel
theorem dX0_isShort_8 : decode cX0_isShort 8 = .ok (.aload_n 0, 1) := by decide +kernel
theorem dX0_isShort_9 : decode cX0_isShort 9 = .ok (.getfield 28, 3) := by decide +kernel
theorem dX0_isShort_12 : decode cX0_isShort 12 = .ok (.iload_n 1, 1) := by decide +kernel
theorem dX0_isShort_13 : decode cX0_isShort 13 = .ok (.aaload, 1) := by decide +kernel
theorem dX0_isShort_14 : decode cX0_isShort 14 = .ok (.iload_n 2, 1) := by decide +kernel
theorem dX0_isShort_15 : decode cX0_isShort 15 = .ok (.iaload, 1) := by decide +kernel
theorem dX0_isShort_16 : decode cX0_isShort 16 = .ok (.aload_n 0, 1) := by decide +kernel
theorem dX0_isShort_17 : decode cX0_isShort 17 = .ok (.getfield 20, 3) := by decide +kernel
theorem dX0_isShort_20 : decode cX0_isShort 20 = .ok (.iload_n 3, 1) := by decide +kernel
theorem dX0_isShort_21 : decode cX0_isShort 21 = .ok (.iaload, 1) := by decide +kernel
theorem dX0_isShort_22 : decode cX0_isShort 22 = .ok (.imul, 1) := by decide +kernel
theorem dX0_isShort_23 : decode cX0_isShort 23 = .ok (.aload_n 0, 1) := by decide +kernel
theorem dX0_isShort_24 : decode cX0_isShort 24 = .ok (.getfield 31, 3) := by decide +kernel
theorem dX0_isShort_27 : decode cX0_isShort 27 = .ok (.iload_n 1, 1) := by decide +kernel
theorem dX0_isShort_28 : decode cX0_isShort 28 = .ok (.aaload, 1) := by decide +kernel
theorem dX0_isShort_29 : decode cX0_isShort 29 = .ok (.iload_n 2, 1) := by decide +kernel
theorem dX0_isShort_30 : decode cX0_isShort 30 = .ok (.iconst 1, 1) := by decide +kernel
theorem dX0_isShort_31 : decode cX0_isShort 31 = .ok (.iadd, 1) := by decide +kernel
theorem dX0_isShort_32 : decode cX0_isShort 32 = .ok (.iaload, 1) := by decide +kernel
theorem dX0_isShort_33 : decode cX0_isShort 33 = .ok (.iadd, 1) := by decide +kernel
theorem dX0_isShort_34 : decode cX0_isShort 34 = .ok (.if_icmp .le 7, 3) := by decide +kernel
theorem dX0_isShort_37 : decode cX0_isShort 37 = .ok (.iconst 1, 1) := by decide +kernel
theorem dX0_isShort_38 : decode cX0_isShort 38 = .ok (.goto 4, 3) := by decide +kernel
theorem dX0_isShort_41 : decode cX0_isShort 41 = .ok (.iconst 0, 1) := by decide +kernel
theorem dX0_isShort_42 : decode cX0_isShort 42 = .ok (.ireturn, 1) := by decide +kernel
theorem dX3_feltOf_0 : decode cX3_feltOf 0 = .ok (.iconst 0, 1) := by decide +kernel
theorem dX3_feltOf_1 : decode cX3_feltOf 1 = .ok (.istore_n 2, 1) := by decide +kernel
theorem dX3_feltOf_2 : decode cX3_feltOf 2 = .ok (.iconst 0, 1) := by decide +kernel
theorem dX3_feltOf_3 : decode cX3_feltOf 3 = .ok (.istore_n 3, 1) := by decide +kernel
theorem dX3_feltOf_4 : decode cX3_feltOf 4 = .ok (.iconst 0, 1) := by decide +kernel
theorem dX3_feltOf_5 : decode cX3_feltOf 5 = .ok (.istore 4, 2) := by decide +kernel
theorem dX3_feltOf_7 : decode cX3_feltOf 7 = .ok (.iload 4, 2) := by decide +kernel
theorem dX3_feltOf_9 : decode cX3_feltOf 9 = .ok (.aload_n 0, 1) := by decide +kernel
theorem dX3_feltOf_10 : decode cX3_feltOf 10 = .ok (.getfield 48, 3) := by decide +kernel
theorem dX3_feltOf_13 : decode cX3_feltOf 13 = .ok (.if_icmp .ge 61, 3) := by decide +kernel
theorem dX3_feltOf_16 : decode cX3_feltOf 16 = .ok (.iload 4, 2) := by decide +kernel
theorem dX3_feltOf_18 : decode cX3_feltOf 18 = .ok (.aload_n 0, 1) := by decide +kernel
theorem dX3_feltOf_19 : decode cX3_feltOf 19 = .ok (.getfield 48, 3) := by decide +kernel
theorem dX3_feltOf_22 : decode cX3_feltOf 22 = .ok (.iconst 1, 1) := by decide +kernel
theorem dX3_feltOf_23 : decode cX3_feltOf 23 = .ok (.isub, 1) := by decide +kernel
theorem dX3_feltOf_24 : decode cX3_feltOf 24 = .ok (.if_icmp .ne 7, 3) := by decide +kernel
theorem dX3_feltOf_27 : decode cX3_feltOf 27 = .ok (.iload_n 1, 1) := by decide +kernel
theorem dX3_feltOf_28 : decode cX3_feltOf 28 = .ok (.goto 14, 3) := by decide +kernel
theorem dX3_feltOf_31 : decode cX3_feltOf 31 = .ok (.iload_n 1, 1) := by decide +kernel
theorem dX3_feltOf_32 : decode cX3_feltOf 32 = .ok (.aload_n 0, 1) := by decide +kernel
theorem dX3_feltOf_33 : decode cX3_feltOf 33 = .ok (.getfield 26, 3) := by decide +kernel
theorem dX3_feltOf_36 : decode cX3_feltOf 36 = .ok (.iload 4, 2) := by decide +kernel
theorem dX3_feltOf_38 : decode cX3_feltOf 38 = .ok (.iaload, 1) := by decide +kernel
theorem dX3_feltOf_39 : decode cX3_feltOf 39 = .ok (.invokestatic 51, 3) := by decide +kernel
theorem dX3_feltOf_42 : decode cX3_feltOf 42 = .ok (.istore 5, 2) := by decide +kernel
theorem dX3_feltOf_44 : decode cX3_feltOf 44 = .ok (.iload 5, 2) := by decide +kernel
theorem dX3_feltOf_46 : decode cX3_feltOf 46 = .ok (.iload_n 3, 1) := by decide +kernel
theorem dX3_feltOf_47 : decode cX3_feltOf 47 = .ok (.if_icmp .le 21, 3) := by decide +kernel
theorem dX3_feltOf_50 : decode cX3_feltOf 50 = .ok (.iload_n 2, 1) := by decide +kernel
theorem dX3_feltOf_51 : decode cX3_feltOf 51 = .ok (.aload_n 0, 1) := by decide +kernel
theorem dX3_feltOf_52 : decode cX3_feltOf 52 = .ok (.getfield 23, 3) := by decide +kernel
theorem dX3_feltOf_55 : decode cX3_feltOf 55 = .ok (.iload 4, 2) := by decide +kernel
theorem dX3_feltOf_57 : decode cX3_feltOf 57 = .ok (.iaload, 1) := by decide +kernel
theorem dX3_feltOf_58 : decode cX3_feltOf 58 = .ok (.iload 5, 2) := by decide +kernel
theorem dX3_feltOf_60 : decode cX3_feltOf 60 = .ok (.iload_n 3, 1) := by decide +kernel
theorem dX3_feltOf_61 : decode cX3_feltOf 61 = .ok (.isub, 1) := by decide +kernel
theorem dX3_feltOf_62 : decode cX3_feltOf 62 = .ok (.imul, 1) := by decide +kernel
theorem dX3_feltOf_63 : decode cX3_feltOf 63 = .ok (.iadd, 1) := by decide +kernel
theorem dX3_feltOf_64 : decode cX3_feltOf 64 = .ok (.istore_n 2, 1) := by decide +kernel
theorem dX3_feltOf_65 : decode cX3_feltOf 65 = .ok (.iload 5, 2) := by decide +kernel
theorem dX3_feltOf_67 : decode cX3_feltOf 67 = .ok (.istore_n 3, 1) := by decide +kernel
theorem dX3_feltOf_68 : decode cX3_feltOf 68 = .ok (.iinc 4 1, 3) := by decide +kernel
theorem dX3_feltOf_71 : decode cX3_feltOf 71 = .ok (.goto (-64), 3) := by decide +kernel
theorem dX3_feltOf_74 : decode cX3_feltOf 74 = .ok (.iload_n 2, 1) := by decide +kernel
theorem dX3_feltOf_75 : decode cX3_feltOf 75 = .ok (.ireturn, 1) := by decide +kernel
theorem kk_X0_fillFelt_0 : Cond.fieldLink RX0 76 "PaidBySigns$Hire" "least" "I" ∈ wsX0_fillFelt := by decide +kernel
theorem kk_X3_feltOf_0 : Cond.fieldLink RX3 48 "PaidBySigns$Hire" "rates" "I" ∈ wsX3_feltOf := by decide +kernel
theorem kk_X3_feltOf_1 : Cond.fieldLink RX3 26 "PaidBySigns$Hire" "mark" "[I" ∈ wsX3_feltOf := by decide +kernel
theorem kk_X3_feltOf_2 : Cond.methodLink RX3 51 Lib.Math.min.name ∈ wsX3_feltOf := by decide +kernel
theorem kk_X3_feltOf_3 : Cond.static Lib.Math.min.name ∈ wsX3_feltOf := by decide +kernel
theorem kk_X3_feltOf_4 : Cond.initialized "java/lang/Math" ∈ wsX3_feltOf := by decide +kernel
theorem kk_X3_feltOf_5 : Cond.code Lib.Math.min.name Lib.Math.min.code 2 (some .int) ∈ wsX3_feltOf := by decide +kernel
theorem kk_X3_feltOf_6 : Cond.fieldLink RX3 23 "PaidBySigns$Hire" "rate" "[I" ∈ wsX3_feltOf := by decide +kernel
theorem kk_X0_fillFelt_1 : Cond.fieldLink RX0 20 "PaidBySigns$CoinSearch" "felt" "[I" ∈ wsX0_fillFelt := by decide +kernel
theorem kk_X0_lastCoin_0 : Cond.fieldLink RX0 23 "PaidBySigns$CoinSearch" "own" "[I" ∈ wsX0_lastCoin := by decide +kernel
theorem kk_X0_lastCoin_1 : Cond.fieldLink RX0 58 "PaidBySigns$CoinSearch" "most" "I" ∈ wsX0_lastCoin := by decide +kernel
theorem kk_X0_lastCoin_2 : Cond.fieldLink RX0 49 "PaidBySigns$CoinSearch" "lines" "I" ∈ wsX0_lastCoin := by decide +kernel
theorem kk_X0_lastCoin_3 : Cond.fieldLink RX0 28 "PaidBySigns$CoinSearch" "share" "[[I" ∈ wsX0_lastCoin := by decide +kernel
theorem kk_X0_isShort_0 : Cond.fieldLink RX0 34 "PaidBySigns$CoinSearch" "left" "[[I" ∈ wsX0_isShort := by decide +kernel
theorem kk_X0_isShort_1 : Cond.fieldLink RX0 28 "PaidBySigns$CoinSearch" "share" "[[I" ∈ wsX0_isShort := by decide +kernel
theorem kk_X0_isShort_2 : Cond.fieldLink RX0 20 "PaidBySigns$CoinSearch" "felt" "[I" ∈ wsX0_isShort := by decide +kernel
theorem kk_X0_isShort_3 : Cond.fieldLink RX0 31 "PaidBySigns$CoinSearch" "rest" "[[I" ∈ wsX0_isShort := by decide +kernel
theorem kk_X0_firstCoin_0 : Cond.fieldLink RX0 49 "PaidBySigns$CoinSearch" "lines" "I" ∈ wsX0_firstCoin := by decide +kernel
theorem kk_X0_firstCoin_1 : Cond.fieldLink RX0 58 "PaidBySigns$CoinSearch" "most" "I" ∈ wsX0_firstCoin := by decide +kernel
theorem kk_X0_firstCoin_2 : Cond.fieldLink RX0 28 "PaidBySigns$CoinSearch" "share" "[[I" ∈ wsX0_firstCoin := by decide +kernel
theorem iw_X0_fillFelt_X3 : ∀ w ∈ wsX30, w ∈ wsX0_fillFelt := by decide +kernel
theorem iw_X3_feltOf_X3 : ∀ w ∈ wsX30, w ∈ wsX3_feltOf := by decide +kernel
theorem iw_X0_fillFelt_X0 : ∀ w ∈ wsX00, w ∈ wsX0_fillFelt := by decide +kernel
theorem iw_X0_lastCoin_X0 : ∀ w ∈ wsX00, w ∈ wsX0_lastCoin := by decide +kernel
theorem iw_X0_isShort_X0 : ∀ w ∈ wsX00, w ∈ wsX0_isShort := by decide +kernel
theorem iw_X0_firstCoin_X0 : ∀ w ∈ wsX00, w ∈ wsX0_firstCoin := by decide +kernel

def tyX0 : Nat → FieldType := fun k => match k with
  | 0 => .array .int
  | 1 => .int
  | 2 => .array .int
  | 3 => .array .int
  | 4 => .array (.array .int)
  | 5 => .array (.array .int)
  | 6 => .array (.array .int)
  | 7 => .array .int
  | 8 => .int
  | 9 => .int
  | _ => .int
theorem nmX0 : ∀ a, a < 11 → ∀ b, b < 11 → a ≠ b → (TX0 a).2.1 ≠ (TX0 b).2.1 := by decide +kernel
theorem tyX0_ok : ∀ k, k < 11 → parseFieldDescriptor (TX0 k).2.2.1 = some (tyX0 k) := by decide +kernel
abbrev cX0_place : ByteArray := prog_2_method_5_code
def yX0_place : MethodName := ⟨RX0, "place", "(II)V"⟩
abbrev cX0_canBeCheaper : ByteArray := prog_2_method_6_code
def yX0_canBeCheaper : MethodName := ⟨RX0, "canBeCheaper", "(II)Z"⟩
def wsX0_canBeCheaper : List Cond := .code yX0_canBeCheaper cX0_canBeCheaper 9 (some .boolean) :: ([.fieldLink RX0 16 "PaidBySigns$CoinSearch" "bestCost" "I", .fieldLink RX0 49 "PaidBySigns$CoinSearch" "lines" "I", .fieldLink RX0 45 "PaidBySigns$CoinSearch" "signs" "I", .fieldLink RX0 28 "PaidBySigns$CoinSearch" "share" "[[I", .fieldLink RX0 23 "PaidBySigns$CoinSearch" "own" "[I", .fieldLink RX0 34 "PaidBySigns$CoinSearch" "left" "[[I", .fieldLink RX0 20 "PaidBySigns$CoinSearch" "felt" "[I"] ++ wsX00)
def wsX0_place_r1 : List Cond := [Cond.fieldLink RX0 45 "PaidBySigns$CoinSearch" "signs" "I", Cond.fieldLink RX0 16 "PaidBySigns$CoinSearch" "bestCost" "I", Cond.fieldLink RX0 37 "PaidBySigns$CoinSearch" "tried" "[I", Cond.fieldLink RX0 9 "PaidBySigns$CoinSearch" "chosen" "[I", Cond.methodLink RX0 92 arraycopyName, Cond.native arraycopyName, Cond.static arraycopyName, Cond.initialized "java/lang/System", Cond.fieldLink RX0 23 "PaidBySigns$CoinSearch" "own" "[I", Cond.fieldLink RX0 49 "PaidBySigns$CoinSearch" "lines" "I", Cond.fieldLink RX0 34 "PaidBySigns$CoinSearch" "left" "[[I", Cond.fieldLink RX0 28 "PaidBySigns$CoinSearch" "share" "[[I", Cond.fieldLink RX0 20 "PaidBySigns$CoinSearch" "felt" "[I", Cond.methodLink RX0 98 yX0_lastCoin, Cond.instanceMethod yX0_lastCoin, Cond.selects RX0 yX0_lastCoin yX0_lastCoin, Cond.initialized RX0, Cond.code yX0_lastCoin cX0_lastCoin 4 (some .int), Cond.fieldLink RX0 58 "PaidBySigns$CoinSearch" "most" "I", Cond.methodLink RX0 108 yX0_isShort, Cond.instanceMethod yX0_isShort, Cond.selects RX0 yX0_isShort yX0_isShort, Cond.code yX0_isShort cX0_isShort 4 (some .boolean), Cond.fieldLink RX0 31 "PaidBySigns$CoinSearch" "rest" "[[I"]
def wsX0_place_r2 : List Cond := [Cond.methodLink RX0 101 yX0_firstCoin, Cond.instanceMethod yX0_firstCoin, Cond.selects RX0 yX0_firstCoin yX0_firstCoin, Cond.code yX0_firstCoin cX0_firstCoin 4 (some .int), Cond.methodLink RX0 104 yX0_canBeCheaper, Cond.instanceMethod yX0_canBeCheaper, Cond.selects RX0 yX0_canBeCheaper yX0_canBeCheaper, Cond.code yX0_canBeCheaper cX0_canBeCheaper 9 (some .boolean), Cond.methodLink RX0 72 yX0_place, Cond.instanceMethod yX0_place, Cond.selects RX0 yX0_place yX0_place]
def wsX0_place : List Cond := .code yX0_place cX0_place 7 none :: ((wsX0_place_r1 ++ wsX0_place_r2) ++ wsX00)
theorem pm_X0_place_r1 : ∀ w ∈ wsX0_place_r1, w ∈ wsX0_place := fun _ h => List.mem_cons_of_mem _ (List.mem_append_left _ (List.mem_append_left _ h))
theorem pm_X0_place_r2 : ∀ w ∈ wsX0_place_r2, w ∈ wsX0_place := fun _ h => List.mem_cons_of_mem _ (List.mem_append_left _ (List.mem_append_right _ (h)))
theorem pw_X0_place_X0 : ∀ w ∈ wsX00, w ∈ wsX0_place := fun _ h => List.mem_cons_of_mem _ (List.mem_append_right _ h)
set_option maxRecDepth 20000 in
theorem ggX0_place_X0_lastCoin : GoodIn wsX0_place wsX0_lastCoin := goodIn_sub (List.forall_mem_cons.mpr ⟨pm_X0_place_r1 _ (List.mem_of_getElem? (i := 17) rfl), List.forall_mem_append.mpr ⟨List.forall_mem_cons.mpr ⟨pm_X0_place_r1 _ (List.mem_of_getElem? (i := 8) rfl), List.forall_mem_cons.mpr ⟨pm_X0_place_r1 _ (List.mem_of_getElem? (i := 18) rfl), List.forall_mem_cons.mpr ⟨pm_X0_place_r1 _ (List.mem_of_getElem? (i := 9) rfl), List.forall_mem_cons.mpr ⟨pm_X0_place_r1 _ (List.mem_of_getElem? (i := 11) rfl), List.forall_mem_cons.mpr ⟨pm_X0_place_r1 _ (List.mem_of_getElem? (i := 19) rfl), List.forall_mem_cons.mpr ⟨pm_X0_place_r1 _ (List.mem_of_getElem? (i := 20) rfl), List.forall_mem_cons.mpr ⟨pm_X0_place_r1 _ (List.mem_of_getElem? (i := 21) rfl), List.forall_mem_cons.mpr ⟨pm_X0_place_r1 _ (List.mem_of_getElem? (i := 16) rfl), List.forall_mem_cons.mpr ⟨pm_X0_place_r1 _ (List.mem_of_getElem? (i := 22) rfl), List.forall_mem_cons.mpr ⟨pm_X0_place_r1 _ (List.mem_of_getElem? (i := 10) rfl), List.forall_mem_cons.mpr ⟨pm_X0_place_r1 _ (List.mem_of_getElem? (i := 12) rfl), List.forall_mem_cons.mpr ⟨pm_X0_place_r1 _ (List.mem_of_getElem? (i := 23) rfl), fun _ h => absurd h List.not_mem_nil⟩⟩⟩⟩⟩⟩⟩⟩⟩⟩⟩⟩, pw_X0_place_X0⟩⟩) (by decide +kernel)
set_option maxRecDepth 20000 in
theorem gX0_place_X0_lastCoin : GoodIn wsX0_place (wsV RX0 98 RX0 yX0_lastCoin wsX0_lastCoin) := goodIn_app (goodIn_of _ (by decide +kernel)) ggX0_place_X0_lastCoin
set_option maxRecDepth 20000 in
theorem ggX0_place_X0_firstCoin : GoodIn wsX0_place wsX0_firstCoin := goodIn_sub (List.forall_mem_cons.mpr ⟨pm_X0_place_r2 _ (List.mem_of_getElem? (i := 3) rfl), List.forall_mem_append.mpr ⟨List.forall_mem_cons.mpr ⟨pm_X0_place_r1 _ (List.mem_of_getElem? (i := 9) rfl), List.forall_mem_cons.mpr ⟨pm_X0_place_r1 _ (List.mem_of_getElem? (i := 18) rfl), List.forall_mem_cons.mpr ⟨pm_X0_place_r1 _ (List.mem_of_getElem? (i := 11) rfl), List.forall_mem_cons.mpr ⟨pm_X0_place_r1 _ (List.mem_of_getElem? (i := 19) rfl), List.forall_mem_cons.mpr ⟨pm_X0_place_r1 _ (List.mem_of_getElem? (i := 20) rfl), List.forall_mem_cons.mpr ⟨pm_X0_place_r1 _ (List.mem_of_getElem? (i := 21) rfl), List.forall_mem_cons.mpr ⟨pm_X0_place_r1 _ (List.mem_of_getElem? (i := 16) rfl), List.forall_mem_cons.mpr ⟨pm_X0_place_r1 _ (List.mem_of_getElem? (i := 22) rfl), List.forall_mem_cons.mpr ⟨pm_X0_place_r1 _ (List.mem_of_getElem? (i := 10) rfl), List.forall_mem_cons.mpr ⟨pm_X0_place_r1 _ (List.mem_of_getElem? (i := 12) rfl), List.forall_mem_cons.mpr ⟨pm_X0_place_r1 _ (List.mem_of_getElem? (i := 23) rfl), fun _ h => absurd h List.not_mem_nil⟩⟩⟩⟩⟩⟩⟩⟩⟩⟩⟩, pw_X0_place_X0⟩⟩) (by decide +kernel)
set_option maxRecDepth 20000 in
theorem gX0_place_X0_firstCoin : GoodIn wsX0_place (wsV RX0 101 RX0 yX0_firstCoin wsX0_firstCoin) := goodIn_app (goodIn_of _ (by decide +kernel)) ggX0_place_X0_firstCoin
set_option maxRecDepth 20000 in
theorem ggX0_place_X0_canBeCheaper : GoodIn wsX0_place wsX0_canBeCheaper := goodIn_sub (List.forall_mem_cons.mpr ⟨pm_X0_place_r2 _ (List.mem_of_getElem? (i := 7) rfl), List.forall_mem_append.mpr ⟨List.forall_mem_cons.mpr ⟨pm_X0_place_r1 _ (List.mem_of_getElem? (i := 1) rfl), List.forall_mem_cons.mpr ⟨pm_X0_place_r1 _ (List.mem_of_getElem? (i := 9) rfl), List.forall_mem_cons.mpr ⟨pm_X0_place_r1 _ (List.mem_of_getElem? (i := 0) rfl), List.forall_mem_cons.mpr ⟨pm_X0_place_r1 _ (List.mem_of_getElem? (i := 11) rfl), List.forall_mem_cons.mpr ⟨pm_X0_place_r1 _ (List.mem_of_getElem? (i := 8) rfl), List.forall_mem_cons.mpr ⟨pm_X0_place_r1 _ (List.mem_of_getElem? (i := 10) rfl), List.forall_mem_cons.mpr ⟨pm_X0_place_r1 _ (List.mem_of_getElem? (i := 12) rfl), fun _ h => absurd h List.not_mem_nil⟩⟩⟩⟩⟩⟩⟩, pw_X0_place_X0⟩⟩) (by decide +kernel)
set_option maxRecDepth 20000 in
theorem gX0_place_X0_canBeCheaper : GoodIn wsX0_place (wsV RX0 104 RX0 yX0_canBeCheaper wsX0_canBeCheaper) := goodIn_app (goodIn_of _ (by decide +kernel)) ggX0_place_X0_canBeCheaper
set_option maxRecDepth 20000 in
theorem pq_X0_place_X0_place_r1 : ∀ w ∈ wsX0_place_r1, w ∈ wsX0_place := List.forall_mem_cons.mpr ⟨pm_X0_place_r1 _ (List.mem_of_getElem? (i := 0) rfl), List.forall_mem_cons.mpr ⟨pm_X0_place_r1 _ (List.mem_of_getElem? (i := 1) rfl), List.forall_mem_cons.mpr ⟨pm_X0_place_r1 _ (List.mem_of_getElem? (i := 2) rfl), List.forall_mem_cons.mpr ⟨pm_X0_place_r1 _ (List.mem_of_getElem? (i := 3) rfl), List.forall_mem_cons.mpr ⟨pm_X0_place_r1 _ (List.mem_of_getElem? (i := 4) rfl), List.forall_mem_cons.mpr ⟨pm_X0_place_r1 _ (List.mem_of_getElem? (i := 5) rfl), List.forall_mem_cons.mpr ⟨pm_X0_place_r1 _ (List.mem_of_getElem? (i := 6) rfl), List.forall_mem_cons.mpr ⟨pm_X0_place_r1 _ (List.mem_of_getElem? (i := 7) rfl), List.forall_mem_cons.mpr ⟨pm_X0_place_r1 _ (List.mem_of_getElem? (i := 8) rfl), List.forall_mem_cons.mpr ⟨pm_X0_place_r1 _ (List.mem_of_getElem? (i := 9) rfl), List.forall_mem_cons.mpr ⟨pm_X0_place_r1 _ (List.mem_of_getElem? (i := 10) rfl), List.forall_mem_cons.mpr ⟨pm_X0_place_r1 _ (List.mem_of_getElem? (i := 11) rfl), List.forall_mem_cons.mpr ⟨pm_X0_place_r1 _ (List.mem_of_getElem? (i := 12) rfl), List.forall_mem_cons.mpr ⟨pm_X0_place_r1 _ (List.mem_of_getElem? (i := 13) rfl), List.forall_mem_cons.mpr ⟨pm_X0_place_r1 _ (List.mem_of_getElem? (i := 14) rfl), List.forall_mem_cons.mpr ⟨pm_X0_place_r1 _ (List.mem_of_getElem? (i := 15) rfl), List.forall_mem_cons.mpr ⟨pm_X0_place_r1 _ (List.mem_of_getElem? (i := 16) rfl), List.forall_mem_cons.mpr ⟨pm_X0_place_r1 _ (List.mem_of_getElem? (i := 17) rfl), List.forall_mem_cons.mpr ⟨pm_X0_place_r1 _ (List.mem_of_getElem? (i := 18) rfl), List.forall_mem_cons.mpr ⟨pm_X0_place_r1 _ (List.mem_of_getElem? (i := 19) rfl), List.forall_mem_cons.mpr ⟨pm_X0_place_r1 _ (List.mem_of_getElem? (i := 20) rfl), List.forall_mem_cons.mpr ⟨pm_X0_place_r1 _ (List.mem_of_getElem? (i := 21) rfl), List.forall_mem_cons.mpr ⟨pm_X0_place_r1 _ (List.mem_of_getElem? (i := 22) rfl), List.forall_mem_cons.mpr ⟨pm_X0_place_r1 _ (List.mem_of_getElem? (i := 23) rfl), fun _ h => absurd h List.not_mem_nil⟩⟩⟩⟩⟩⟩⟩⟩⟩⟩⟩⟩⟩⟩⟩⟩⟩⟩⟩⟩⟩⟩⟩⟩
set_option maxRecDepth 20000 in
theorem pq_X0_place_X0_place_r2 : ∀ w ∈ wsX0_place_r2, w ∈ wsX0_place := List.forall_mem_cons.mpr ⟨pm_X0_place_r2 _ (List.mem_of_getElem? (i := 0) rfl), List.forall_mem_cons.mpr ⟨pm_X0_place_r2 _ (List.mem_of_getElem? (i := 1) rfl), List.forall_mem_cons.mpr ⟨pm_X0_place_r2 _ (List.mem_of_getElem? (i := 2) rfl), List.forall_mem_cons.mpr ⟨pm_X0_place_r2 _ (List.mem_of_getElem? (i := 3) rfl), List.forall_mem_cons.mpr ⟨pm_X0_place_r2 _ (List.mem_of_getElem? (i := 4) rfl), List.forall_mem_cons.mpr ⟨pm_X0_place_r2 _ (List.mem_of_getElem? (i := 5) rfl), List.forall_mem_cons.mpr ⟨pm_X0_place_r2 _ (List.mem_of_getElem? (i := 6) rfl), List.forall_mem_cons.mpr ⟨pm_X0_place_r2 _ (List.mem_of_getElem? (i := 7) rfl), List.forall_mem_cons.mpr ⟨pm_X0_place_r2 _ (List.mem_of_getElem? (i := 8) rfl), List.forall_mem_cons.mpr ⟨pm_X0_place_r2 _ (List.mem_of_getElem? (i := 9) rfl), List.forall_mem_cons.mpr ⟨pm_X0_place_r2 _ (List.mem_of_getElem? (i := 10) rfl), fun _ h => absurd h List.not_mem_nil⟩⟩⟩⟩⟩⟩⟩⟩⟩⟩⟩
set_option maxRecDepth 20000 in
theorem ggX0_place_X0_place : GoodIn wsX0_place wsX0_place := goodIn_sub (List.forall_mem_cons.mpr ⟨List.mem_cons_self, List.forall_mem_append.mpr ⟨List.forall_mem_append.mpr ⟨pq_X0_place_X0_place_r1, pq_X0_place_X0_place_r2⟩, pw_X0_place_X0⟩⟩) (by decide +kernel)
set_option maxRecDepth 20000 in
theorem gX0_place_X0_place : GoodIn wsX0_place (wsV RX0 72 RX0 yX0_place wsX0_place) := goodIn_app (goodIn_of _ (by decide +kernel)) ggX0_place_X0_place
theorem dX0_place_0 : decode cX0_place 0 = .ok (.iload_n 1, 1) := by decide +kernel
theorem dX0_place_1 : decode cX0_place 1 = .ok (.aload_n 0, 1) := by decide +kernel
theorem dX0_place_2 : decode cX0_place 2 = .ok (.getfield 45, 3) := by decide +kernel
theorem dX0_place_5 : decode cX0_place 5 = .ok (.if_icmp .lt 26, 3) := by decide +kernel
theorem dX0_place_8 : decode cX0_place 8 = .ok (.aload_n 0, 1) := by decide +kernel
theorem dX0_place_9 : decode cX0_place 9 = .ok (.iload_n 2, 1) := by decide +kernel
theorem dX0_place_10 : decode cX0_place 10 = .ok (.putfield 16, 3) := by decide +kernel
theorem dX0_place_13 : decode cX0_place 13 = .ok (.aload_n 0, 1) := by decide +kernel
theorem dX0_place_14 : decode cX0_place 14 = .ok (.getfield 37, 3) := by decide +kernel
theorem dX0_place_17 : decode cX0_place 17 = .ok (.iconst 0, 1) := by decide +kernel
theorem dX0_place_18 : decode cX0_place 18 = .ok (.aload_n 0, 1) := by decide +kernel
theorem dX0_place_19 : decode cX0_place 19 = .ok (.getfield 9, 3) := by decide +kernel
theorem dX0_place_22 : decode cX0_place 22 = .ok (.iconst 0, 1) := by decide +kernel
theorem dX0_place_23 : decode cX0_place 23 = .ok (.aload_n 0, 1) := by decide +kernel
theorem dX0_place_24 : decode cX0_place 24 = .ok (.getfield 45, 3) := by decide +kernel
theorem dX0_place_27 : decode cX0_place 27 = .ok (.invokestatic 92, 3) := by decide +kernel
theorem dX0_place_30 : decode cX0_place 30 = .ok (.return_, 1) := by decide +kernel
theorem dX0_place_31 : decode cX0_place 31 = .ok (.aload_n 0, 1) := by decide +kernel
theorem dX0_place_32 : decode cX0_place 32 = .ok (.iload_n 1, 1) := by decide +kernel
theorem dX0_place_33 : decode cX0_place 33 = .ok (.invokevirtual 98, 3) := by decide +kernel
theorem dX0_place_36 : decode cX0_place 36 = .ok (.istore_n 3, 1) := by decide +kernel
theorem dX0_place_37 : decode cX0_place 37 = .ok (.aload_n 0, 1) := by decide +kernel
theorem dX0_place_38 : decode cX0_place 38 = .ok (.iload_n 1, 1) := by decide +kernel
theorem dX0_place_39 : decode cX0_place 39 = .ok (.invokevirtual 101, 3) := by decide +kernel
theorem dX0_place_42 : decode cX0_place 42 = .ok (.istore 4, 2) := by decide +kernel
theorem dX0_place_44 : decode cX0_place 44 = .ok (.iload 4, 2) := by decide +kernel
theorem dX0_place_46 : decode cX0_place 46 = .ok (.iload_n 3, 1) := by decide +kernel
theorem dX0_place_47 : decode cX0_place 47 = .ok (.if_icmp .gt 117, 3) := by decide +kernel
theorem dX0_place_50 : decode cX0_place 50 = .ok (.iload_n 2, 1) := by decide +kernel
theorem dX0_place_51 : decode cX0_place 51 = .ok (.aload_n 0, 1) := by decide +kernel
theorem dX0_place_52 : decode cX0_place 52 = .ok (.getfield 23, 3) := by decide +kernel
theorem dX0_place_55 : decode cX0_place 55 = .ok (.iload_n 1, 1) := by decide +kernel
theorem dX0_place_56 : decode cX0_place 56 = .ok (.iaload, 1) := by decide +kernel
theorem dX0_place_57 : decode cX0_place 57 = .ok (.iload 4, 2) := by decide +kernel
theorem dX0_place_59 : decode cX0_place 59 = .ok (.imul, 1) := by decide +kernel
theorem dX0_place_60 : decode cX0_place 60 = .ok (.iadd, 1) := by decide +kernel
theorem dX0_place_61 : decode cX0_place 61 = .ok (.istore 5, 2) := by decide +kernel
theorem dX0_place_63 : decode cX0_place 63 = .ok (.iload 5, 2) := by decide +kernel
theorem dX0_place_65 : decode cX0_place 65 = .ok (.aload_n 0, 1) := by decide +kernel
theorem dX0_place_66 : decode cX0_place 66 = .ok (.getfield 16, 3) := by decide +kernel
theorem dX0_place_69 : decode cX0_place 69 = .ok (.if_icmp .lt 4, 3) := by decide +kernel
theorem dX0_place_72 : decode cX0_place 72 = .ok (.return_, 1) := by decide +kernel
theorem dX0_place_73 : decode cX0_place 73 = .ok (.aload_n 0, 1) := by decide +kernel
theorem dX0_place_74 : decode cX0_place 74 = .ok (.getfield 37, 3) := by decide +kernel
theorem dX0_place_77 : decode cX0_place 77 = .ok (.iload_n 1, 1) := by decide +kernel
theorem dX0_place_78 : decode cX0_place 78 = .ok (.iload 4, 2) := by decide +kernel
theorem dX0_place_80 : decode cX0_place 80 = .ok (.iastore, 1) := by decide +kernel
theorem dX0_place_81 : decode cX0_place 81 = .ok (.iconst 0, 1) := by decide +kernel
theorem dX0_place_82 : decode cX0_place 82 = .ok (.istore 6, 2) := by decide +kernel
theorem dX0_place_84 : decode cX0_place 84 = .ok (.iload 6, 2) := by decide +kernel
theorem dX0_place_86 : decode cX0_place 86 = .ok (.aload_n 0, 1) := by decide +kernel
theorem dX0_place_87 : decode cX0_place 87 = .ok (.getfield 49, 3) := by decide +kernel
theorem dX0_place_90 : decode cX0_place 90 = .ok (.if_icmp .ge 47, 3) := by decide +kernel
theorem dX0_place_93 : decode cX0_place 93 = .ok (.aload_n 0, 1) := by decide +kernel
theorem dX0_place_94 : decode cX0_place 94 = .ok (.getfield 34, 3) := by decide +kernel
theorem dX0_place_97 : decode cX0_place 97 = .ok (.iload_n 1, 1) := by decide +kernel
theorem dX0_place_98 : decode cX0_place 98 = .ok (.iconst 1, 1) := by decide +kernel
theorem dX0_place_99 : decode cX0_place 99 = .ok (.iadd, 1) := by decide +kernel
theorem dX0_place_100 : decode cX0_place 100 = .ok (.aaload, 1) := by decide +kernel
theorem dX0_place_101 : decode cX0_place 101 = .ok (.iload 6, 2) := by decide +kernel
theorem dX0_place_103 : decode cX0_place 103 = .ok (.aload_n 0, 1) := by decide +kernel
theorem dX0_place_104 : decode cX0_place 104 = .ok (.getfield 34, 3) := by decide +kernel
theorem dX0_place_107 : decode cX0_place 107 = .ok (.iload_n 1, 1) := by decide +kernel
theorem dX0_place_108 : decode cX0_place 108 = .ok (.aaload, 1) := by decide +kernel
theorem dX0_place_109 : decode cX0_place 109 = .ok (.iload 6, 2) := by decide +kernel
theorem dX0_place_111 : decode cX0_place 111 = .ok (.iaload, 1) := by decide +kernel
theorem dX0_place_112 : decode cX0_place 112 = .ok (.aload_n 0, 1) := by decide +kernel
theorem dX0_place_113 : decode cX0_place 113 = .ok (.getfield 28, 3) := by decide +kernel
theorem dX0_place_116 : decode cX0_place 116 = .ok (.iload 6, 2) := by decide +kernel
theorem dX0_place_118 : decode cX0_place 118 = .ok (.aaload, 1) := by decide +kernel
theorem dX0_place_119 : decode cX0_place 119 = .ok (.iload_n 1, 1) := by decide +kernel
theorem dX0_place_120 : decode cX0_place 120 = .ok (.iaload, 1) := by decide +kernel
theorem dX0_place_121 : decode cX0_place 121 = .ok (.aload_n 0, 1) := by decide +kernel
theorem dX0_place_122 : decode cX0_place 122 = .ok (.getfield 20, 3) := by decide +kernel
theorem dX0_place_125 : decode cX0_place 125 = .ok (.iload 4, 2) := by decide +kernel
theorem dX0_place_127 : decode cX0_place 127 = .ok (.iaload, 1) := by decide +kernel
theorem dX0_place_128 : decode cX0_place 128 = .ok (.imul, 1) := by decide +kernel
theorem dX0_place_129 : decode cX0_place 129 = .ok (.isub, 1) := by decide +kernel
theorem dX0_place_130 : decode cX0_place 130 = .ok (.iastore, 1) := by decide +kernel
theorem dX0_place_131 : decode cX0_place 131 = .ok (.iinc 6 1, 3) := by decide +kernel
theorem dX0_place_134 : decode cX0_place 134 = .ok (.goto (-50), 3) := by decide +kernel
theorem dX0_place_137 : decode cX0_place 137 = .ok (.aload_n 0, 1) := by decide +kernel
theorem dX0_place_138 : decode cX0_place 138 = .ok (.iload_n 1, 1) := by decide +kernel
theorem dX0_place_139 : decode cX0_place 139 = .ok (.iconst 1, 1) := by decide +kernel
theorem dX0_place_140 : decode cX0_place 140 = .ok (.iadd, 1) := by decide +kernel
theorem dX0_place_141 : decode cX0_place 141 = .ok (.iload 5, 2) := by decide +kernel
theorem dX0_place_143 : decode cX0_place 143 = .ok (.invokevirtual 104, 3) := by decide +kernel
theorem dX0_place_146 : decode cX0_place 146 = .ok (.ifCond .eq 12, 3) := by decide +kernel
theorem dX0_place_149 : decode cX0_place 149 = .ok (.aload_n 0, 1) := by decide +kernel
theorem dX0_place_150 : decode cX0_place 150 = .ok (.iload_n 1, 1) := by decide +kernel
theorem dX0_place_151 : decode cX0_place 151 = .ok (.iconst 1, 1) := by decide +kernel
theorem dX0_place_152 : decode cX0_place 152 = .ok (.iadd, 1) := by decide +kernel
theorem dX0_place_153 : decode cX0_place 153 = .ok (.iload 5, 2) := by decide +kernel
theorem dX0_place_155 : decode cX0_place 155 = .ok (.invokevirtual 72, 3) := by decide +kernel
theorem dX0_place_158 : decode cX0_place 158 = .ok (.iinc 4 1, 3) := by decide +kernel
theorem dX0_place_161 : decode cX0_place 161 = .ok (.goto (-117), 3) := by decide +kernel
theorem dX0_place_164 : decode cX0_place 164 = .ok (.return_, 1) := by decide +kernel
theorem dX0_canBeCheaper_0 : decode cX0_canBeCheaper 0 = .ok (.aload_n 0, 1) := by decide +kernel
theorem dX0_canBeCheaper_1 : decode cX0_canBeCheaper 1 = .ok (.getfield 16, 3) := by decide +kernel
theorem dX0_canBeCheaper_4 : decode cX0_canBeCheaper 4 = .ok (.i2l, 1) := by decide +kernel
theorem dX0_canBeCheaper_5 : decode cX0_canBeCheaper 5 = .ok (.iload_n 2, 1) := by decide +kernel
theorem dX0_canBeCheaper_6 : decode cX0_canBeCheaper 6 = .ok (.i2l, 1) := by decide +kernel
theorem dX0_canBeCheaper_7 : decode cX0_canBeCheaper 7 = .ok (.lsub, 1) := by decide +kernel
theorem dX0_canBeCheaper_8 : decode cX0_canBeCheaper 8 = .ok (.lstore_n 3, 1) := by decide +kernel
theorem dX0_canBeCheaper_9 : decode cX0_canBeCheaper 9 = .ok (.iconst 0, 1) := by decide +kernel
theorem dX0_canBeCheaper_10 : decode cX0_canBeCheaper 10 = .ok (.istore 5, 2) := by decide +kernel
theorem dX0_canBeCheaper_12 : decode cX0_canBeCheaper 12 = .ok (.iload 5, 2) := by decide +kernel
theorem dX0_canBeCheaper_14 : decode cX0_canBeCheaper 14 = .ok (.aload_n 0, 1) := by decide +kernel
theorem dX0_canBeCheaper_15 : decode cX0_canBeCheaper 15 = .ok (.getfield 49, 3) := by decide +kernel
theorem dX0_canBeCheaper_18 : decode cX0_canBeCheaper 18 = .ok (.if_icmp .ge 130, 3) := by decide +kernel
theorem dX0_canBeCheaper_21 : decode cX0_canBeCheaper 21 = .ok (.iconst 0, 1) := by decide +kernel
theorem dX0_canBeCheaper_22 : decode cX0_canBeCheaper 22 = .ok (.istore 6, 2) := by decide +kernel
theorem dX0_canBeCheaper_24 : decode cX0_canBeCheaper 24 = .ok (.iconst 1, 1) := by decide +kernel
theorem dX0_canBeCheaper_25 : decode cX0_canBeCheaper 25 = .ok (.istore 7, 2) := by decide +kernel
theorem dX0_canBeCheaper_27 : decode cX0_canBeCheaper 27 = .ok (.iload_n 1, 1) := by decide +kernel
theorem dX0_canBeCheaper_28 : decode cX0_canBeCheaper 28 = .ok (.istore 8, 2) := by decide +kernel
theorem dX0_canBeCheaper_30 : decode cX0_canBeCheaper 30 = .ok (.iload 8, 2) := by decide +kernel
theorem dX0_canBeCheaper_32 : decode cX0_canBeCheaper 32 = .ok (.aload_n 0, 1) := by decide +kernel
theorem dX0_canBeCheaper_33 : decode cX0_canBeCheaper 33 = .ok (.getfield 45, 3) := by decide +kernel
theorem dX0_canBeCheaper_36 : decode cX0_canBeCheaper 36 = .ok (.if_icmp .ge 56, 3) := by decide +kernel
theorem dX0_canBeCheaper_39 : decode cX0_canBeCheaper 39 = .ok (.aload_n 0, 1) := by decide +kernel
theorem dX0_canBeCheaper_40 : decode cX0_canBeCheaper 40 = .ok (.getfield 28, 3) := by decide +kernel
theorem dX0_canBeCheaper_43 : decode cX0_canBeCheaper 43 = .ok (.iload 5, 2) := by decide +kernel
theorem dX0_canBeCheaper_45 : decode cX0_canBeCheaper 45 = .ok (.aaload, 1) := by decide +kernel
theorem dX0_canBeCheaper_46 : decode cX0_canBeCheaper 46 = .ok (.iload 8, 2) := by decide +kernel
theorem dX0_canBeCheaper_48 : decode cX0_canBeCheaper 48 = .ok (.iaload, 1) := by decide +kernel
theorem dX0_canBeCheaper_49 : decode cX0_canBeCheaper 49 = .ok (.iload 7, 2) := by decide +kernel
theorem dX0_canBeCheaper_51 : decode cX0_canBeCheaper 51 = .ok (.imul, 1) := by decide +kernel
theorem dX0_canBeCheaper_52 : decode cX0_canBeCheaper 52 = .ok (.iload 6, 2) := by decide +kernel
theorem dX0_canBeCheaper_54 : decode cX0_canBeCheaper 54 = .ok (.aload_n 0, 1) := by decide +kernel
theorem dX0_canBeCheaper_55 : decode cX0_canBeCheaper 55 = .ok (.getfield 23, 3) := by decide +kernel
theorem dX0_canBeCheaper_58 : decode cX0_canBeCheaper 58 = .ok (.iload 8, 2) := by decide +kernel
theorem dX0_canBeCheaper_60 : decode cX0_canBeCheaper 60 = .ok (.iaload, 1) := by decide +kernel
theorem dX0_canBeCheaper_61 : decode cX0_canBeCheaper 61 = .ok (.imul, 1) := by decide +kernel
theorem dX0_canBeCheaper_62 : decode cX0_canBeCheaper 62 = .ok (.if_icmp .le 24, 3) := by decide +kernel
theorem dX0_canBeCheaper_65 : decode cX0_canBeCheaper 65 = .ok (.aload_n 0, 1) := by decide +kernel
theorem dX0_canBeCheaper_66 : decode cX0_canBeCheaper 66 = .ok (.getfield 28, 3) := by decide +kernel
theorem dX0_canBeCheaper_69 : decode cX0_canBeCheaper 69 = .ok (.iload 5, 2) := by decide +kernel
theorem dX0_canBeCheaper_71 : decode cX0_canBeCheaper 71 = .ok (.aaload, 1) := by decide +kernel
theorem dX0_canBeCheaper_72 : decode cX0_canBeCheaper 72 = .ok (.iload 8, 2) := by decide +kernel
theorem dX0_canBeCheaper_74 : decode cX0_canBeCheaper 74 = .ok (.iaload, 1) := by decide +kernel
theorem dX0_canBeCheaper_75 : decode cX0_canBeCheaper 75 = .ok (.istore 6, 2) := by decide +kernel
theorem dX0_canBeCheaper_77 : decode cX0_canBeCheaper 77 = .ok (.aload_n 0, 1) := by decide +kernel
theorem dX0_canBeCheaper_78 : decode cX0_canBeCheaper 78 = .ok (.getfield 23, 3) := by decide +kernel
theorem dX0_canBeCheaper_81 : decode cX0_canBeCheaper 81 = .ok (.iload 8, 2) := by decide +kernel
theorem dX0_canBeCheaper_83 : decode cX0_canBeCheaper 83 = .ok (.iaload, 1) := by decide +kernel
theorem dX0_canBeCheaper_84 : decode cX0_canBeCheaper 84 = .ok (.istore 7, 2) := by decide +kernel
theorem dX0_canBeCheaper_86 : decode cX0_canBeCheaper 86 = .ok (.iinc 8 1, 3) := by decide +kernel
theorem dX0_canBeCheaper_89 : decode cX0_canBeCheaper 89 = .ok (.goto (-59), 3) := by decide +kernel
theorem dX0_canBeCheaper_92 : decode cX0_canBeCheaper 92 = .ok (.iload 6, 2) := by decide +kernel
theorem dX0_canBeCheaper_94 : decode cX0_canBeCheaper 94 = .ok (.ifCond .le 48, 3) := by decide +kernel
theorem dX0_canBeCheaper_97 : decode cX0_canBeCheaper 97 = .ok (.aload_n 0, 1) := by decide +kernel
theorem dX0_canBeCheaper_98 : decode cX0_canBeCheaper 98 = .ok (.getfield 34, 3) := by decide +kernel
theorem dX0_canBeCheaper_101 : decode cX0_canBeCheaper 101 = .ok (.iload_n 1, 1) := by decide +kernel
theorem dX0_canBeCheaper_102 : decode cX0_canBeCheaper 102 = .ok (.aaload, 1) := by decide +kernel
theorem dX0_canBeCheaper_103 : decode cX0_canBeCheaper 103 = .ok (.iload 5, 2) := by decide +kernel
theorem dX0_canBeCheaper_105 : decode cX0_canBeCheaper 105 = .ok (.iaload, 1) := by decide +kernel
theorem dX0_canBeCheaper_106 : decode cX0_canBeCheaper 106 = .ok (.ifCond .le 36, 3) := by decide +kernel
theorem dX0_canBeCheaper_109 : decode cX0_canBeCheaper 109 = .ok (.aload_n 0, 1) := by decide +kernel
theorem dX0_canBeCheaper_110 : decode cX0_canBeCheaper 110 = .ok (.getfield 34, 3) := by decide +kernel
theorem dX0_canBeCheaper_113 : decode cX0_canBeCheaper 113 = .ok (.iload_n 1, 1) := by decide +kernel
theorem dX0_canBeCheaper_114 : decode cX0_canBeCheaper 114 = .ok (.aaload, 1) := by decide +kernel
theorem dX0_canBeCheaper_115 : decode cX0_canBeCheaper 115 = .ok (.iload 5, 2) := by decide +kernel
theorem dX0_canBeCheaper_117 : decode cX0_canBeCheaper 117 = .ok (.iaload, 1) := by decide +kernel
theorem dX0_canBeCheaper_118 : decode cX0_canBeCheaper 118 = .ok (.i2l, 1) := by decide +kernel
theorem dX0_canBeCheaper_119 : decode cX0_canBeCheaper 119 = .ok (.iload 7, 2) := by decide +kernel
theorem dX0_canBeCheaper_121 : decode cX0_canBeCheaper 121 = .ok (.i2l, 1) := by decide +kernel
theorem dX0_canBeCheaper_122 : decode cX0_canBeCheaper 122 = .ok (.lmul, 1) := by decide +kernel
theorem dX0_canBeCheaper_123 : decode cX0_canBeCheaper 123 = .ok (.lload_n 3, 1) := by decide +kernel
theorem dX0_canBeCheaper_124 : decode cX0_canBeCheaper 124 = .ok (.iload 6, 2) := by decide +kernel
theorem dX0_canBeCheaper_126 : decode cX0_canBeCheaper 126 = .ok (.i2l, 1) := by decide +kernel
theorem dX0_canBeCheaper_127 : decode cX0_canBeCheaper 127 = .ok (.lmul, 1) := by decide +kernel
theorem dX0_canBeCheaper_128 : decode cX0_canBeCheaper 128 = .ok (.aload_n 0, 1) := by decide +kernel
theorem dX0_canBeCheaper_129 : decode cX0_canBeCheaper 129 = .ok (.getfield 20, 3) := by decide +kernel
theorem dX0_canBeCheaper_132 : decode cX0_canBeCheaper 132 = .ok (.iconst 1, 1) := by decide +kernel
theorem dX0_canBeCheaper_133 : decode cX0_canBeCheaper 133 = .ok (.iaload, 1) := by decide +kernel
theorem dX0_canBeCheaper_134 : decode cX0_canBeCheaper 134 = .ok (.i2l, 1) := by decide +kernel
theorem dX0_canBeCheaper_135 : decode cX0_canBeCheaper 135 = .ok (.lmul, 1) := by decide +kernel
theorem dX0_canBeCheaper_136 : decode cX0_canBeCheaper 136 = .ok (.lcmp, 1) := by decide +kernel
theorem dX0_canBeCheaper_137 : decode cX0_canBeCheaper 137 = .ok (.ifCond .lt 5, 3) := by decide +kernel
theorem dX0_canBeCheaper_140 : decode cX0_canBeCheaper 140 = .ok (.iconst 0, 1) := by decide +kernel
theorem dX0_canBeCheaper_141 : decode cX0_canBeCheaper 141 = .ok (.ireturn, 1) := by decide +kernel
theorem dX0_canBeCheaper_142 : decode cX0_canBeCheaper 142 = .ok (.iinc 5 1, 3) := by decide +kernel
theorem dX0_canBeCheaper_145 : decode cX0_canBeCheaper 145 = .ok (.goto (-133), 3) := by decide +kernel
theorem dX0_canBeCheaper_148 : decode cX0_canBeCheaper 148 = .ok (.iconst 1, 1) := by decide +kernel
theorem dX0_canBeCheaper_149 : decode cX0_canBeCheaper 149 = .ok (.ireturn, 1) := by decide +kernel
theorem kk_X0_place_0 : Cond.fieldLink RX0 45 "PaidBySigns$CoinSearch" "signs" "I" ∈ wsX0_place := pm_X0_place_r1 _ (List.mem_of_getElem? (i := 0) rfl)
theorem kk_X0_place_1 : Cond.fieldLink RX0 23 "PaidBySigns$CoinSearch" "own" "[I" ∈ wsX0_place := pm_X0_place_r1 _ (List.mem_of_getElem? (i := 8) rfl)
theorem kk_X0_place_2 : Cond.fieldLink RX0 16 "PaidBySigns$CoinSearch" "bestCost" "I" ∈ wsX0_place := pm_X0_place_r1 _ (List.mem_of_getElem? (i := 1) rfl)
theorem kk_X0_place_3 : Cond.fieldLink RX0 37 "PaidBySigns$CoinSearch" "tried" "[I" ∈ wsX0_place := pm_X0_place_r1 _ (List.mem_of_getElem? (i := 2) rfl)
theorem kk_X0_place_4 : Cond.fieldLink RX0 49 "PaidBySigns$CoinSearch" "lines" "I" ∈ wsX0_place := pm_X0_place_r1 _ (List.mem_of_getElem? (i := 9) rfl)
theorem kk_X0_canBeCheaper_0 : Cond.fieldLink RX0 16 "PaidBySigns$CoinSearch" "bestCost" "I" ∈ wsX0_canBeCheaper := by decide +kernel
theorem kk_X0_canBeCheaper_1 : Cond.fieldLink RX0 49 "PaidBySigns$CoinSearch" "lines" "I" ∈ wsX0_canBeCheaper := by decide +kernel
theorem kk_X0_canBeCheaper_2 : Cond.fieldLink RX0 45 "PaidBySigns$CoinSearch" "signs" "I" ∈ wsX0_canBeCheaper := by decide +kernel
theorem kk_X0_canBeCheaper_3 : Cond.fieldLink RX0 28 "PaidBySigns$CoinSearch" "share" "[[I" ∈ wsX0_canBeCheaper := by decide +kernel
theorem kk_X0_canBeCheaper_4 : Cond.fieldLink RX0 23 "PaidBySigns$CoinSearch" "own" "[I" ∈ wsX0_canBeCheaper := by decide +kernel
theorem kk_X0_canBeCheaper_5 : Cond.fieldLink RX0 34 "PaidBySigns$CoinSearch" "left" "[[I" ∈ wsX0_canBeCheaper := by decide +kernel
theorem kk_X0_canBeCheaper_6 : Cond.fieldLink RX0 20 "PaidBySigns$CoinSearch" "felt" "[I" ∈ wsX0_canBeCheaper := by decide +kernel
theorem kk_X0_place_5 : Cond.fieldLink RX0 9 "PaidBySigns$CoinSearch" "chosen" "[I" ∈ wsX0_place := pm_X0_place_r1 _ (List.mem_of_getElem? (i := 3) rfl)
theorem kk_X0_place_6 : Cond.methodLink RX0 92 arraycopyName ∈ wsX0_place := pm_X0_place_r1 _ (List.mem_of_getElem? (i := 4) rfl)
theorem kk_X0_place_7 : Cond.native arraycopyName ∈ wsX0_place := pm_X0_place_r1 _ (List.mem_of_getElem? (i := 5) rfl)
theorem kk_X0_place_8 : Cond.static arraycopyName ∈ wsX0_place := pm_X0_place_r1 _ (List.mem_of_getElem? (i := 6) rfl)
theorem kk_X0_place_9 : Cond.initialized "java/lang/System" ∈ wsX0_place := pm_X0_place_r1 _ (List.mem_of_getElem? (i := 7) rfl)
theorem kk_X0_place_10 : Cond.fieldLink RX0 34 "PaidBySigns$CoinSearch" "left" "[[I" ∈ wsX0_place := pm_X0_place_r1 _ (List.mem_of_getElem? (i := 10) rfl)
theorem kk_X0_place_11 : Cond.fieldLink RX0 28 "PaidBySigns$CoinSearch" "share" "[[I" ∈ wsX0_place := pm_X0_place_r1 _ (List.mem_of_getElem? (i := 11) rfl)
theorem kk_X0_place_12 : Cond.fieldLink RX0 20 "PaidBySigns$CoinSearch" "felt" "[I" ∈ wsX0_place := pm_X0_place_r1 _ (List.mem_of_getElem? (i := 12) rfl)
theorem iw_X0_place_X0 : ∀ w ∈ wsX00, w ∈ wsX0_place := pw_X0_place_X0
theorem iw_X0_canBeCheaper_X0 : ∀ w ∈ wsX00, w ∈ wsX0_canBeCheaper := by decide +kernel

abbrev cX0_find : ByteArray := prog_2_method_2_code
def yX0_find : MethodName := ⟨RX0, "find", "(LPaidBySigns$Hire;II)Z"⟩
abbrev cX0_fillLine : ByteArray := prog_2_method_4_code
def yX0_fillLine : MethodName := ⟨RX0, "fillLine", "(LPaidBySigns$Hire;II)V"⟩
def tyX1 : Nat → FieldType := fun k => match k with
  | 0 => .int
  | 1 => .int
  | 2 => .int
  | 3 => .array .int
  | 4 => .array .int
  | 5 => .array .int
  | 6 => .array .int
  | 7 => .array .int
  | _ => .array .int
abbrev wsX10 : List Cond := u_ws RX1 TX1 9
theorem nmX1 : ∀ a, a < 9 → ∀ b, b < 9 → a ≠ b → (TX1 a).2.1 ≠ (TX1 b).2.1 := by decide +kernel
theorem tyX1_ok : ∀ k, k < 9 → parseFieldDescriptor (TX1 k).2.2.1 = some (tyX1 k) := by decide +kernel
abbrev cX1_forget : ByteArray := prog_3_method_2_code
def yX1_forget : MethodName := ⟨RX1, "forget", "()V"⟩
abbrev cX3_lackOf : ByteArray := prog_5_method_8_code
def yX3_lackOf : MethodName := ⟨RX3, "lackOf", "(II)I"⟩
def wsX3_lackOf : List Cond := .code yX3_lackOf cX3_lackOf 3 (some .int) :: ([.fieldLink RX3 15 "PaidBySigns$Hire" "costs" "[I", .fieldLink RX3 42 "PaidBySigns$Hire" "otherwise" "I", .fieldLink RX3 45 "PaidBySigns$Hire" "least" "I", .methodLink RX3 63 yX3_feltOf, .instanceMethod yX3_feltOf, .selects RX3 yX3_feltOf yX3_feltOf, .initialized RX3, .code yX3_feltOf cX3_feltOf 6 (some .int), .fieldLink RX3 48 "PaidBySigns$Hire" "rates" "I", .fieldLink RX3 26 "PaidBySigns$Hire" "mark" "[I", .methodLink RX3 51 Lib.Math.min.name, .static Lib.Math.min.name, .initialized "java/lang/Math", .code Lib.Math.min.name Lib.Math.min.code 2 (some .int), .fieldLink RX3 23 "PaidBySigns$Hire" "rate" "[I"] ++ wsX30)
def wsX0_fillLine_r1 : List Cond := [Cond.fieldLink RX0 34 "PaidBySigns$CoinSearch" "left" "[[I", Cond.fieldLink RX0 83 "PaidBySigns$Hire" "whole" "I", Cond.fieldLink RX0 31 "PaidBySigns$CoinSearch" "rest" "[[I", Cond.fieldLink RX0 45 "PaidBySigns$CoinSearch" "signs" "I", Cond.fieldLink RX0 28 "PaidBySigns$CoinSearch" "share" "[[I", Cond.fieldLink RX0 69 "PaidBySigns$Hire" "chances" "[[I", Cond.methodLink RX0 89 Lib.Math.max.name, Cond.static Lib.Math.max.name, Cond.initialized "java/lang/Math", Cond.code Lib.Math.max.name Lib.Math.max.code 2 (some .int), Cond.fieldLink RX0 20 "PaidBySigns$CoinSearch" "felt" "[I", Cond.fieldLink RX0 58 "PaidBySigns$CoinSearch" "most" "I", Cond.methodLink RX0 86 yX3_lackOf, Cond.instanceMethod yX3_lackOf, Cond.selects RX3 yX3_lackOf yX3_lackOf, Cond.initialized RX3, Cond.code yX3_lackOf cX3_lackOf 3 (some .int), Cond.fieldLink RX3 15 "PaidBySigns$Hire" "costs" "[I", Cond.fieldLink RX3 42 "PaidBySigns$Hire" "otherwise" "I", Cond.fieldLink RX3 45 "PaidBySigns$Hire" "least" "I", Cond.methodLink RX3 63 yX3_feltOf, Cond.instanceMethod yX3_feltOf, Cond.selects RX3 yX3_feltOf yX3_feltOf, Cond.code yX3_feltOf cX3_feltOf 6 (some .int)]
def wsX0_fillLine_r2 : List Cond := [Cond.fieldLink RX3 48 "PaidBySigns$Hire" "rates" "I", Cond.fieldLink RX3 26 "PaidBySigns$Hire" "mark" "[I", Cond.methodLink RX3 51 Lib.Math.min.name, Cond.static Lib.Math.min.name, Cond.code Lib.Math.min.name Lib.Math.min.code 2 (some .int), Cond.fieldLink RX3 23 "PaidBySigns$Hire" "rate" "[I"]
def wsX0_fillLine : List Cond := .code yX0_fillLine cX0_fillLine 5 none :: ((wsX0_fillLine_r1 ++ wsX0_fillLine_r2) ++ wsX00 ++ wsX30)
def wsX0_find_r1 : List Cond := [Cond.fieldLink RX0 40 "PaidBySigns$Hire" "signs" "I", Cond.fieldLink RX0 45 "PaidBySigns$CoinSearch" "signs" "I", Cond.fieldLink RX0 46 "PaidBySigns$Hire" "works" "I", Cond.fieldLink RX0 49 "PaidBySigns$CoinSearch" "lines" "I", Cond.methodLink RX0 52 Lib.Math.min.name, Cond.static Lib.Math.min.name, Cond.initialized "java/lang/Math", Cond.code Lib.Math.min.name Lib.Math.min.code 2 (some .int), Cond.fieldLink RX0 58 "PaidBySigns$CoinSearch" "most" "I", Cond.constant RX0 15 (1000000), Cond.fieldLink RX0 16 "PaidBySigns$CoinSearch" "bestCost" "I", Cond.fieldLink RX0 23 "PaidBySigns$CoinSearch" "own" "[I", Cond.fieldLink RX0 69 "PaidBySigns$Hire" "chances" "[[I", Cond.methodLink RX0 61 yX0_fillFelt, Cond.instanceMethod yX0_fillFelt, Cond.selects RX0 yX0_fillFelt yX0_fillFelt, Cond.initialized RX0, Cond.code yX0_fillFelt cX0_fillFelt 4 none, Cond.fieldLink RX0 76 "PaidBySigns$Hire" "least" "I", Cond.fieldLink RX0 20 "PaidBySigns$CoinSearch" "felt" "[I", Cond.methodLink RX0 79 yX3_feltOf, Cond.instanceMethod yX3_feltOf, Cond.selects RX3 yX3_feltOf yX3_feltOf, Cond.initialized RX3]
def wsX0_find_r2 : List Cond := [Cond.code yX3_feltOf cX3_feltOf 6 (some .int), Cond.fieldLink RX3 48 "PaidBySigns$Hire" "rates" "I", Cond.fieldLink RX3 26 "PaidBySigns$Hire" "mark" "[I", Cond.methodLink RX3 51 Lib.Math.min.name, Cond.fieldLink RX3 23 "PaidBySigns$Hire" "rate" "[I", Cond.methodLink RX0 65 yX0_fillLine, Cond.instanceMethod yX0_fillLine, Cond.selects RX0 yX0_fillLine yX0_fillLine, Cond.code yX0_fillLine cX0_fillLine 5 none, Cond.fieldLink RX0 34 "PaidBySigns$CoinSearch" "left" "[[I", Cond.fieldLink RX0 83 "PaidBySigns$Hire" "whole" "I", Cond.fieldLink RX0 31 "PaidBySigns$CoinSearch" "rest" "[[I", Cond.fieldLink RX0 28 "PaidBySigns$CoinSearch" "share" "[[I", Cond.methodLink RX0 89 Lib.Math.max.name, Cond.static Lib.Math.max.name, Cond.code Lib.Math.max.name Lib.Math.max.code 2 (some .int), Cond.methodLink RX0 86 yX3_lackOf, Cond.instanceMethod yX3_lackOf, Cond.selects RX3 yX3_lackOf yX3_lackOf, Cond.code yX3_lackOf cX3_lackOf 3 (some .int), Cond.fieldLink RX3 15 "PaidBySigns$Hire" "costs" "[I", Cond.fieldLink RX3 42 "PaidBySigns$Hire" "otherwise" "I", Cond.fieldLink RX3 45 "PaidBySigns$Hire" "least" "I", Cond.methodLink RX3 63 yX3_feltOf]
def wsX0_find_r3 : List Cond := [Cond.methodLink RX0 72 yX0_place, Cond.instanceMethod yX0_place, Cond.selects RX0 yX0_place yX0_place, Cond.code yX0_place cX0_place 7 none, Cond.fieldLink RX0 37 "PaidBySigns$CoinSearch" "tried" "[I", Cond.fieldLink RX0 9 "PaidBySigns$CoinSearch" "chosen" "[I", Cond.methodLink RX0 92 arraycopyName, Cond.native arraycopyName, Cond.static arraycopyName, Cond.initialized "java/lang/System", Cond.methodLink RX0 98 yX0_lastCoin, Cond.instanceMethod yX0_lastCoin, Cond.selects RX0 yX0_lastCoin yX0_lastCoin, Cond.code yX0_lastCoin cX0_lastCoin 4 (some .int), Cond.methodLink RX0 108 yX0_isShort, Cond.instanceMethod yX0_isShort, Cond.selects RX0 yX0_isShort yX0_isShort, Cond.code yX0_isShort cX0_isShort 4 (some .boolean), Cond.methodLink RX0 101 yX0_firstCoin, Cond.instanceMethod yX0_firstCoin, Cond.selects RX0 yX0_firstCoin yX0_firstCoin, Cond.code yX0_firstCoin cX0_firstCoin 4 (some .int), Cond.methodLink RX0 104 yX0_canBeCheaper, Cond.instanceMethod yX0_canBeCheaper]
def wsX0_find_r4 : List Cond := [Cond.selects RX0 yX0_canBeCheaper yX0_canBeCheaper, Cond.code yX0_canBeCheaper cX0_canBeCheaper 9 (some .boolean)]
def wsX0_find : List Cond := .code yX0_find cX0_find 5 (some .boolean) :: ((wsX0_find_r1 ++ (wsX0_find_r2 ++ (wsX0_find_r3 ++ wsX0_find_r4))) ++ wsX30 ++ wsX00)
def wsX1_forget : List Cond := .code yX1_forget cX1_forget 1 none :: ([.fieldLink RX1 9 "PaidBySigns$Diary" "seen" "I", .fieldLink RX1 15 "PaidBySigns$Diary" "rights" "I", .fieldLink RX1 18 "PaidBySigns$Diary" "latestStep" "I"] ++ wsX10)
theorem pm_X0_find_r1 : ∀ w ∈ wsX0_find_r1, w ∈ wsX0_find := fun _ h => List.mem_cons_of_mem _ (List.mem_append_left _ (List.mem_append_left _ (List.mem_append_left _ h)))
theorem pm_X0_find_r2 : ∀ w ∈ wsX0_find_r2, w ∈ wsX0_find := fun _ h => List.mem_cons_of_mem _ (List.mem_append_left _ (List.mem_append_left _ (List.mem_append_right _ (List.mem_append_left _ h))))
theorem pm_X0_find_r3 : ∀ w ∈ wsX0_find_r3, w ∈ wsX0_find := fun _ h => List.mem_cons_of_mem _ (List.mem_append_left _ (List.mem_append_left _ (List.mem_append_right _ (List.mem_append_right _ (List.mem_append_left _ h)))))
theorem pm_X0_find_r4 : ∀ w ∈ wsX0_find_r4, w ∈ wsX0_find := fun _ h => List.mem_cons_of_mem _ (List.mem_append_left _ (List.mem_append_left _ (List.mem_append_right _ (List.mem_append_right _ (List.mem_append_right _ (h))))))
theorem pw_X0_find_X3 : ∀ w ∈ wsX30, w ∈ wsX0_find := fun _ h => List.mem_cons_of_mem _ (List.mem_append_left _ (List.mem_append_right _ h))
theorem pw_X0_find_X0 : ∀ w ∈ wsX00, w ∈ wsX0_find := fun _ h => List.mem_cons_of_mem _ (List.mem_append_right _ h)
set_option maxRecDepth 20000 in
theorem ggX0_find_X0_fillFelt : GoodIn wsX0_find wsX0_fillFelt := goodIn_sub (List.forall_mem_cons.mpr ⟨pm_X0_find_r1 _ (List.mem_of_getElem? (i := 17) rfl), List.forall_mem_append.mpr ⟨List.forall_mem_append.mpr ⟨List.forall_mem_cons.mpr ⟨pm_X0_find_r1 _ (List.mem_of_getElem? (i := 18) rfl), List.forall_mem_cons.mpr ⟨pm_X0_find_r1 _ (List.mem_of_getElem? (i := 19) rfl), List.forall_mem_cons.mpr ⟨pm_X0_find_r1 _ (List.mem_of_getElem? (i := 20) rfl), List.forall_mem_cons.mpr ⟨pm_X0_find_r1 _ (List.mem_of_getElem? (i := 21) rfl), List.forall_mem_cons.mpr ⟨pm_X0_find_r1 _ (List.mem_of_getElem? (i := 22) rfl), List.forall_mem_cons.mpr ⟨pm_X0_find_r1 _ (List.mem_of_getElem? (i := 23) rfl), List.forall_mem_cons.mpr ⟨pm_X0_find_r2 _ (List.mem_of_getElem? (i := 0) rfl), List.forall_mem_cons.mpr ⟨pm_X0_find_r2 _ (List.mem_of_getElem? (i := 1) rfl), List.forall_mem_cons.mpr ⟨pm_X0_find_r2 _ (List.mem_of_getElem? (i := 2) rfl), List.forall_mem_cons.mpr ⟨pm_X0_find_r2 _ (List.mem_of_getElem? (i := 3) rfl), List.forall_mem_cons.mpr ⟨pm_X0_find_r1 _ (List.mem_of_getElem? (i := 5) rfl), List.forall_mem_cons.mpr ⟨pm_X0_find_r1 _ (List.mem_of_getElem? (i := 6) rfl), List.forall_mem_cons.mpr ⟨pm_X0_find_r1 _ (List.mem_of_getElem? (i := 7) rfl), List.forall_mem_cons.mpr ⟨pm_X0_find_r2 _ (List.mem_of_getElem? (i := 4) rfl), fun _ h => absurd h List.not_mem_nil⟩⟩⟩⟩⟩⟩⟩⟩⟩⟩⟩⟩⟩⟩, pw_X0_find_X3⟩, pw_X0_find_X0⟩⟩) (by decide +kernel)
set_option maxRecDepth 20000 in
theorem gX0_find_X0_fillFelt : GoodIn wsX0_find (wsV RX0 61 RX0 yX0_fillFelt wsX0_fillFelt) := goodIn_app (goodIn_of _ (by decide +kernel)) ggX0_find_X0_fillFelt
set_option maxRecDepth 20000 in
theorem pq_X0_find_X0_fillLine_r1 : ∀ w ∈ wsX0_fillLine_r1, w ∈ wsX0_find := List.forall_mem_cons.mpr ⟨pm_X0_find_r2 _ (List.mem_of_getElem? (i := 9) rfl), List.forall_mem_cons.mpr ⟨pm_X0_find_r2 _ (List.mem_of_getElem? (i := 10) rfl), List.forall_mem_cons.mpr ⟨pm_X0_find_r2 _ (List.mem_of_getElem? (i := 11) rfl), List.forall_mem_cons.mpr ⟨pm_X0_find_r1 _ (List.mem_of_getElem? (i := 1) rfl), List.forall_mem_cons.mpr ⟨pm_X0_find_r2 _ (List.mem_of_getElem? (i := 12) rfl), List.forall_mem_cons.mpr ⟨pm_X0_find_r1 _ (List.mem_of_getElem? (i := 12) rfl), List.forall_mem_cons.mpr ⟨pm_X0_find_r2 _ (List.mem_of_getElem? (i := 13) rfl), List.forall_mem_cons.mpr ⟨pm_X0_find_r2 _ (List.mem_of_getElem? (i := 14) rfl), List.forall_mem_cons.mpr ⟨pm_X0_find_r1 _ (List.mem_of_getElem? (i := 6) rfl), List.forall_mem_cons.mpr ⟨pm_X0_find_r2 _ (List.mem_of_getElem? (i := 15) rfl), List.forall_mem_cons.mpr ⟨pm_X0_find_r1 _ (List.mem_of_getElem? (i := 19) rfl), List.forall_mem_cons.mpr ⟨pm_X0_find_r1 _ (List.mem_of_getElem? (i := 8) rfl), List.forall_mem_cons.mpr ⟨pm_X0_find_r2 _ (List.mem_of_getElem? (i := 16) rfl), List.forall_mem_cons.mpr ⟨pm_X0_find_r2 _ (List.mem_of_getElem? (i := 17) rfl), List.forall_mem_cons.mpr ⟨pm_X0_find_r2 _ (List.mem_of_getElem? (i := 18) rfl), List.forall_mem_cons.mpr ⟨pm_X0_find_r1 _ (List.mem_of_getElem? (i := 23) rfl), List.forall_mem_cons.mpr ⟨pm_X0_find_r2 _ (List.mem_of_getElem? (i := 19) rfl), List.forall_mem_cons.mpr ⟨pm_X0_find_r2 _ (List.mem_of_getElem? (i := 20) rfl), List.forall_mem_cons.mpr ⟨pm_X0_find_r2 _ (List.mem_of_getElem? (i := 21) rfl), List.forall_mem_cons.mpr ⟨pm_X0_find_r2 _ (List.mem_of_getElem? (i := 22) rfl), List.forall_mem_cons.mpr ⟨pm_X0_find_r2 _ (List.mem_of_getElem? (i := 23) rfl), List.forall_mem_cons.mpr ⟨pm_X0_find_r1 _ (List.mem_of_getElem? (i := 21) rfl), List.forall_mem_cons.mpr ⟨pm_X0_find_r1 _ (List.mem_of_getElem? (i := 22) rfl), List.forall_mem_cons.mpr ⟨pm_X0_find_r2 _ (List.mem_of_getElem? (i := 0) rfl), fun _ h => absurd h List.not_mem_nil⟩⟩⟩⟩⟩⟩⟩⟩⟩⟩⟩⟩⟩⟩⟩⟩⟩⟩⟩⟩⟩⟩⟩⟩
set_option maxRecDepth 20000 in
theorem pq_X0_find_X0_fillLine_r2 : ∀ w ∈ wsX0_fillLine_r2, w ∈ wsX0_find := List.forall_mem_cons.mpr ⟨pm_X0_find_r2 _ (List.mem_of_getElem? (i := 1) rfl), List.forall_mem_cons.mpr ⟨pm_X0_find_r2 _ (List.mem_of_getElem? (i := 2) rfl), List.forall_mem_cons.mpr ⟨pm_X0_find_r2 _ (List.mem_of_getElem? (i := 3) rfl), List.forall_mem_cons.mpr ⟨pm_X0_find_r1 _ (List.mem_of_getElem? (i := 5) rfl), List.forall_mem_cons.mpr ⟨pm_X0_find_r1 _ (List.mem_of_getElem? (i := 7) rfl), List.forall_mem_cons.mpr ⟨pm_X0_find_r2 _ (List.mem_of_getElem? (i := 4) rfl), fun _ h => absurd h List.not_mem_nil⟩⟩⟩⟩⟩⟩
set_option maxRecDepth 20000 in
theorem ggX0_find_X0_fillLine : GoodIn wsX0_find wsX0_fillLine := goodIn_sub (List.forall_mem_cons.mpr ⟨pm_X0_find_r2 _ (List.mem_of_getElem? (i := 8) rfl), List.forall_mem_append.mpr ⟨List.forall_mem_append.mpr ⟨List.forall_mem_append.mpr ⟨pq_X0_find_X0_fillLine_r1, pq_X0_find_X0_fillLine_r2⟩, pw_X0_find_X0⟩, pw_X0_find_X3⟩⟩) (by decide +kernel)
set_option maxRecDepth 20000 in
theorem gX0_find_X0_fillLine : GoodIn wsX0_find (wsV RX0 65 RX0 yX0_fillLine wsX0_fillLine) := goodIn_app (goodIn_of _ (by decide +kernel)) ggX0_find_X0_fillLine
set_option maxRecDepth 20000 in
theorem pq_X0_find_X0_place_r1 : ∀ w ∈ wsX0_place_r1, w ∈ wsX0_find := List.forall_mem_cons.mpr ⟨pm_X0_find_r1 _ (List.mem_of_getElem? (i := 1) rfl), List.forall_mem_cons.mpr ⟨pm_X0_find_r1 _ (List.mem_of_getElem? (i := 10) rfl), List.forall_mem_cons.mpr ⟨pm_X0_find_r3 _ (List.mem_of_getElem? (i := 4) rfl), List.forall_mem_cons.mpr ⟨pm_X0_find_r3 _ (List.mem_of_getElem? (i := 5) rfl), List.forall_mem_cons.mpr ⟨pm_X0_find_r3 _ (List.mem_of_getElem? (i := 6) rfl), List.forall_mem_cons.mpr ⟨pm_X0_find_r3 _ (List.mem_of_getElem? (i := 7) rfl), List.forall_mem_cons.mpr ⟨pm_X0_find_r3 _ (List.mem_of_getElem? (i := 8) rfl), List.forall_mem_cons.mpr ⟨pm_X0_find_r3 _ (List.mem_of_getElem? (i := 9) rfl), List.forall_mem_cons.mpr ⟨pm_X0_find_r1 _ (List.mem_of_getElem? (i := 11) rfl), List.forall_mem_cons.mpr ⟨pm_X0_find_r1 _ (List.mem_of_getElem? (i := 3) rfl), List.forall_mem_cons.mpr ⟨pm_X0_find_r2 _ (List.mem_of_getElem? (i := 9) rfl), List.forall_mem_cons.mpr ⟨pm_X0_find_r2 _ (List.mem_of_getElem? (i := 12) rfl), List.forall_mem_cons.mpr ⟨pm_X0_find_r1 _ (List.mem_of_getElem? (i := 19) rfl), List.forall_mem_cons.mpr ⟨pm_X0_find_r3 _ (List.mem_of_getElem? (i := 10) rfl), List.forall_mem_cons.mpr ⟨pm_X0_find_r3 _ (List.mem_of_getElem? (i := 11) rfl), List.forall_mem_cons.mpr ⟨pm_X0_find_r3 _ (List.mem_of_getElem? (i := 12) rfl), List.forall_mem_cons.mpr ⟨pm_X0_find_r1 _ (List.mem_of_getElem? (i := 16) rfl), List.forall_mem_cons.mpr ⟨pm_X0_find_r3 _ (List.mem_of_getElem? (i := 13) rfl), List.forall_mem_cons.mpr ⟨pm_X0_find_r1 _ (List.mem_of_getElem? (i := 8) rfl), List.forall_mem_cons.mpr ⟨pm_X0_find_r3 _ (List.mem_of_getElem? (i := 14) rfl), List.forall_mem_cons.mpr ⟨pm_X0_find_r3 _ (List.mem_of_getElem? (i := 15) rfl), List.forall_mem_cons.mpr ⟨pm_X0_find_r3 _ (List.mem_of_getElem? (i := 16) rfl), List.forall_mem_cons.mpr ⟨pm_X0_find_r3 _ (List.mem_of_getElem? (i := 17) rfl), List.forall_mem_cons.mpr ⟨pm_X0_find_r2 _ (List.mem_of_getElem? (i := 11) rfl), fun _ h => absurd h List.not_mem_nil⟩⟩⟩⟩⟩⟩⟩⟩⟩⟩⟩⟩⟩⟩⟩⟩⟩⟩⟩⟩⟩⟩⟩⟩
set_option maxRecDepth 20000 in
theorem pq_X0_find_X0_place_r2 : ∀ w ∈ wsX0_place_r2, w ∈ wsX0_find := List.forall_mem_cons.mpr ⟨pm_X0_find_r3 _ (List.mem_of_getElem? (i := 18) rfl), List.forall_mem_cons.mpr ⟨pm_X0_find_r3 _ (List.mem_of_getElem? (i := 19) rfl), List.forall_mem_cons.mpr ⟨pm_X0_find_r3 _ (List.mem_of_getElem? (i := 20) rfl), List.forall_mem_cons.mpr ⟨pm_X0_find_r3 _ (List.mem_of_getElem? (i := 21) rfl), List.forall_mem_cons.mpr ⟨pm_X0_find_r3 _ (List.mem_of_getElem? (i := 22) rfl), List.forall_mem_cons.mpr ⟨pm_X0_find_r3 _ (List.mem_of_getElem? (i := 23) rfl), List.forall_mem_cons.mpr ⟨pm_X0_find_r4 _ (List.mem_of_getElem? (i := 0) rfl), List.forall_mem_cons.mpr ⟨pm_X0_find_r4 _ (List.mem_of_getElem? (i := 1) rfl), List.forall_mem_cons.mpr ⟨pm_X0_find_r3 _ (List.mem_of_getElem? (i := 0) rfl), List.forall_mem_cons.mpr ⟨pm_X0_find_r3 _ (List.mem_of_getElem? (i := 1) rfl), List.forall_mem_cons.mpr ⟨pm_X0_find_r3 _ (List.mem_of_getElem? (i := 2) rfl), fun _ h => absurd h List.not_mem_nil⟩⟩⟩⟩⟩⟩⟩⟩⟩⟩⟩
set_option maxRecDepth 20000 in
theorem ggX0_find_X0_place : GoodIn wsX0_find wsX0_place := goodIn_sub (List.forall_mem_cons.mpr ⟨pm_X0_find_r3 _ (List.mem_of_getElem? (i := 3) rfl), List.forall_mem_append.mpr ⟨List.forall_mem_append.mpr ⟨pq_X0_find_X0_place_r1, pq_X0_find_X0_place_r2⟩, pw_X0_find_X0⟩⟩) (by decide +kernel)
set_option maxRecDepth 20000 in
theorem gX0_find_X0_place : GoodIn wsX0_find (wsV RX0 72 RX0 yX0_place wsX0_place) := goodIn_app (goodIn_of _ (by decide +kernel)) ggX0_find_X0_place
theorem dX0_find_0 : decode cX0_find 0 = .ok (.aload_n 0, 1) := by decide +kernel
theorem dX0_find_1 : decode cX0_find 1 = .ok (.aload_n 1, 1) := by decide +kernel
theorem dX0_find_2 : decode cX0_find 2 = .ok (.getfield 40, 3) := by decide +kernel
theorem dX0_find_5 : decode cX0_find 5 = .ok (.putfield 45, 3) := by decide +kernel
theorem dX0_find_8 : decode cX0_find 8 = .ok (.aload_n 0, 1) := by decide +kernel
theorem dX0_find_9 : decode cX0_find 9 = .ok (.aload_n 1, 1) := by decide +kernel
theorem dX0_find_10 : decode cX0_find 10 = .ok (.getfield 46, 3) := by decide +kernel
theorem dX0_find_13 : decode cX0_find 13 = .ok (.putfield 49, 3) := by decide +kernel
theorem dX0_find_16 : decode cX0_find 16 = .ok (.aload_n 0, 1) := by decide +kernel
theorem dX0_find_17 : decode cX0_find 17 = .ok (.iload_n 3, 1) := by decide +kernel
theorem dX0_find_18 : decode cX0_find 18 = .ok (.bipush 20, 2) := by decide +kernel
theorem dX0_find_20 : decode cX0_find 20 = .ok (.invokestatic 52, 3) := by decide +kernel
theorem dX0_find_23 : decode cX0_find 23 = .ok (.putfield 58, 3) := by decide +kernel
theorem dX0_find_26 : decode cX0_find 26 = .ok (.aload_n 0, 1) := by decide +kernel
theorem dX0_find_27 : decode cX0_find 27 = .ok (.ldc 15, 2) := by decide +kernel
theorem dX0_find_29 : decode cX0_find 29 = .ok (.putfield 16, 3) := by decide +kernel
theorem dX0_find_32 : decode cX0_find 32 = .ok (.aload_n 0, 1) := by decide +kernel
theorem dX0_find_33 : decode cX0_find 33 = .ok (.aload_n 1, 1) := by decide +kernel
theorem dX0_find_34 : decode cX0_find 34 = .ok (.invokevirtual 61, 3) := by decide +kernel
theorem dX0_find_37 : decode cX0_find 37 = .ok (.iconst 0, 1) := by decide +kernel
theorem dX0_find_38 : decode cX0_find 38 = .ok (.istore 4, 2) := by decide +kernel
theorem dX0_find_40 : decode cX0_find 40 = .ok (.iload 4, 2) := by decide +kernel
theorem dX0_find_42 : decode cX0_find 42 = .ok (.aload_n 0, 1) := by decide +kernel
theorem dX0_find_43 : decode cX0_find 43 = .ok (.getfield 49, 3) := by decide +kernel
theorem dX0_find_46 : decode cX0_find 46 = .ok (.if_icmp .ge 17, 3) := by decide +kernel
theorem dX0_find_49 : decode cX0_find 49 = .ok (.aload_n 0, 1) := by decide +kernel
theorem dX0_find_50 : decode cX0_find 50 = .ok (.aload_n 1, 1) := by decide +kernel
theorem dX0_find_51 : decode cX0_find 51 = .ok (.iload_n 2, 1) := by decide +kernel
theorem dX0_find_52 : decode cX0_find 52 = .ok (.iload 4, 2) := by decide +kernel
theorem dX0_find_54 : decode cX0_find 54 = .ok (.invokevirtual 65, 3) := by decide +kernel
theorem dX0_find_57 : decode cX0_find 57 = .ok (.iinc 4 1, 3) := by decide +kernel
theorem dX0_find_60 : decode cX0_find 60 = .ok (.goto (-20), 3) := by decide +kernel
theorem dX0_find_63 : decode cX0_find 63 = .ok (.iconst 0, 1) := by decide +kernel
theorem dX0_find_64 : decode cX0_find 64 = .ok (.istore 4, 2) := by decide +kernel
theorem dX0_find_66 : decode cX0_find 66 = .ok (.iload 4, 2) := by decide +kernel
theorem dX0_find_68 : decode cX0_find 68 = .ok (.aload_n 0, 1) := by decide +kernel
theorem dX0_find_69 : decode cX0_find 69 = .ok (.getfield 45, 3) := by decide +kernel
theorem dX0_find_72 : decode cX0_find 72 = .ok (.if_icmp .ge 25, 3) := by decide +kernel
theorem dX0_find_75 : decode cX0_find 75 = .ok (.aload_n 0, 1) := by decide +kernel
theorem dX0_find_76 : decode cX0_find 76 = .ok (.getfield 23, 3) := by decide +kernel
theorem dX0_find_79 : decode cX0_find 79 = .ok (.iload 4, 2) := by decide +kernel
theorem dX0_find_81 : decode cX0_find 81 = .ok (.aload_n 1, 1) := by decide +kernel
theorem dX0_find_82 : decode cX0_find 82 = .ok (.getfield 69, 3) := by decide +kernel
theorem dX0_find_85 : decode cX0_find 85 = .ok (.iload_n 2, 1) := by decide +kernel
theorem dX0_find_86 : decode cX0_find 86 = .ok (.aaload, 1) := by decide +kernel
theorem dX0_find_87 : decode cX0_find 87 = .ok (.iload 4, 2) := by decide +kernel
theorem dX0_find_89 : decode cX0_find 89 = .ok (.iaload, 1) := by decide +kernel
theorem dX0_find_90 : decode cX0_find 90 = .ok (.iastore, 1) := by decide +kernel
theorem dX0_find_91 : decode cX0_find 91 = .ok (.iinc 4 1, 3) := by decide +kernel
theorem dX0_find_94 : decode cX0_find 94 = .ok (.goto (-28), 3) := by decide +kernel
theorem dX0_find_97 : decode cX0_find 97 = .ok (.aload_n 0, 1) := by decide +kernel
theorem dX0_find_98 : decode cX0_find 98 = .ok (.iconst 0, 1) := by decide +kernel
theorem dX0_find_99 : decode cX0_find 99 = .ok (.iconst 0, 1) := by decide +kernel
theorem dX0_find_100 : decode cX0_find 100 = .ok (.invokevirtual 72, 3) := by decide +kernel
theorem dX0_find_103 : decode cX0_find 103 = .ok (.aload_n 0, 1) := by decide +kernel
theorem dX0_find_104 : decode cX0_find 104 = .ok (.getfield 16, 3) := by decide +kernel
theorem dX0_find_107 : decode cX0_find 107 = .ok (.ldc 15, 2) := by decide +kernel
theorem dX0_find_109 : decode cX0_find 109 = .ok (.if_icmp .eq 7, 3) := by decide +kernel
theorem dX0_find_112 : decode cX0_find 112 = .ok (.iconst 1, 1) := by decide +kernel
theorem dX0_find_113 : decode cX0_find 113 = .ok (.goto 4, 3) := by decide +kernel
theorem dX0_find_116 : decode cX0_find 116 = .ok (.iconst 0, 1) := by decide +kernel
theorem dX0_find_117 : decode cX0_find 117 = .ok (.ireturn, 1) := by decide +kernel
theorem pm_X0_fillLine_r1 : ∀ w ∈ wsX0_fillLine_r1, w ∈ wsX0_fillLine := fun _ h => List.mem_cons_of_mem _ (List.mem_append_left _ (List.mem_append_left _ (List.mem_append_left _ h)))
theorem pm_X0_fillLine_r2 : ∀ w ∈ wsX0_fillLine_r2, w ∈ wsX0_fillLine := fun _ h => List.mem_cons_of_mem _ (List.mem_append_left _ (List.mem_append_left _ (List.mem_append_right _ (h))))
theorem pw_X0_fillLine_X0 : ∀ w ∈ wsX00, w ∈ wsX0_fillLine := fun _ h => List.mem_cons_of_mem _ (List.mem_append_left _ (List.mem_append_right _ h))
theorem pw_X0_fillLine_X3 : ∀ w ∈ wsX30, w ∈ wsX0_fillLine := fun _ h => List.mem_cons_of_mem _ (List.mem_append_right _ h)
set_option maxRecDepth 20000 in
theorem ggX0_fillLine_X3_lackOf : GoodIn wsX0_fillLine wsX3_lackOf := goodIn_sub (List.forall_mem_cons.mpr ⟨pm_X0_fillLine_r1 _ (List.mem_of_getElem? (i := 16) rfl), List.forall_mem_append.mpr ⟨List.forall_mem_cons.mpr ⟨pm_X0_fillLine_r1 _ (List.mem_of_getElem? (i := 17) rfl), List.forall_mem_cons.mpr ⟨pm_X0_fillLine_r1 _ (List.mem_of_getElem? (i := 18) rfl), List.forall_mem_cons.mpr ⟨pm_X0_fillLine_r1 _ (List.mem_of_getElem? (i := 19) rfl), List.forall_mem_cons.mpr ⟨pm_X0_fillLine_r1 _ (List.mem_of_getElem? (i := 20) rfl), List.forall_mem_cons.mpr ⟨pm_X0_fillLine_r1 _ (List.mem_of_getElem? (i := 21) rfl), List.forall_mem_cons.mpr ⟨pm_X0_fillLine_r1 _ (List.mem_of_getElem? (i := 22) rfl), List.forall_mem_cons.mpr ⟨pm_X0_fillLine_r1 _ (List.mem_of_getElem? (i := 15) rfl), List.forall_mem_cons.mpr ⟨pm_X0_fillLine_r1 _ (List.mem_of_getElem? (i := 23) rfl), List.forall_mem_cons.mpr ⟨pm_X0_fillLine_r2 _ (List.mem_of_getElem? (i := 0) rfl), List.forall_mem_cons.mpr ⟨pm_X0_fillLine_r2 _ (List.mem_of_getElem? (i := 1) rfl), List.forall_mem_cons.mpr ⟨pm_X0_fillLine_r2 _ (List.mem_of_getElem? (i := 2) rfl), List.forall_mem_cons.mpr ⟨pm_X0_fillLine_r2 _ (List.mem_of_getElem? (i := 3) rfl), List.forall_mem_cons.mpr ⟨pm_X0_fillLine_r1 _ (List.mem_of_getElem? (i := 8) rfl), List.forall_mem_cons.mpr ⟨pm_X0_fillLine_r2 _ (List.mem_of_getElem? (i := 4) rfl), List.forall_mem_cons.mpr ⟨pm_X0_fillLine_r2 _ (List.mem_of_getElem? (i := 5) rfl), fun _ h => absurd h List.not_mem_nil⟩⟩⟩⟩⟩⟩⟩⟩⟩⟩⟩⟩⟩⟩⟩, pw_X0_fillLine_X3⟩⟩) (by decide +kernel)
set_option maxRecDepth 20000 in
theorem gX0_fillLine_X3_lackOf : GoodIn wsX0_fillLine (wsV RX0 86 RX3 yX3_lackOf wsX3_lackOf) := goodIn_app (goodIn_of _ (by decide +kernel)) ggX0_fillLine_X3_lackOf
theorem dX0_fillLine_0 : decode cX0_fillLine 0 = .ok (.aload_n 0, 1) := by decide +kernel
theorem dX0_fillLine_1 : decode cX0_fillLine 1 = .ok (.getfield 34, 3) := by decide +kernel
theorem dX0_fillLine_4 : decode cX0_fillLine 4 = .ok (.iconst 0, 1) := by decide +kernel
theorem dX0_fillLine_5 : decode cX0_fillLine 5 = .ok (.aaload, 1) := by decide +kernel
theorem dX0_fillLine_6 : decode cX0_fillLine 6 = .ok (.iload_n 3, 1) := by decide +kernel
theorem dX0_fillLine_7 : decode cX0_fillLine 7 = .ok (.aload_n 1, 1) := by decide +kernel
theorem dX0_fillLine_8 : decode cX0_fillLine 8 = .ok (.getfield 83, 3) := by decide +kernel
theorem dX0_fillLine_11 : decode cX0_fillLine 11 = .ok (.aload_n 1, 1) := by decide +kernel
theorem dX0_fillLine_12 : decode cX0_fillLine 12 = .ok (.iload_n 2, 1) := by decide +kernel
theorem dX0_fillLine_13 : decode cX0_fillLine 13 = .ok (.iload_n 3, 1) := by decide +kernel
theorem dX0_fillLine_14 : decode cX0_fillLine 14 = .ok (.invokevirtual 86, 3) := by decide +kernel
theorem dX0_fillLine_17 : decode cX0_fillLine 17 = .ok (.imul, 1) := by decide +kernel
theorem dX0_fillLine_18 : decode cX0_fillLine 18 = .ok (.iastore, 1) := by decide +kernel
theorem dX0_fillLine_19 : decode cX0_fillLine 19 = .ok (.aload_n 0, 1) := by decide +kernel
theorem dX0_fillLine_20 : decode cX0_fillLine 20 = .ok (.getfield 31, 3) := by decide +kernel
theorem dX0_fillLine_23 : decode cX0_fillLine 23 = .ok (.iload_n 3, 1) := by decide +kernel
theorem dX0_fillLine_24 : decode cX0_fillLine 24 = .ok (.aaload, 1) := by decide +kernel
theorem dX0_fillLine_25 : decode cX0_fillLine 25 = .ok (.aload_n 0, 1) := by decide +kernel
theorem dX0_fillLine_26 : decode cX0_fillLine 26 = .ok (.getfield 45, 3) := by decide +kernel
theorem dX0_fillLine_29 : decode cX0_fillLine 29 = .ok (.iconst 0, 1) := by decide +kernel
theorem dX0_fillLine_30 : decode cX0_fillLine 30 = .ok (.iastore, 1) := by decide +kernel
theorem dX0_fillLine_31 : decode cX0_fillLine 31 = .ok (.aload_n 0, 1) := by decide +kernel
theorem dX0_fillLine_32 : decode cX0_fillLine 32 = .ok (.getfield 45, 3) := by decide +kernel
theorem dX0_fillLine_35 : decode cX0_fillLine 35 = .ok (.iconst 1, 1) := by decide +kernel
theorem dX0_fillLine_36 : decode cX0_fillLine 36 = .ok (.isub, 1) := by decide +kernel
theorem dX0_fillLine_37 : decode cX0_fillLine 37 = .ok (.istore 4, 2) := by decide +kernel
theorem dX0_fillLine_39 : decode cX0_fillLine 39 = .ok (.iload 4, 2) := by decide +kernel
theorem dX0_fillLine_41 : decode cX0_fillLine 41 = .ok (.ifCond .lt 90, 3) := by decide +kernel
theorem dX0_fillLine_44 : decode cX0_fillLine 44 = .ok (.aload_n 0, 1) := by decide +kernel
theorem dX0_fillLine_45 : decode cX0_fillLine 45 = .ok (.getfield 28, 3) := by decide +kernel
theorem dX0_fillLine_48 : decode cX0_fillLine 48 = .ok (.iload_n 3, 1) := by decide +kernel
theorem dX0_fillLine_49 : decode cX0_fillLine 49 = .ok (.aaload, 1) := by decide +kernel
theorem dX0_fillLine_50 : decode cX0_fillLine 50 = .ok (.iload 4, 2) := by decide +kernel
theorem dX0_fillLine_52 : decode cX0_fillLine 52 = .ok (.aload_n 1, 1) := by decide +kernel
theorem dX0_fillLine_53 : decode cX0_fillLine 53 = .ok (.getfield 69, 3) := by decide +kernel
theorem dX0_fillLine_56 : decode cX0_fillLine 56 = .ok (.iload_n 2, 1) := by decide +kernel
theorem dX0_fillLine_57 : decode cX0_fillLine 57 = .ok (.aaload, 1) := by decide +kernel
theorem dX0_fillLine_58 : decode cX0_fillLine 58 = .ok (.iload 4, 2) := by decide +kernel
theorem dX0_fillLine_60 : decode cX0_fillLine 60 = .ok (.iaload, 1) := by decide +kernel
theorem dX0_fillLine_61 : decode cX0_fillLine 61 = .ok (.iload_n 3, 1) := by decide +kernel
theorem dX0_fillLine_62 : decode cX0_fillLine 62 = .ok (.iload_n 2, 1) := by decide +kernel
theorem dX0_fillLine_63 : decode cX0_fillLine 63 = .ok (.if_icmp .ne 7, 3) := by decide +kernel
theorem dX0_fillLine_66 : decode cX0_fillLine 66 = .ok (.iconst 0, 1) := by decide +kernel
theorem dX0_fillLine_67 : decode cX0_fillLine 67 = .ok (.goto 12, 3) := by decide +kernel
theorem dX0_fillLine_70 : decode cX0_fillLine 70 = .ok (.aload_n 1, 1) := by decide +kernel
theorem dX0_fillLine_71 : decode cX0_fillLine 71 = .ok (.getfield 69, 3) := by decide +kernel
theorem dX0_fillLine_74 : decode cX0_fillLine 74 = .ok (.iload_n 3, 1) := by decide +kernel
theorem dX0_fillLine_75 : decode cX0_fillLine 75 = .ok (.aaload, 1) := by decide +kernel
theorem dX0_fillLine_76 : decode cX0_fillLine 76 = .ok (.iload 4, 2) := by decide +kernel
theorem dX0_fillLine_78 : decode cX0_fillLine 78 = .ok (.iaload, 1) := by decide +kernel
theorem dX0_fillLine_79 : decode cX0_fillLine 79 = .ok (.isub, 1) := by decide +kernel
theorem dX0_fillLine_80 : decode cX0_fillLine 80 = .ok (.iastore, 1) := by decide +kernel
theorem dX0_fillLine_81 : decode cX0_fillLine 81 = .ok (.aload_n 0, 1) := by decide +kernel
theorem dX0_fillLine_82 : decode cX0_fillLine 82 = .ok (.getfield 31, 3) := by decide +kernel
theorem dX0_fillLine_85 : decode cX0_fillLine 85 = .ok (.iload_n 3, 1) := by decide +kernel
theorem dX0_fillLine_86 : decode cX0_fillLine 86 = .ok (.aaload, 1) := by decide +kernel
theorem dX0_fillLine_87 : decode cX0_fillLine 87 = .ok (.iload 4, 2) := by decide +kernel
theorem dX0_fillLine_89 : decode cX0_fillLine 89 = .ok (.aload_n 0, 1) := by decide +kernel
theorem dX0_fillLine_90 : decode cX0_fillLine 90 = .ok (.getfield 31, 3) := by decide +kernel
theorem dX0_fillLine_93 : decode cX0_fillLine 93 = .ok (.iload_n 3, 1) := by decide +kernel
theorem dX0_fillLine_94 : decode cX0_fillLine 94 = .ok (.aaload, 1) := by decide +kernel
theorem dX0_fillLine_95 : decode cX0_fillLine 95 = .ok (.iload 4, 2) := by decide +kernel
theorem dX0_fillLine_97 : decode cX0_fillLine 97 = .ok (.iconst 1, 1) := by decide +kernel
theorem dX0_fillLine_98 : decode cX0_fillLine 98 = .ok (.iadd, 1) := by decide +kernel
theorem dX0_fillLine_99 : decode cX0_fillLine 99 = .ok (.iaload, 1) := by decide +kernel
theorem dX0_fillLine_100 : decode cX0_fillLine 100 = .ok (.iconst 0, 1) := by decide +kernel
theorem dX0_fillLine_101 : decode cX0_fillLine 101 = .ok (.aload_n 0, 1) := by decide +kernel
theorem dX0_fillLine_102 : decode cX0_fillLine 102 = .ok (.getfield 28, 3) := by decide +kernel
theorem dX0_fillLine_105 : decode cX0_fillLine 105 = .ok (.iload_n 3, 1) := by decide +kernel
theorem dX0_fillLine_106 : decode cX0_fillLine 106 = .ok (.aaload, 1) := by decide +kernel
theorem dX0_fillLine_107 : decode cX0_fillLine 107 = .ok (.iload 4, 2) := by decide +kernel
theorem dX0_fillLine_109 : decode cX0_fillLine 109 = .ok (.iaload, 1) := by decide +kernel
theorem dX0_fillLine_110 : decode cX0_fillLine 110 = .ok (.invokestatic 89, 3) := by decide +kernel
theorem dX0_fillLine_113 : decode cX0_fillLine 113 = .ok (.aload_n 0, 1) := by decide +kernel
theorem dX0_fillLine_114 : decode cX0_fillLine 114 = .ok (.getfield 20, 3) := by decide +kernel
theorem dX0_fillLine_117 : decode cX0_fillLine 117 = .ok (.aload_n 0, 1) := by decide +kernel
theorem dX0_fillLine_118 : decode cX0_fillLine 118 = .ok (.getfield 58, 3) := by decide +kernel
theorem dX0_fillLine_121 : decode cX0_fillLine 121 = .ok (.iaload, 1) := by decide +kernel
theorem dX0_fillLine_122 : decode cX0_fillLine 122 = .ok (.imul, 1) := by decide +kernel
theorem dX0_fillLine_123 : decode cX0_fillLine 123 = .ok (.iadd, 1) := by decide +kernel
theorem dX0_fillLine_124 : decode cX0_fillLine 124 = .ok (.iastore, 1) := by decide +kernel
theorem dX0_fillLine_125 : decode cX0_fillLine 125 = .ok (.iinc 4 (-1), 3) := by decide +kernel
theorem dX0_fillLine_128 : decode cX0_fillLine 128 = .ok (.goto (-89), 3) := by decide +kernel
theorem dX0_fillLine_131 : decode cX0_fillLine 131 = .ok (.return_, 1) := by decide +kernel
theorem dX1_forget_0 : decode cX1_forget 0 = .ok (.aload_n 0, 1) := by decide +kernel
theorem dX1_forget_1 : decode cX1_forget 1 = .ok (.iconst 0, 1) := by decide +kernel
theorem dX1_forget_2 : decode cX1_forget 2 = .ok (.putfield 9, 3) := by decide +kernel
theorem dX1_forget_5 : decode cX1_forget 5 = .ok (.aload_n 0, 1) := by decide +kernel
theorem dX1_forget_6 : decode cX1_forget 6 = .ok (.iconst 0, 1) := by decide +kernel
theorem dX1_forget_7 : decode cX1_forget 7 = .ok (.putfield 15, 3) := by decide +kernel
theorem dX1_forget_10 : decode cX1_forget 10 = .ok (.aload_n 0, 1) := by decide +kernel
theorem dX1_forget_11 : decode cX1_forget 11 = .ok (.iconst 0, 1) := by decide +kernel
theorem dX1_forget_12 : decode cX1_forget 12 = .ok (.putfield 18, 3) := by decide +kernel
theorem dX1_forget_15 : decode cX1_forget 15 = .ok (.return_, 1) := by decide +kernel
set_option maxRecDepth 20000 in
theorem ggX3_lackOf_X3_feltOf : GoodIn wsX3_lackOf wsX3_feltOf := goodIn_r _ [8, 9, 10, 11, 12, 13, 14, 15, 16, 17, 18, 19, 20, 21, 22, 23, 24, 25, 26] (by decide +kernel) (by decide +kernel)
set_option maxRecDepth 20000 in
theorem gX3_lackOf_X3_feltOf : GoodIn wsX3_lackOf (wsV RX3 63 RX3 yX3_feltOf wsX3_feltOf) := goodIn_app (goodIn_of _ (by decide +kernel)) ggX3_lackOf_X3_feltOf
theorem dX3_lackOf_0 : decode cX3_lackOf 0 = .ok (.iload_n 2, 1) := by decide +kernel
theorem dX3_lackOf_1 : decode cX3_lackOf 1 = .ok (.iload_n 1, 1) := by decide +kernel
theorem dX3_lackOf_2 : decode cX3_lackOf 2 = .ok (.if_icmp .ne 26, 3) := by decide +kernel
theorem dX3_lackOf_5 : decode cX3_lackOf 5 = .ok (.aload_n 0, 1) := by decide +kernel
theorem dX3_lackOf_6 : decode cX3_lackOf 6 = .ok (.getfield 15, 3) := by decide +kernel
theorem dX3_lackOf_9 : decode cX3_lackOf 9 = .ok (.iload_n 1, 1) := by decide +kernel
theorem dX3_lackOf_10 : decode cX3_lackOf 10 = .ok (.iaload, 1) := by decide +kernel
theorem dX3_lackOf_11 : decode cX3_lackOf 11 = .ok (.aload_n 0, 1) := by decide +kernel
theorem dX3_lackOf_12 : decode cX3_lackOf 12 = .ok (.getfield 42, 3) := by decide +kernel
theorem dX3_lackOf_15 : decode cX3_lackOf 15 = .ok (.iadd, 1) := by decide +kernel
theorem dX3_lackOf_16 : decode cX3_lackOf 16 = .ok (.aload_n 0, 1) := by decide +kernel
theorem dX3_lackOf_17 : decode cX3_lackOf 17 = .ok (.aload_n 0, 1) := by decide +kernel
theorem dX3_lackOf_18 : decode cX3_lackOf 18 = .ok (.getfield 45, 3) := by decide +kernel
theorem dX3_lackOf_21 : decode cX3_lackOf 21 = .ok (.invokevirtual 63, 3) := by decide +kernel
theorem dX3_lackOf_24 : decode cX3_lackOf 24 = .ok (.isub, 1) := by decide +kernel
theorem dX3_lackOf_25 : decode cX3_lackOf 25 = .ok (.goto 16, 3) := by decide +kernel
theorem dX3_lackOf_28 : decode cX3_lackOf 28 = .ok (.aload_n 0, 1) := by decide +kernel
theorem dX3_lackOf_29 : decode cX3_lackOf 29 = .ok (.getfield 15, 3) := by decide +kernel
theorem dX3_lackOf_32 : decode cX3_lackOf 32 = .ok (.iload_n 1, 1) := by decide +kernel
theorem dX3_lackOf_33 : decode cX3_lackOf 33 = .ok (.iaload, 1) := by decide +kernel
theorem dX3_lackOf_34 : decode cX3_lackOf 34 = .ok (.aload_n 0, 1) := by decide +kernel
theorem dX3_lackOf_35 : decode cX3_lackOf 35 = .ok (.getfield 15, 3) := by decide +kernel
theorem dX3_lackOf_38 : decode cX3_lackOf 38 = .ok (.iload_n 2, 1) := by decide +kernel
theorem dX3_lackOf_39 : decode cX3_lackOf 39 = .ok (.iaload, 1) := by decide +kernel
theorem dX3_lackOf_40 : decode cX3_lackOf 40 = .ok (.isub, 1) := by decide +kernel
theorem dX3_lackOf_41 : decode cX3_lackOf 41 = .ok (.ireturn, 1) := by decide +kernel
theorem kk_X0_find_0 : Cond.fieldLink RX0 40 "PaidBySigns$Hire" "signs" "I" ∈ wsX0_find := pm_X0_find_r1 _ (List.mem_of_getElem? (i := 0) rfl)
theorem kk_X0_find_1 : Cond.fieldLink RX0 45 "PaidBySigns$CoinSearch" "signs" "I" ∈ wsX0_find := pm_X0_find_r1 _ (List.mem_of_getElem? (i := 1) rfl)
theorem kk_X0_find_2 : Cond.fieldLink RX0 46 "PaidBySigns$Hire" "works" "I" ∈ wsX0_find := pm_X0_find_r1 _ (List.mem_of_getElem? (i := 2) rfl)
theorem kk_X0_find_3 : Cond.fieldLink RX0 49 "PaidBySigns$CoinSearch" "lines" "I" ∈ wsX0_find := pm_X0_find_r1 _ (List.mem_of_getElem? (i := 3) rfl)
theorem kk_X0_find_4 : Cond.methodLink RX0 52 Lib.Math.min.name ∈ wsX0_find := pm_X0_find_r1 _ (List.mem_of_getElem? (i := 4) rfl)
theorem kk_X0_find_5 : Cond.static Lib.Math.min.name ∈ wsX0_find := pm_X0_find_r1 _ (List.mem_of_getElem? (i := 5) rfl)
theorem kk_X0_find_6 : Cond.initialized "java/lang/Math" ∈ wsX0_find := pm_X0_find_r1 _ (List.mem_of_getElem? (i := 6) rfl)
theorem kk_X0_find_7 : Cond.code Lib.Math.min.name Lib.Math.min.code 2 (some .int) ∈ wsX0_find := pm_X0_find_r1 _ (List.mem_of_getElem? (i := 7) rfl)
theorem kk_X0_find_8 : Cond.fieldLink RX0 58 "PaidBySigns$CoinSearch" "most" "I" ∈ wsX0_find := pm_X0_find_r1 _ (List.mem_of_getElem? (i := 8) rfl)
theorem kk_X0_find_9 : Cond.constant RX0 15 (1000000) ∈ wsX0_find := pm_X0_find_r1 _ (List.mem_of_getElem? (i := 9) rfl)
theorem kk_X0_find_10 : Cond.fieldLink RX0 16 "PaidBySigns$CoinSearch" "bestCost" "I" ∈ wsX0_find := pm_X0_find_r1 _ (List.mem_of_getElem? (i := 10) rfl)
theorem kk_X0_find_11 : Cond.fieldLink RX0 23 "PaidBySigns$CoinSearch" "own" "[I" ∈ wsX0_find := pm_X0_find_r1 _ (List.mem_of_getElem? (i := 11) rfl)
theorem kk_X0_find_12 : Cond.fieldLink RX0 69 "PaidBySigns$Hire" "chances" "[[I" ∈ wsX0_find := pm_X0_find_r1 _ (List.mem_of_getElem? (i := 12) rfl)
theorem kk_X0_fillLine_0 : Cond.fieldLink RX0 34 "PaidBySigns$CoinSearch" "left" "[[I" ∈ wsX0_fillLine := pm_X0_fillLine_r1 _ (List.mem_of_getElem? (i := 0) rfl)
theorem kk_X0_fillLine_1 : Cond.fieldLink RX0 83 "PaidBySigns$Hire" "whole" "I" ∈ wsX0_fillLine := pm_X0_fillLine_r1 _ (List.mem_of_getElem? (i := 1) rfl)
theorem kk_X3_lackOf_0 : Cond.fieldLink RX3 15 "PaidBySigns$Hire" "costs" "[I" ∈ wsX3_lackOf := by decide +kernel
theorem kk_X3_lackOf_1 : Cond.fieldLink RX3 42 "PaidBySigns$Hire" "otherwise" "I" ∈ wsX3_lackOf := by decide +kernel
theorem kk_X3_lackOf_2 : Cond.fieldLink RX3 45 "PaidBySigns$Hire" "least" "I" ∈ wsX3_lackOf := by decide +kernel
theorem kk_X0_fillLine_2 : Cond.fieldLink RX0 31 "PaidBySigns$CoinSearch" "rest" "[[I" ∈ wsX0_fillLine := pm_X0_fillLine_r1 _ (List.mem_of_getElem? (i := 2) rfl)
theorem kk_X0_fillLine_3 : Cond.fieldLink RX0 45 "PaidBySigns$CoinSearch" "signs" "I" ∈ wsX0_fillLine := pm_X0_fillLine_r1 _ (List.mem_of_getElem? (i := 3) rfl)
theorem kk_X0_fillLine_4 : Cond.fieldLink RX0 28 "PaidBySigns$CoinSearch" "share" "[[I" ∈ wsX0_fillLine := pm_X0_fillLine_r1 _ (List.mem_of_getElem? (i := 4) rfl)
theorem kk_X0_fillLine_5 : Cond.fieldLink RX0 69 "PaidBySigns$Hire" "chances" "[[I" ∈ wsX0_fillLine := pm_X0_fillLine_r1 _ (List.mem_of_getElem? (i := 5) rfl)
theorem kk_X0_fillLine_6 : Cond.methodLink RX0 89 Lib.Math.max.name ∈ wsX0_fillLine := pm_X0_fillLine_r1 _ (List.mem_of_getElem? (i := 6) rfl)
theorem kk_X0_fillLine_7 : Cond.static Lib.Math.max.name ∈ wsX0_fillLine := pm_X0_fillLine_r1 _ (List.mem_of_getElem? (i := 7) rfl)
theorem kk_X0_fillLine_8 : Cond.initialized "java/lang/Math" ∈ wsX0_fillLine := pm_X0_fillLine_r1 _ (List.mem_of_getElem? (i := 8) rfl)
theorem kk_X0_fillLine_9 : Cond.code Lib.Math.max.name Lib.Math.max.code 2 (some .int) ∈ wsX0_fillLine := pm_X0_fillLine_r1 _ (List.mem_of_getElem? (i := 9) rfl)
theorem kk_X0_fillLine_10 : Cond.fieldLink RX0 20 "PaidBySigns$CoinSearch" "felt" "[I" ∈ wsX0_fillLine := pm_X0_fillLine_r1 _ (List.mem_of_getElem? (i := 10) rfl)
theorem kk_X0_fillLine_11 : Cond.fieldLink RX0 58 "PaidBySigns$CoinSearch" "most" "I" ∈ wsX0_fillLine := pm_X0_fillLine_r1 _ (List.mem_of_getElem? (i := 11) rfl)
theorem kk_X1_forget_0 : Cond.fieldLink RX1 9 "PaidBySigns$Diary" "seen" "I" ∈ wsX1_forget := by decide +kernel
theorem kk_X1_forget_1 : Cond.fieldLink RX1 15 "PaidBySigns$Diary" "rights" "I" ∈ wsX1_forget := by decide +kernel
theorem kk_X1_forget_2 : Cond.fieldLink RX1 18 "PaidBySigns$Diary" "latestStep" "I" ∈ wsX1_forget := by decide +kernel
theorem iw_X0_find_X3 : ∀ w ∈ wsX30, w ∈ wsX0_find := pw_X0_find_X3
theorem iw_X0_find_X0 : ∀ w ∈ wsX00, w ∈ wsX0_find := pw_X0_find_X0
theorem iw_X0_fillLine_X0 : ∀ w ∈ wsX00, w ∈ wsX0_fillLine := pw_X0_fillLine_X0
theorem iw_X0_fillLine_X3 : ∀ w ∈ wsX30, w ∈ wsX0_fillLine := pw_X0_fillLine_X3
theorem iw_X3_lackOf_X3 : ∀ w ∈ wsX30, w ∈ wsX3_lackOf := by decide +kernel
theorem iw_X1_forget_X1 : ∀ w ∈ wsX10, w ∈ wsX1_forget := by decide +kernel

abbrev cX1_canTell : ByteArray := prog_3_method_3_code
def yX1_canTell : MethodName := ⟨RX1, "canTell", "(I)Z"⟩
abbrev cX1_canCorrect : ByteArray := prog_3_method_4_code
def yX1_canCorrect : MethodName := ⟨RX1, "canCorrect", "(II)Z"⟩
abbrev cX1_write : ByteArray := prog_3_method_5_code
def yX1_write : MethodName := ⟨RX1, "write", "(II)I"⟩
abbrev cX1_correct : ByteArray := prog_3_method_6_code
def yX1_correct : MethodName := ⟨RX1, "correct", "(III)I"⟩
abbrev cX1_signKnown : ByteArray := prog_3_method_8_code
def yX1_signKnown : MethodName := ⟨RX1, "signKnown", "(II)I"⟩
def wsX1_canTell : List Cond := .code yX1_canTell cX1_canTell 2 (some .boolean) :: ([.fieldLink RX1 18 "PaidBySigns$Diary" "latestStep" "I"] ++ wsX10)
def wsX1_canCorrect : List Cond := .code yX1_canCorrect cX1_canCorrect 3 (some .boolean) :: ([.fieldLink RX1 9 "PaidBySigns$Diary" "seen" "I", .fieldLink RX1 21 "PaidBySigns$Diary" "seenStep" "[I"] ++ wsX10)
def wsX1_write : List Cond := .code yX1_write cX1_write 3 (some .int) :: ([.fieldLink RX1 9 "PaidBySigns$Diary" "seen" "I", .fieldLink RX1 18 "PaidBySigns$Diary" "latestStep" "I", .fieldLink RX1 21 "PaidBySigns$Diary" "seenStep" "[I", .fieldLink RX1 25 "PaidBySigns$Diary" "seenSign" "[I", .fieldLink RX1 28 "PaidBySigns$Diary" "timesRight" "[I"] ++ wsX10)
def wsX1_correct : List Cond := .code yX1_correct cX1_correct 4 (some .int) :: ([.fieldLink RX1 15 "PaidBySigns$Diary" "rights" "I", .fieldLink RX1 18 "PaidBySigns$Diary" "latestStep" "I", .fieldLink RX1 31 "PaidBySigns$Diary" "rightStep" "[I", .fieldLink RX1 34 "PaidBySigns$Diary" "rightOf" "[I", .fieldLink RX1 37 "PaidBySigns$Diary" "rightSign" "[I", .fieldLink RX1 28 "PaidBySigns$Diary" "timesRight" "[I"] ++ wsX10)
def wsX1_signKnown : List Cond := .code yX1_signKnown cX1_signKnown 5 (some .int) :: ([.fieldLink RX1 25 "PaidBySigns$Diary" "seenSign" "[I", .fieldLink RX1 15 "PaidBySigns$Diary" "rights" "I", .fieldLink RX1 34 "PaidBySigns$Diary" "rightOf" "[I", .fieldLink RX1 31 "PaidBySigns$Diary" "rightStep" "[I", .fieldLink RX1 37 "PaidBySigns$Diary" "rightSign" "[I"] ++ wsX10)
theorem dX1_canTell_0 : decode cX1_canTell 0 = .ok (.iload_n 1, 1) := by decide +kernel
theorem dX1_canTell_1 : decode cX1_canTell 1 = .ok (.aload_n 0, 1) := by decide +kernel
theorem dX1_canTell_2 : decode cX1_canTell 2 = .ok (.getfield 18, 3) := by decide +kernel
theorem dX1_canTell_5 : decode cX1_canTell 5 = .ok (.if_icmp .lt 14, 3) := by decide +kernel
theorem dX1_canTell_8 : decode cX1_canTell 8 = .ok (.iload_n 1, 1) := by decide +kernel
theorem dX1_canTell_9 : decode cX1_canTell 9 = .ok (.sipush 999, 3) := by decide +kernel
theorem dX1_canTell_12 : decode cX1_canTell 12 = .ok (.if_icmp .gt 7, 3) := by decide +kernel
theorem dX1_canTell_15 : decode cX1_canTell 15 = .ok (.iconst 1, 1) := by decide +kernel
theorem dX1_canTell_16 : decode cX1_canTell 16 = .ok (.goto 4, 3) := by decide +kernel
theorem dX1_canTell_19 : decode cX1_canTell 19 = .ok (.iconst 0, 1) := by decide +kernel
theorem dX1_canTell_20 : decode cX1_canTell 20 = .ok (.ireturn, 1) := by decide +kernel
theorem dX1_canCorrect_0 : decode cX1_canCorrect 0 = .ok (.iload_n 2, 1) := by decide +kernel
theorem dX1_canCorrect_1 : decode cX1_canCorrect 1 = .ok (.ifCond .lt 25, 3) := by decide +kernel
theorem dX1_canCorrect_4 : decode cX1_canCorrect 4 = .ok (.iload_n 2, 1) := by decide +kernel
theorem dX1_canCorrect_5 : decode cX1_canCorrect 5 = .ok (.aload_n 0, 1) := by decide +kernel
theorem dX1_canCorrect_6 : decode cX1_canCorrect 6 = .ok (.getfield 9, 3) := by decide +kernel
theorem dX1_canCorrect_9 : decode cX1_canCorrect 9 = .ok (.if_icmp .ge 17, 3) := by decide +kernel
theorem dX1_canCorrect_12 : decode cX1_canCorrect 12 = .ok (.iload_n 1, 1) := by decide +kernel
theorem dX1_canCorrect_13 : decode cX1_canCorrect 13 = .ok (.aload_n 0, 1) := by decide +kernel
theorem dX1_canCorrect_14 : decode cX1_canCorrect 14 = .ok (.getfield 21, 3) := by decide +kernel
theorem dX1_canCorrect_17 : decode cX1_canCorrect 17 = .ok (.iload_n 2, 1) := by decide +kernel
theorem dX1_canCorrect_18 : decode cX1_canCorrect 18 = .ok (.iaload, 1) := by decide +kernel
theorem dX1_canCorrect_19 : decode cX1_canCorrect 19 = .ok (.if_icmp .le 7, 3) := by decide +kernel
theorem dX1_canCorrect_22 : decode cX1_canCorrect 22 = .ok (.iconst 1, 1) := by decide +kernel
theorem dX1_canCorrect_23 : decode cX1_canCorrect 23 = .ok (.goto 4, 3) := by decide +kernel
theorem dX1_canCorrect_26 : decode cX1_canCorrect 26 = .ok (.iconst 0, 1) := by decide +kernel
theorem dX1_canCorrect_27 : decode cX1_canCorrect 27 = .ok (.ireturn, 1) := by decide +kernel
theorem dX1_write_0 : decode cX1_write 0 = .ok (.aload_n 0, 1) := by decide +kernel
theorem dX1_write_1 : decode cX1_write 1 = .ok (.getfield 9, 3) := by decide +kernel
theorem dX1_write_4 : decode cX1_write 4 = .ok (.bipush 8, 2) := by decide +kernel
theorem dX1_write_6 : decode cX1_write 6 = .ok (.if_icmp .lt 6, 3) := by decide +kernel
theorem dX1_write_9 : decode cX1_write 9 = .ok (.bipush (-3), 2) := by decide +kernel
theorem dX1_write_11 : decode cX1_write 11 = .ok (.ireturn, 1) := by decide +kernel
theorem dX1_write_12 : decode cX1_write 12 = .ok (.aload_n 0, 1) := by decide +kernel
theorem dX1_write_13 : decode cX1_write 13 = .ok (.iload_n 1, 1) := by decide +kernel
theorem dX1_write_14 : decode cX1_write 14 = .ok (.putfield 18, 3) := by decide +kernel
theorem dX1_write_17 : decode cX1_write 17 = .ok (.aload_n 0, 1) := by decide +kernel
theorem dX1_write_18 : decode cX1_write 18 = .ok (.getfield 21, 3) := by decide +kernel
theorem dX1_write_21 : decode cX1_write 21 = .ok (.aload_n 0, 1) := by decide +kernel
theorem dX1_write_22 : decode cX1_write 22 = .ok (.getfield 9, 3) := by decide +kernel
theorem dX1_write_25 : decode cX1_write 25 = .ok (.iload_n 1, 1) := by decide +kernel
theorem dX1_write_26 : decode cX1_write 26 = .ok (.iastore, 1) := by decide +kernel
theorem dX1_write_27 : decode cX1_write 27 = .ok (.aload_n 0, 1) := by decide +kernel
theorem dX1_write_28 : decode cX1_write 28 = .ok (.getfield 25, 3) := by decide +kernel
theorem dX1_write_31 : decode cX1_write 31 = .ok (.aload_n 0, 1) := by decide +kernel
theorem dX1_write_32 : decode cX1_write 32 = .ok (.getfield 9, 3) := by decide +kernel
theorem dX1_write_35 : decode cX1_write 35 = .ok (.iload_n 2, 1) := by decide +kernel
theorem dX1_write_36 : decode cX1_write 36 = .ok (.iastore, 1) := by decide +kernel
theorem dX1_write_37 : decode cX1_write 37 = .ok (.aload_n 0, 1) := by decide +kernel
theorem dX1_write_38 : decode cX1_write 38 = .ok (.getfield 28, 3) := by decide +kernel
theorem dX1_write_41 : decode cX1_write 41 = .ok (.aload_n 0, 1) := by decide +kernel
theorem dX1_write_42 : decode cX1_write 42 = .ok (.getfield 9, 3) := by decide +kernel
theorem dX1_write_45 : decode cX1_write 45 = .ok (.iconst 0, 1) := by decide +kernel
theorem dX1_write_46 : decode cX1_write 46 = .ok (.iastore, 1) := by decide +kernel
theorem dX1_write_47 : decode cX1_write 47 = .ok (.aload_n 0, 1) := by decide +kernel
theorem dX1_write_48 : decode cX1_write 48 = .ok (.dup, 1) := by decide +kernel
theorem dX1_write_49 : decode cX1_write 49 = .ok (.getfield 9, 3) := by decide +kernel
theorem dX1_write_52 : decode cX1_write 52 = .ok (.iconst 1, 1) := by decide +kernel
theorem dX1_write_53 : decode cX1_write 53 = .ok (.iadd, 1) := by decide +kernel
theorem dX1_write_54 : decode cX1_write 54 = .ok (.putfield 9, 3) := by decide +kernel
theorem dX1_write_57 : decode cX1_write 57 = .ok (.aload_n 0, 1) := by decide +kernel
theorem dX1_write_58 : decode cX1_write 58 = .ok (.getfield 9, 3) := by decide +kernel
theorem dX1_write_61 : decode cX1_write 61 = .ok (.iconst 1, 1) := by decide +kernel
theorem dX1_write_62 : decode cX1_write 62 = .ok (.isub, 1) := by decide +kernel
theorem dX1_write_63 : decode cX1_write 63 = .ok (.ireturn, 1) := by decide +kernel
theorem dX1_correct_0 : decode cX1_correct 0 = .ok (.aload_n 0, 1) := by decide +kernel
theorem dX1_correct_1 : decode cX1_correct 1 = .ok (.getfield 15, 3) := by decide +kernel
theorem dX1_correct_4 : decode cX1_correct 4 = .ok (.bipush 20, 2) := by decide +kernel
theorem dX1_correct_6 : decode cX1_correct 6 = .ok (.if_icmp .lt 6, 3) := by decide +kernel
theorem dX1_correct_9 : decode cX1_correct 9 = .ok (.bipush (-3), 2) := by decide +kernel
theorem dX1_correct_11 : decode cX1_correct 11 = .ok (.ireturn, 1) := by decide +kernel
theorem dX1_correct_12 : decode cX1_correct 12 = .ok (.aload_n 0, 1) := by decide +kernel
theorem dX1_correct_13 : decode cX1_correct 13 = .ok (.iload_n 1, 1) := by decide +kernel
theorem dX1_correct_14 : decode cX1_correct 14 = .ok (.putfield 18, 3) := by decide +kernel
theorem dX1_correct_17 : decode cX1_correct 17 = .ok (.aload_n 0, 1) := by decide +kernel
theorem dX1_correct_18 : decode cX1_correct 18 = .ok (.getfield 31, 3) := by decide +kernel
theorem dX1_correct_21 : decode cX1_correct 21 = .ok (.aload_n 0, 1) := by decide +kernel
theorem dX1_correct_22 : decode cX1_correct 22 = .ok (.getfield 15, 3) := by decide +kernel
theorem dX1_correct_25 : decode cX1_correct 25 = .ok (.iload_n 1, 1) := by decide +kernel
theorem dX1_correct_26 : decode cX1_correct 26 = .ok (.iastore, 1) := by decide +kernel
theorem dX1_correct_27 : decode cX1_correct 27 = .ok (.aload_n 0, 1) := by decide +kernel
theorem dX1_correct_28 : decode cX1_correct 28 = .ok (.getfield 34, 3) := by decide +kernel
theorem dX1_correct_31 : decode cX1_correct 31 = .ok (.aload_n 0, 1) := by decide +kernel
theorem dX1_correct_32 : decode cX1_correct 32 = .ok (.getfield 15, 3) := by decide +kernel
theorem dX1_correct_35 : decode cX1_correct 35 = .ok (.iload_n 2, 1) := by decide +kernel
theorem dX1_correct_36 : decode cX1_correct 36 = .ok (.iastore, 1) := by decide +kernel
theorem dX1_correct_37 : decode cX1_correct 37 = .ok (.aload_n 0, 1) := by decide +kernel
theorem dX1_correct_38 : decode cX1_correct 38 = .ok (.getfield 37, 3) := by decide +kernel
theorem dX1_correct_41 : decode cX1_correct 41 = .ok (.aload_n 0, 1) := by decide +kernel
theorem dX1_correct_42 : decode cX1_correct 42 = .ok (.getfield 15, 3) := by decide +kernel
theorem dX1_correct_45 : decode cX1_correct 45 = .ok (.iload_n 3, 1) := by decide +kernel
theorem dX1_correct_46 : decode cX1_correct 46 = .ok (.iastore, 1) := by decide +kernel
theorem dX1_correct_47 : decode cX1_correct 47 = .ok (.aload_n 0, 1) := by decide +kernel
theorem dX1_correct_48 : decode cX1_correct 48 = .ok (.dup, 1) := by decide +kernel
theorem dX1_correct_49 : decode cX1_correct 49 = .ok (.getfield 15, 3) := by decide +kernel
theorem dX1_correct_52 : decode cX1_correct 52 = .ok (.iconst 1, 1) := by decide +kernel
theorem dX1_correct_53 : decode cX1_correct 53 = .ok (.iadd, 1) := by decide +kernel
theorem dX1_correct_54 : decode cX1_correct 54 = .ok (.putfield 15, 3) := by decide +kernel
theorem dX1_correct_57 : decode cX1_correct 57 = .ok (.aload_n 0, 1) := by decide +kernel
theorem dX1_correct_58 : decode cX1_correct 58 = .ok (.getfield 28, 3) := by decide +kernel
theorem dX1_correct_61 : decode cX1_correct 61 = .ok (.iload_n 2, 1) := by decide +kernel
theorem dX1_correct_62 : decode cX1_correct 62 = .ok (.dup2, 1) := by decide +kernel
theorem dX1_correct_63 : decode cX1_correct 63 = .ok (.iaload, 1) := by decide +kernel
theorem dX1_correct_64 : decode cX1_correct 64 = .ok (.iconst 1, 1) := by decide +kernel
theorem dX1_correct_65 : decode cX1_correct 65 = .ok (.iadd, 1) := by decide +kernel
theorem dX1_correct_66 : decode cX1_correct 66 = .ok (.iastore, 1) := by decide +kernel
theorem dX1_correct_67 : decode cX1_correct 67 = .ok (.aload_n 0, 1) := by decide +kernel
theorem dX1_correct_68 : decode cX1_correct 68 = .ok (.getfield 28, 3) := by decide +kernel
theorem dX1_correct_71 : decode cX1_correct 71 = .ok (.iload_n 2, 1) := by decide +kernel
theorem dX1_correct_72 : decode cX1_correct 72 = .ok (.iaload, 1) := by decide +kernel
theorem dX1_correct_73 : decode cX1_correct 73 = .ok (.ireturn, 1) := by decide +kernel
theorem dX1_signKnown_0 : decode cX1_signKnown 0 = .ok (.aload_n 0, 1) := by decide +kernel
theorem dX1_signKnown_1 : decode cX1_signKnown 1 = .ok (.getfield 25, 3) := by decide +kernel
theorem dX1_signKnown_4 : decode cX1_signKnown 4 = .ok (.iload_n 1, 1) := by decide +kernel
theorem dX1_signKnown_5 : decode cX1_signKnown 5 = .ok (.iaload, 1) := by decide +kernel
theorem dX1_signKnown_6 : decode cX1_signKnown 6 = .ok (.istore_n 3, 1) := by decide +kernel
theorem dX1_signKnown_7 : decode cX1_signKnown 7 = .ok (.iconst 0, 1) := by decide +kernel
theorem dX1_signKnown_8 : decode cX1_signKnown 8 = .ok (.istore 4, 2) := by decide +kernel
theorem dX1_signKnown_10 : decode cX1_signKnown 10 = .ok (.iload 4, 2) := by decide +kernel
theorem dX1_signKnown_12 : decode cX1_signKnown 12 = .ok (.aload_n 0, 1) := by decide +kernel
theorem dX1_signKnown_13 : decode cX1_signKnown 13 = .ok (.getfield 15, 3) := by decide +kernel
theorem dX1_signKnown_16 : decode cX1_signKnown 16 = .ok (.if_icmp .ge 39, 3) := by decide +kernel
theorem dX1_signKnown_19 : decode cX1_signKnown 19 = .ok (.aload_n 0, 1) := by decide +kernel
theorem dX1_signKnown_20 : decode cX1_signKnown 20 = .ok (.getfield 34, 3) := by decide +kernel
theorem dX1_signKnown_23 : decode cX1_signKnown 23 = .ok (.iload 4, 2) := by decide +kernel
theorem dX1_signKnown_25 : decode cX1_signKnown 25 = .ok (.iaload, 1) := by decide +kernel
theorem dX1_signKnown_26 : decode cX1_signKnown 26 = .ok (.iload_n 1, 1) := by decide +kernel
theorem dX1_signKnown_27 : decode cX1_signKnown 27 = .ok (.if_icmp .ne 22, 3) := by decide +kernel
theorem dX1_signKnown_30 : decode cX1_signKnown 30 = .ok (.aload_n 0, 1) := by decide +kernel
theorem dX1_signKnown_31 : decode cX1_signKnown 31 = .ok (.getfield 31, 3) := by decide +kernel
theorem dX1_signKnown_34 : decode cX1_signKnown 34 = .ok (.iload 4, 2) := by decide +kernel
theorem dX1_signKnown_36 : decode cX1_signKnown 36 = .ok (.iaload, 1) := by decide +kernel
theorem dX1_signKnown_37 : decode cX1_signKnown 37 = .ok (.iload_n 2, 1) := by decide +kernel
theorem dX1_signKnown_38 : decode cX1_signKnown 38 = .ok (.if_icmp .gt 11, 3) := by decide +kernel
theorem dX1_signKnown_41 : decode cX1_signKnown 41 = .ok (.aload_n 0, 1) := by decide +kernel
theorem dX1_signKnown_42 : decode cX1_signKnown 42 = .ok (.getfield 37, 3) := by decide +kernel
theorem dX1_signKnown_45 : decode cX1_signKnown 45 = .ok (.iload 4, 2) := by decide +kernel
theorem dX1_signKnown_47 : decode cX1_signKnown 47 = .ok (.iaload, 1) := by decide +kernel
theorem dX1_signKnown_48 : decode cX1_signKnown 48 = .ok (.istore_n 3, 1) := by decide +kernel
theorem dX1_signKnown_49 : decode cX1_signKnown 49 = .ok (.iinc 4 1, 3) := by decide +kernel
theorem dX1_signKnown_52 : decode cX1_signKnown 52 = .ok (.goto (-42), 3) := by decide +kernel
theorem dX1_signKnown_55 : decode cX1_signKnown 55 = .ok (.iload_n 3, 1) := by decide +kernel
theorem dX1_signKnown_56 : decode cX1_signKnown 56 = .ok (.ireturn, 1) := by decide +kernel
theorem kk_X1_canTell_0 : Cond.fieldLink RX1 18 "PaidBySigns$Diary" "latestStep" "I" ∈ wsX1_canTell := by decide +kernel
theorem kk_X1_canCorrect_0 : Cond.fieldLink RX1 9 "PaidBySigns$Diary" "seen" "I" ∈ wsX1_canCorrect := by decide +kernel
theorem kk_X1_canCorrect_1 : Cond.fieldLink RX1 21 "PaidBySigns$Diary" "seenStep" "[I" ∈ wsX1_canCorrect := by decide +kernel
theorem kk_X1_write_0 : Cond.fieldLink RX1 9 "PaidBySigns$Diary" "seen" "I" ∈ wsX1_write := by decide +kernel
theorem kk_X1_write_1 : Cond.fieldLink RX1 18 "PaidBySigns$Diary" "latestStep" "I" ∈ wsX1_write := by decide +kernel
theorem kk_X1_write_2 : Cond.fieldLink RX1 21 "PaidBySigns$Diary" "seenStep" "[I" ∈ wsX1_write := by decide +kernel
theorem kk_X1_write_3 : Cond.fieldLink RX1 25 "PaidBySigns$Diary" "seenSign" "[I" ∈ wsX1_write := by decide +kernel
theorem kk_X1_write_4 : Cond.fieldLink RX1 28 "PaidBySigns$Diary" "timesRight" "[I" ∈ wsX1_write := by decide +kernel
theorem kk_X1_correct_0 : Cond.fieldLink RX1 15 "PaidBySigns$Diary" "rights" "I" ∈ wsX1_correct := by decide +kernel
theorem kk_X1_correct_1 : Cond.fieldLink RX1 18 "PaidBySigns$Diary" "latestStep" "I" ∈ wsX1_correct := by decide +kernel
theorem kk_X1_correct_2 : Cond.fieldLink RX1 31 "PaidBySigns$Diary" "rightStep" "[I" ∈ wsX1_correct := by decide +kernel
theorem kk_X1_correct_3 : Cond.fieldLink RX1 34 "PaidBySigns$Diary" "rightOf" "[I" ∈ wsX1_correct := by decide +kernel
theorem kk_X1_correct_4 : Cond.fieldLink RX1 37 "PaidBySigns$Diary" "rightSign" "[I" ∈ wsX1_correct := by decide +kernel
theorem kk_X1_correct_5 : Cond.fieldLink RX1 28 "PaidBySigns$Diary" "timesRight" "[I" ∈ wsX1_correct := by decide +kernel
theorem kk_X1_signKnown_0 : Cond.fieldLink RX1 25 "PaidBySigns$Diary" "seenSign" "[I" ∈ wsX1_signKnown := by decide +kernel
theorem kk_X1_signKnown_1 : Cond.fieldLink RX1 15 "PaidBySigns$Diary" "rights" "I" ∈ wsX1_signKnown := by decide +kernel
theorem kk_X1_signKnown_2 : Cond.fieldLink RX1 34 "PaidBySigns$Diary" "rightOf" "[I" ∈ wsX1_signKnown := by decide +kernel
theorem kk_X1_signKnown_3 : Cond.fieldLink RX1 31 "PaidBySigns$Diary" "rightStep" "[I" ∈ wsX1_signKnown := by decide +kernel
theorem kk_X1_signKnown_4 : Cond.fieldLink RX1 37 "PaidBySigns$Diary" "rightSign" "[I" ∈ wsX1_signKnown := by decide +kernel
theorem iw_X1_canTell_X1 : ∀ w ∈ wsX10, w ∈ wsX1_canTell := by decide +kernel
theorem iw_X1_canCorrect_X1 : ∀ w ∈ wsX10, w ∈ wsX1_canCorrect := by decide +kernel
theorem iw_X1_write_X1 : ∀ w ∈ wsX10, w ∈ wsX1_write := by decide +kernel
theorem iw_X1_correct_X1 : ∀ w ∈ wsX10, w ∈ wsX1_correct := by decide +kernel
theorem iw_X1_signKnown_X1 : ∀ w ∈ wsX10, w ∈ wsX1_signKnown := by decide +kernel
