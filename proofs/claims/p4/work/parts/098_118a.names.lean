abbrev cX6_isRuledOut : ByteArray := prog_8_method_9_code
def yX6_isRuledOut : MethodName := ⟨RX6, "isRuledOut", "(LPaidBySigns$Hire;I)Z"⟩
abbrev cX6_mixedChance : ByteArray := prog_8_method_10_code
def yX6_mixedChance : MethodName := ⟨RX6, "mixedChance", "(LPaidBySigns$Hire;II)I"⟩
abbrev wsX90 : List Cond := u_ws RX9 TX9 14
abbrev cX9_feed : ByteArray := prog_1_method_2_code
def yX9_feed : MethodName := ⟨RX9, "feed", "(IIIII)I"⟩
abbrev cX9_end : ByteArray := prog_1_method_3_code
def yX9_end : MethodName := ⟨RX9, "end", "(I)I"⟩
def wsX6_mixedChance : List Cond := .code yX6_mixedChance cX6_mixedChance 6 (some .int) :: ([.fieldLink RX6 39 "PaidBySigns$Hire" "works" "I", .fieldLink RX6 22 "PaidBySigns$Proofs" "mixed" "[I", .fieldLink RX6 48 "PaidBySigns$Hire" "chances" "[[I"] ++ wsX30 ++ wsX60)
def wsX6_isRuledOut : List Cond := .code yX6_isRuledOut cX6_isRuledOut 6 (some .boolean) :: ([.fieldLink RX6 39 "PaidBySigns$Hire" "works" "I", .fieldLink RX6 22 "PaidBySigns$Proofs" "mixed" "[I", .fieldLink RX6 31 "PaidBySigns$Hire" "costs" "[I", .fieldLink RX6 45 "PaidBySigns$Hire" "signs" "I", .fieldLink RX6 48 "PaidBySigns$Hire" "chances" "[[I", .methodLink RX6 88 yX6_mixedChance, .instanceMethod yX6_mixedChance, .selects RX6 yX6_mixedChance yX6_mixedChance, .initialized RX6, .code yX6_mixedChance cX6_mixedChance 6 (some .int)] ++ wsX30 ++ wsX60)
def wsX9_feed : List Cond := .code yX9_feed cX9_feed 6 (some .int) :: ([.fieldLink RX9 10 "PaidBySigns" "reader" "LPaidBySigns$Reader;", .fieldLink RX9 86 "PaidBySigns$Reader" "length" "I", .methodLink RX9 90 yX7_append, .instanceMethod yX7_append, .selects RX7 yX7_append yX7_append, .initialized RX7, .code yX7_append cX7_append 3 none, .fieldLink RX7 9 "PaidBySigns$Reader" "length" "I", .fieldLink RX7 28 "PaidBySigns$Reader" "text" "[B"] ++ wsX90 ++ wsX70)
def wsX9_end : List Cond := .code yX9_end cX9_end 2 (some .int) :: ([.fieldLink RX9 10 "PaidBySigns" "reader" "LPaidBySigns$Reader;", .fieldLink RX9 86 "PaidBySigns$Reader" "length" "I"] ++ wsX90 ++ wsX70)
set_option maxRecDepth 20000 in
theorem ggX6_isRuledOut_X6_mixedChance : GoodIn wsX6_isRuledOut wsX6_mixedChance := goodIn_r _ [10, 1, 2, 5, 11, 12, 13, 14, 15, 16, 17, 18, 19, 20, 21, 22, 23, 24, 25] (by decide +kernel) (by decide +kernel)
set_option maxRecDepth 20000 in
theorem gX6_isRuledOut_X6_mixedChance : GoodIn wsX6_isRuledOut (wsV RX6 88 RX6 yX6_mixedChance wsX6_mixedChance) := goodIn_app (goodIn_of _ (by decide +kernel)) ggX6_isRuledOut_X6_mixedChance
theorem dX6_isRuledOut_0 : decode cX6_isRuledOut 0 = .ok (.iconst 0, 1) := by decide +kernel
theorem dX6_isRuledOut_1 : decode cX6_isRuledOut 1 = .ok (.istore_n 3, 1) := by decide +kernel
theorem dX6_isRuledOut_2 : decode cX6_isRuledOut 2 = .ok (.iconst 0, 1) := by decide +kernel
theorem dX6_isRuledOut_3 : decode cX6_isRuledOut 3 = .ok (.istore 4, 2) := by decide +kernel
theorem dX6_isRuledOut_5 : decode cX6_isRuledOut 5 = .ok (.iconst 0, 1) := by decide +kernel
theorem dX6_isRuledOut_6 : decode cX6_isRuledOut 6 = .ok (.istore 5, 2) := by decide +kernel
theorem dX6_isRuledOut_8 : decode cX6_isRuledOut 8 = .ok (.iload 5, 2) := by decide +kernel
theorem dX6_isRuledOut_10 : decode cX6_isRuledOut 10 = .ok (.aload_n 1, 1) := by decide +kernel
theorem dX6_isRuledOut_11 : decode cX6_isRuledOut 11 = .ok (.getfield 39, 3) := by decide +kernel
theorem dX6_isRuledOut_14 : decode cX6_isRuledOut 14 = .ok (.if_icmp .ge 45, 3) := by decide +kernel
theorem dX6_isRuledOut_17 : decode cX6_isRuledOut 17 = .ok (.iload 5, 2) := by decide +kernel
theorem dX6_isRuledOut_19 : decode cX6_isRuledOut 19 = .ok (.iload_n 2, 1) := by decide +kernel
theorem dX6_isRuledOut_20 : decode cX6_isRuledOut 20 = .ok (.if_icmp .eq 33, 3) := by decide +kernel
theorem dX6_isRuledOut_23 : decode cX6_isRuledOut 23 = .ok (.iload_n 3, 1) := by decide +kernel
theorem dX6_isRuledOut_24 : decode cX6_isRuledOut 24 = .ok (.aload_n 0, 1) := by decide +kernel
theorem dX6_isRuledOut_25 : decode cX6_isRuledOut 25 = .ok (.getfield 22, 3) := by decide +kernel
theorem dX6_isRuledOut_28 : decode cX6_isRuledOut 28 = .ok (.iload 5, 2) := by decide +kernel
theorem dX6_isRuledOut_30 : decode cX6_isRuledOut 30 = .ok (.iaload, 1) := by decide +kernel
theorem dX6_isRuledOut_31 : decode cX6_isRuledOut 31 = .ok (.iadd, 1) := by decide +kernel
theorem dX6_isRuledOut_32 : decode cX6_isRuledOut 32 = .ok (.istore_n 3, 1) := by decide +kernel
theorem dX6_isRuledOut_33 : decode cX6_isRuledOut 33 = .ok (.iload 4, 2) := by decide +kernel
theorem dX6_isRuledOut_35 : decode cX6_isRuledOut 35 = .ok (.aload_n 0, 1) := by decide +kernel
theorem dX6_isRuledOut_36 : decode cX6_isRuledOut 36 = .ok (.getfield 22, 3) := by decide +kernel
theorem dX6_isRuledOut_39 : decode cX6_isRuledOut 39 = .ok (.iload 5, 2) := by decide +kernel
theorem dX6_isRuledOut_41 : decode cX6_isRuledOut 41 = .ok (.iaload, 1) := by decide +kernel
theorem dX6_isRuledOut_42 : decode cX6_isRuledOut 42 = .ok (.aload_n 1, 1) := by decide +kernel
theorem dX6_isRuledOut_43 : decode cX6_isRuledOut 43 = .ok (.getfield 31, 3) := by decide +kernel
theorem dX6_isRuledOut_46 : decode cX6_isRuledOut 46 = .ok (.iload 5, 2) := by decide +kernel
theorem dX6_isRuledOut_48 : decode cX6_isRuledOut 48 = .ok (.iaload, 1) := by decide +kernel
theorem dX6_isRuledOut_49 : decode cX6_isRuledOut 49 = .ok (.imul, 1) := by decide +kernel
theorem dX6_isRuledOut_50 : decode cX6_isRuledOut 50 = .ok (.iadd, 1) := by decide +kernel
theorem dX6_isRuledOut_51 : decode cX6_isRuledOut 51 = .ok (.istore 4, 2) := by decide +kernel
theorem dX6_isRuledOut_53 : decode cX6_isRuledOut 53 = .ok (.iinc 5 1, 3) := by decide +kernel
theorem dX6_isRuledOut_56 : decode cX6_isRuledOut 56 = .ok (.goto (-48), 3) := by decide +kernel
theorem dX6_isRuledOut_59 : decode cX6_isRuledOut 59 = .ok (.iconst 0, 1) := by decide +kernel
theorem dX6_isRuledOut_60 : decode cX6_isRuledOut 60 = .ok (.istore 5, 2) := by decide +kernel
theorem dX6_isRuledOut_62 : decode cX6_isRuledOut 62 = .ok (.iload 5, 2) := by decide +kernel
theorem dX6_isRuledOut_64 : decode cX6_isRuledOut 64 = .ok (.aload_n 1, 1) := by decide +kernel
theorem dX6_isRuledOut_65 : decode cX6_isRuledOut 65 = .ok (.getfield 45, 3) := by decide +kernel
theorem dX6_isRuledOut_68 : decode cX6_isRuledOut 68 = .ok (.if_icmp .ge 33, 3) := by decide +kernel
theorem dX6_isRuledOut_71 : decode cX6_isRuledOut 71 = .ok (.aload_n 0, 1) := by decide +kernel
theorem dX6_isRuledOut_72 : decode cX6_isRuledOut 72 = .ok (.aload_n 1, 1) := by decide +kernel
theorem dX6_isRuledOut_73 : decode cX6_isRuledOut 73 = .ok (.iload_n 2, 1) := by decide +kernel
theorem dX6_isRuledOut_74 : decode cX6_isRuledOut 74 = .ok (.iload 5, 2) := by decide +kernel
theorem dX6_isRuledOut_76 : decode cX6_isRuledOut 76 = .ok (.invokevirtual 88, 3) := by decide +kernel
theorem dX6_isRuledOut_79 : decode cX6_isRuledOut 79 = .ok (.iload_n 3, 1) := by decide +kernel
theorem dX6_isRuledOut_80 : decode cX6_isRuledOut 80 = .ok (.aload_n 1, 1) := by decide +kernel
theorem dX6_isRuledOut_81 : decode cX6_isRuledOut 81 = .ok (.getfield 48, 3) := by decide +kernel
theorem dX6_isRuledOut_84 : decode cX6_isRuledOut 84 = .ok (.iload_n 2, 1) := by decide +kernel
theorem dX6_isRuledOut_85 : decode cX6_isRuledOut 85 = .ok (.aaload, 1) := by decide +kernel
theorem dX6_isRuledOut_86 : decode cX6_isRuledOut 86 = .ok (.iload 5, 2) := by decide +kernel
theorem dX6_isRuledOut_88 : decode cX6_isRuledOut 88 = .ok (.iaload, 1) := by decide +kernel
theorem dX6_isRuledOut_89 : decode cX6_isRuledOut 89 = .ok (.imul, 1) := by decide +kernel
theorem dX6_isRuledOut_90 : decode cX6_isRuledOut 90 = .ok (.if_icmp .eq 5, 3) := by decide +kernel
theorem dX6_isRuledOut_93 : decode cX6_isRuledOut 93 = .ok (.iconst 0, 1) := by decide +kernel
theorem dX6_isRuledOut_94 : decode cX6_isRuledOut 94 = .ok (.ireturn, 1) := by decide +kernel
theorem dX6_isRuledOut_95 : decode cX6_isRuledOut 95 = .ok (.iinc 5 1, 3) := by decide +kernel
theorem dX6_isRuledOut_98 : decode cX6_isRuledOut 98 = .ok (.goto (-36), 3) := by decide +kernel
theorem dX6_isRuledOut_101 : decode cX6_isRuledOut 101 = .ok (.iload 4, 2) := by decide +kernel
theorem dX6_isRuledOut_103 : decode cX6_isRuledOut 103 = .ok (.iload_n 3, 1) := by decide +kernel
theorem dX6_isRuledOut_104 : decode cX6_isRuledOut 104 = .ok (.aload_n 1, 1) := by decide +kernel
theorem dX6_isRuledOut_105 : decode cX6_isRuledOut 105 = .ok (.getfield 31, 3) := by decide +kernel
theorem dX6_isRuledOut_108 : decode cX6_isRuledOut 108 = .ok (.iload_n 2, 1) := by decide +kernel
theorem dX6_isRuledOut_109 : decode cX6_isRuledOut 109 = .ok (.iaload, 1) := by decide +kernel
theorem dX6_isRuledOut_110 : decode cX6_isRuledOut 110 = .ok (.imul, 1) := by decide +kernel
theorem dX6_isRuledOut_111 : decode cX6_isRuledOut 111 = .ok (.if_icmp .ge 7, 3) := by decide +kernel
theorem dX6_isRuledOut_114 : decode cX6_isRuledOut 114 = .ok (.iconst 1, 1) := by decide +kernel
theorem dX6_isRuledOut_115 : decode cX6_isRuledOut 115 = .ok (.goto 4, 3) := by decide +kernel
theorem dX6_isRuledOut_118 : decode cX6_isRuledOut 118 = .ok (.iconst 0, 1) := by decide +kernel
theorem dX6_isRuledOut_119 : decode cX6_isRuledOut 119 = .ok (.ireturn, 1) := by decide +kernel
theorem dX6_mixedChance_0 : decode cX6_mixedChance 0 = .ok (.iconst 0, 1) := by decide +kernel
theorem dX6_mixedChance_1 : decode cX6_mixedChance 1 = .ok (.istore 4, 2) := by decide +kernel
theorem dX6_mixedChance_3 : decode cX6_mixedChance 3 = .ok (.iconst 0, 1) := by decide +kernel
theorem dX6_mixedChance_4 : decode cX6_mixedChance 4 = .ok (.istore 5, 2) := by decide +kernel
theorem dX6_mixedChance_6 : decode cX6_mixedChance 6 = .ok (.iload 5, 2) := by decide +kernel
theorem dX6_mixedChance_8 : decode cX6_mixedChance 8 = .ok (.aload_n 1, 1) := by decide +kernel
theorem dX6_mixedChance_9 : decode cX6_mixedChance 9 = .ok (.getfield 39, 3) := by decide +kernel
theorem dX6_mixedChance_12 : decode cX6_mixedChance 12 = .ok (.if_icmp .ge 37, 3) := by decide +kernel
theorem dX6_mixedChance_15 : decode cX6_mixedChance 15 = .ok (.iload 5, 2) := by decide +kernel
theorem dX6_mixedChance_17 : decode cX6_mixedChance 17 = .ok (.iload_n 2, 1) := by decide +kernel
theorem dX6_mixedChance_18 : decode cX6_mixedChance 18 = .ok (.if_icmp .eq 25, 3) := by decide +kernel
theorem dX6_mixedChance_21 : decode cX6_mixedChance 21 = .ok (.iload 4, 2) := by decide +kernel
theorem dX6_mixedChance_23 : decode cX6_mixedChance 23 = .ok (.aload_n 0, 1) := by decide +kernel
theorem dX6_mixedChance_24 : decode cX6_mixedChance 24 = .ok (.getfield 22, 3) := by decide +kernel
theorem dX6_mixedChance_27 : decode cX6_mixedChance 27 = .ok (.iload 5, 2) := by decide +kernel
theorem dX6_mixedChance_29 : decode cX6_mixedChance 29 = .ok (.iaload, 1) := by decide +kernel
theorem dX6_mixedChance_30 : decode cX6_mixedChance 30 = .ok (.aload_n 1, 1) := by decide +kernel
theorem dX6_mixedChance_31 : decode cX6_mixedChance 31 = .ok (.getfield 48, 3) := by decide +kernel
theorem dX6_mixedChance_34 : decode cX6_mixedChance 34 = .ok (.iload 5, 2) := by decide +kernel
theorem dX6_mixedChance_36 : decode cX6_mixedChance 36 = .ok (.aaload, 1) := by decide +kernel
theorem dX6_mixedChance_37 : decode cX6_mixedChance 37 = .ok (.iload_n 3, 1) := by decide +kernel
theorem dX6_mixedChance_38 : decode cX6_mixedChance 38 = .ok (.iaload, 1) := by decide +kernel
theorem dX6_mixedChance_39 : decode cX6_mixedChance 39 = .ok (.imul, 1) := by decide +kernel
theorem dX6_mixedChance_40 : decode cX6_mixedChance 40 = .ok (.iadd, 1) := by decide +kernel
theorem dX6_mixedChance_41 : decode cX6_mixedChance 41 = .ok (.istore 4, 2) := by decide +kernel
theorem dX6_mixedChance_43 : decode cX6_mixedChance 43 = .ok (.iinc 5 1, 3) := by decide +kernel
theorem dX6_mixedChance_46 : decode cX6_mixedChance 46 = .ok (.goto (-40), 3) := by decide +kernel
theorem dX6_mixedChance_49 : decode cX6_mixedChance 49 = .ok (.iload 4, 2) := by decide +kernel
theorem dX6_mixedChance_51 : decode cX6_mixedChance 51 = .ok (.ireturn, 1) := by decide +kernel
set_option maxRecDepth 20000 in
theorem ggX9_feed_X7_append : GoodIn wsX9_feed wsX7_append := goodIn_r _ [7, 8, 9, 24, 25, 26, 27, 28, 29, 30, 31, 32, 33, 34, 35, 36, 37] (by decide +kernel) (by decide +kernel)
set_option maxRecDepth 20000 in
theorem gX9_feed_X7_append : GoodIn wsX9_feed (wsV RX9 90 RX7 yX7_append wsX7_append) := goodIn_app (goodIn_of _ (by decide +kernel)) ggX9_feed_X7_append
theorem dX9_feed_0 : decode cX9_feed 0 = .ok (.aload_n 0, 1) := by decide +kernel
theorem dX9_feed_1 : decode cX9_feed 1 = .ok (.getfield 10, 3) := by decide +kernel
theorem dX9_feed_4 : decode cX9_feed 4 = .ok (.getfield 86, 3) := by decide +kernel
theorem dX9_feed_7 : decode cX9_feed 7 = .ok (.bipush 20, 2) := by decide +kernel
theorem dX9_feed_9 : decode cX9_feed 9 = .ok (.iadd, 1) := by decide +kernel
theorem dX9_feed_10 : decode cX9_feed 10 = .ok (.sipush 900, 3) := by decide +kernel
theorem dX9_feed_13 : decode cX9_feed 13 = .ok (.if_icmp .le 6, 3) := by decide +kernel
theorem dX9_feed_16 : decode cX9_feed 16 = .ok (.bipush (-3), 2) := by decide +kernel
theorem dX9_feed_18 : decode cX9_feed 18 = .ok (.ireturn, 1) := by decide +kernel
theorem dX9_feed_19 : decode cX9_feed 19 = .ok (.aload_n 0, 1) := by decide +kernel
theorem dX9_feed_20 : decode cX9_feed 20 = .ok (.getfield 10, 3) := by decide +kernel
theorem dX9_feed_23 : decode cX9_feed 23 = .ok (.iload_n 1, 1) := by decide +kernel
theorem dX9_feed_24 : decode cX9_feed 24 = .ok (.invokevirtual 90, 3) := by decide +kernel
theorem dX9_feed_27 : decode cX9_feed 27 = .ok (.aload_n 0, 1) := by decide +kernel
theorem dX9_feed_28 : decode cX9_feed 28 = .ok (.getfield 10, 3) := by decide +kernel
theorem dX9_feed_31 : decode cX9_feed 31 = .ok (.iload_n 2, 1) := by decide +kernel
theorem dX9_feed_32 : decode cX9_feed 32 = .ok (.invokevirtual 90, 3) := by decide +kernel
theorem dX9_feed_35 : decode cX9_feed 35 = .ok (.aload_n 0, 1) := by decide +kernel
theorem dX9_feed_36 : decode cX9_feed 36 = .ok (.getfield 10, 3) := by decide +kernel
theorem dX9_feed_39 : decode cX9_feed 39 = .ok (.iload_n 3, 1) := by decide +kernel
theorem dX9_feed_40 : decode cX9_feed 40 = .ok (.invokevirtual 90, 3) := by decide +kernel
theorem dX9_feed_43 : decode cX9_feed 43 = .ok (.aload_n 0, 1) := by decide +kernel
theorem dX9_feed_44 : decode cX9_feed 44 = .ok (.getfield 10, 3) := by decide +kernel
theorem dX9_feed_47 : decode cX9_feed 47 = .ok (.iload 4, 2) := by decide +kernel
theorem dX9_feed_49 : decode cX9_feed 49 = .ok (.invokevirtual 90, 3) := by decide +kernel
theorem dX9_feed_52 : decode cX9_feed 52 = .ok (.aload_n 0, 1) := by decide +kernel
theorem dX9_feed_53 : decode cX9_feed 53 = .ok (.getfield 10, 3) := by decide +kernel
theorem dX9_feed_56 : decode cX9_feed 56 = .ok (.iload 5, 2) := by decide +kernel
theorem dX9_feed_58 : decode cX9_feed 58 = .ok (.invokevirtual 90, 3) := by decide +kernel
theorem dX9_feed_61 : decode cX9_feed 61 = .ok (.aload_n 0, 1) := by decide +kernel
theorem dX9_feed_62 : decode cX9_feed 62 = .ok (.getfield 10, 3) := by decide +kernel
theorem dX9_feed_65 : decode cX9_feed 65 = .ok (.getfield 86, 3) := by decide +kernel
theorem dX9_feed_68 : decode cX9_feed 68 = .ok (.ireturn, 1) := by decide +kernel
theorem dX9_end_0 : decode cX9_end 0 = .ok (.iload_n 1, 1) := by decide +kernel
theorem dX9_end_1 : decode cX9_end 1 = .ok (.ifCond .lt 14, 3) := by decide +kernel
theorem dX9_end_4 : decode cX9_end 4 = .ok (.iload_n 1, 1) := by decide +kernel
theorem dX9_end_5 : decode cX9_end 5 = .ok (.aload_n 0, 1) := by decide +kernel
theorem dX9_end_6 : decode cX9_end 6 = .ok (.getfield 10, 3) := by decide +kernel
theorem dX9_end_9 : decode cX9_end 9 = .ok (.getfield 86, 3) := by decide +kernel
theorem dX9_end_12 : decode cX9_end 12 = .ok (.if_icmp .le 5, 3) := by decide +kernel
theorem dX9_end_15 : decode cX9_end 15 = .ok (.iconst (-1), 1) := by decide +kernel
theorem dX9_end_16 : decode cX9_end 16 = .ok (.ireturn, 1) := by decide +kernel
theorem dX9_end_17 : decode cX9_end 17 = .ok (.aload_n 0, 1) := by decide +kernel
theorem dX9_end_18 : decode cX9_end 18 = .ok (.getfield 10, 3) := by decide +kernel
theorem dX9_end_21 : decode cX9_end 21 = .ok (.iload_n 1, 1) := by decide +kernel
theorem dX9_end_22 : decode cX9_end 22 = .ok (.putfield 86, 3) := by decide +kernel
theorem dX9_end_25 : decode cX9_end 25 = .ok (.iload_n 1, 1) := by decide +kernel
theorem dX9_end_26 : decode cX9_end 26 = .ok (.ireturn, 1) := by decide +kernel
theorem kk_X6_isRuledOut_0 : Cond.fieldLink RX6 39 "PaidBySigns$Hire" "works" "I" ∈ wsX6_isRuledOut := by decide +kernel
theorem kk_X6_isRuledOut_1 : Cond.fieldLink RX6 45 "PaidBySigns$Hire" "signs" "I" ∈ wsX6_isRuledOut := by decide +kernel
theorem kk_X6_isRuledOut_2 : Cond.fieldLink RX6 31 "PaidBySigns$Hire" "costs" "[I" ∈ wsX6_isRuledOut := by decide +kernel
theorem kk_X6_mixedChance_0 : Cond.fieldLink RX6 39 "PaidBySigns$Hire" "works" "I" ∈ wsX6_mixedChance := by decide +kernel
theorem kk_X6_mixedChance_1 : Cond.fieldLink RX6 22 "PaidBySigns$Proofs" "mixed" "[I" ∈ wsX6_mixedChance := by decide +kernel
theorem kk_X6_mixedChance_2 : Cond.fieldLink RX6 48 "PaidBySigns$Hire" "chances" "[[I" ∈ wsX6_mixedChance := by decide +kernel
theorem kk_X6_isRuledOut_3 : Cond.fieldLink RX6 48 "PaidBySigns$Hire" "chances" "[[I" ∈ wsX6_isRuledOut := by decide +kernel
theorem kk_X6_isRuledOut_4 : Cond.fieldLink RX6 22 "PaidBySigns$Proofs" "mixed" "[I" ∈ wsX6_isRuledOut := by decide +kernel
theorem kk_X9_feed_0 : Cond.fieldLink RX9 10 "PaidBySigns" "reader" "LPaidBySigns$Reader;" ∈ wsX9_feed := by decide +kernel
theorem kk_X9_feed_1 : Cond.fieldLink RX9 86 "PaidBySigns$Reader" "length" "I" ∈ wsX9_feed := by decide +kernel
theorem kk_X9_end_0 : Cond.fieldLink RX9 10 "PaidBySigns" "reader" "LPaidBySigns$Reader;" ∈ wsX9_end := by decide +kernel
theorem kk_X9_end_1 : Cond.fieldLink RX9 86 "PaidBySigns$Reader" "length" "I" ∈ wsX9_end := by decide +kernel
theorem iw_X6_isRuledOut_X3 : ∀ w ∈ wsX30, w ∈ wsX6_isRuledOut := by decide +kernel
theorem iw_X6_mixedChance_X3 : ∀ w ∈ wsX30, w ∈ wsX6_mixedChance := by decide +kernel
theorem iw_X6_mixedChance_X6 : ∀ w ∈ wsX60, w ∈ wsX6_mixedChance := by decide +kernel
theorem iw_X6_isRuledOut_X6 : ∀ w ∈ wsX60, w ∈ wsX6_isRuledOut := by decide +kernel
theorem iw_X9_feed_X9 : ∀ w ∈ wsX90, w ∈ wsX9_feed := by decide +kernel
theorem iw_X9_feed_X7 : ∀ w ∈ wsX70, w ∈ wsX9_feed := by decide +kernel
theorem iw_X9_end_X9 : ∀ w ∈ wsX90, w ∈ wsX9_end := by decide +kernel
theorem iw_X9_end_X7 : ∀ w ∈ wsX70, w ∈ wsX9_end := by decide +kernel
