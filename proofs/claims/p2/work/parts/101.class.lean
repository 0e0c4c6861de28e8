def tyX0 : Nat → FieldType := fun k => match k with
  | 0 => .array .int
  | 1 => .int
  | 2 => .array .int
  | 3 => .array .int
  | 4 => .array (.array .int)
  | 5 => .array (.array .int)
  | 6 => .array (.array .int)
  | 7 => .array .int
  | 8 => .int
  | 9 => .int
  | _ => .int
theorem nmX0 : ∀ a, a < 11 → ∀ b, b < 11 → a ≠ b → (TX0 a).2.1 ≠ (TX0 b).2.1 := by decide +kernel
theorem tyX0_ok : ∀ k, k < 11 → parseFieldDescriptor (TX0 k).2.2.1 = some (tyX0 k) := by decide +kernel
abbrev cX0_place : ByteArray := prog_2_method_5_code
def yX0_place : MethodName := ⟨RX0, "place", "(II)V"⟩
abbrev cX0_canBeCheaper : ByteArray := prog_2_method_6_code
def yX0_canBeCheaper : MethodName := ⟨RX0, "canBeCheaper", "(II)Z"⟩
def wsX0_canBeCheaper : List Cond := .code yX0_canBeCheaper cX0_canBeCheaper 9 (some .boolean) :: ([.fieldLink RX0 16 "PaidBySigns$CoinSearch" "bestCost" "I", .fieldLink RX0 49 "PaidBySigns$CoinSearch" "lines" "I", .fieldLink RX0 45 "PaidBySigns$CoinSearch" "signs" "I", .fieldLink RX0 28 "PaidBySigns$CoinSearch" "share" "[[I", .fieldLink RX0 23 "PaidBySigns$CoinSearch" "own" "[I", .fieldLink RX0 34 "PaidBySigns$CoinSearch" "left" "[[I", .fieldLink RX0 20 "PaidBySigns$CoinSearch" "felt" "[I"] ++ wsX00)
def wsX0_place_r1 : List Cond := [Cond.fieldLink RX0 45 "PaidBySigns$CoinSearch" "signs" "I", Cond.fieldLink RX0 16 "PaidBySigns$CoinSearch" "bestCost" "I", Cond.fieldLink RX0 37 "PaidBySigns$CoinSearch" "tried" "[I", Cond.fieldLink RX0 9 "PaidBySigns$CoinSearch" "chosen" "[I", Cond.methodLink RX0 92 arraycopyName, Cond.native arraycopyName, Cond.static arraycopyName, Cond.initialized "java/lang/System", Cond.fieldLink RX0 23 "PaidBySigns$CoinSearch" "own" "[I", Cond.fieldLink RX0 49 "PaidBySigns$CoinSearch" "lines" "I", Cond.fieldLink RX0 34 "PaidBySigns$CoinSearch" "left" "[[I", Cond.fieldLink RX0 28 "PaidBySigns$CoinSearch" "share" "[[I", Cond.fieldLink RX0 20 "PaidBySigns$CoinSearch" "felt" "[I", Cond.methodLink RX0 98 yX0_lastCoin, Cond.instanceMethod yX0_lastCoin, Cond.selects RX0 yX0_lastCoin yX0_lastCoin, Cond.initialized RX0, Cond.code yX0_lastCoin cX0_lastCoin 4 (some .int), Cond.fieldLink RX0 58 "PaidBySigns$CoinSearch" "most" "I", Cond.methodLink RX0 108 yX0_isShort, Cond.instanceMethod yX0_isShort, Cond.selects RX0 yX0_isShort yX0_isShort, Cond.code yX0_isShort cX0_isShort 4 (some .boolean), Cond.fieldLink RX0 31 "PaidBySigns$CoinSearch" "rest" "[[I"]
def wsX0_place_r2 : List Cond := [Cond.methodLink RX0 101 yX0_firstCoin, Cond.instanceMethod yX0_firstCoin, Cond.selects RX0 yX0_firstCoin yX0_firstCoin, Cond.code yX0_firstCoin cX0_firstCoin 4 (some .int), Cond.methodLink RX0 104 yX0_canBeCheaper, Cond.instanceMethod yX0_canBeCheaper, Cond.selects RX0 yX0_canBeCheaper yX0_canBeCheaper, Cond.code yX0_canBeCheaper cX0_canBeCheaper 9 (some .boolean), Cond.methodLink RX0 72 yX0_place, Cond.instanceMethod yX0_place, Cond.selects RX0 yX0_place yX0_place]
def wsX0_place : List Cond := .code yX0_place cX0_place 7 none :: ((wsX0_place_r1 ++ wsX0_place_r2) ++ wsX00)
set_option maxRecDepth 20000 in
theorem ggX0_place_X0_lastCoin : GoodIn wsX0_place wsX0_lastCoin := goodIn_r _ [18, 9, 19, 10, 12, 20, 21, 22, 17, 23, 11, 13, 24, 36, 37, 38, 39, 40, 41, 42, 43, 44, 45, 46] (by decide +kernel) (by decide +kernel)
set_option maxRecDepth 20000 in
theorem gX0_place_X0_lastCoin : GoodIn wsX0_place (wsV RX0 98 RX0 yX0_lastCoin wsX0_lastCoin) := goodIn_app (goodIn_of _ (by decide +kernel)) ggX0_place_X0_lastCoin
set_option maxRecDepth 20000 in
theorem ggX0_place_X0_firstCoin : GoodIn wsX0_place wsX0_firstCoin := goodIn_r _ [28, 10, 19, 12, 20, 21, 22, 17, 23, 11, 13, 24, 36, 37, 38, 39, 40, 41, 42, 43, 44, 45, 46] (by decide +kernel) (by decide +kernel)
set_option maxRecDepth 20000 in
theorem gX0_place_X0_firstCoin : GoodIn wsX0_place (wsV RX0 101 RX0 yX0_firstCoin wsX0_firstCoin) := goodIn_app (goodIn_of _ (by decide +kernel)) ggX0_place_X0_firstCoin
set_option maxRecDepth 20000 in
theorem ggX0_place_X0_canBeCheaper : GoodIn wsX0_place wsX0_canBeCheaper := goodIn_r _ [32, 2, 10, 1, 12, 9, 11, 13, 36, 37, 38, 39, 40, 41, 42, 43, 44, 45, 46] (by decide +kernel) (by decide +kernel)
set_option maxRecDepth 20000 in
theorem gX0_place_X0_canBeCheaper : GoodIn wsX0_place (wsV RX0 104 RX0 yX0_canBeCheaper wsX0_canBeCheaper) := goodIn_app (goodIn_of _ (by decide +kernel)) ggX0_place_X0_canBeCheaper
set_option maxRecDepth 20000 in
theorem ggX0_place_X0_place : GoodIn wsX0_place wsX0_place := goodIn_r _ [0, 1, 2, 3, 4, 5, 6, 7, 8, 9, 10, 11, 12, 13, 14, 15, 16, 17, 18, 19, 20, 21, 22, 23, 24, 25, 26, 27, 28, 29, 30, 31, 32, 33, 34, 35, 36, 37, 38, 39, 40, 41, 42, 43, 44, 45, 46] (by decide +kernel) (by decide +kernel)
set_option maxRecDepth 20000 in
theorem gX0_place_X0_place : GoodIn wsX0_place (wsV RX0 72 RX0 yX0_place wsX0_place) := goodIn_app (goodIn_of _ (by decide +kernel)) ggX0_place_X0_place
theorem dX0_place_0 : decode cX0_place 0 = .ok (.iload_n 1, 1) := by decide +kernel
theorem dX0_place_1 : decode cX0_place 1 = .ok (.aload_n 0, 1) := by decide +kernel
theorem dX0_place_2 : decode cX0_place 2 = .ok (.getfield 45, 3) := by decide +kernel
theorem dX0_place_5 : decode cX0_place 5 = .ok (.if_icmp .lt 26, 3) := by decide +kernel
theorem dX0_place_8 : decode cX0_place 8 = .ok (.aload_n 0, 1) := by decide +kernel
theorem dX0_place_9 : decode cX0_place 9 = .ok (.iload_n 2, 1) := by decide +kernel
theorem dX0_place_10 : decode cX0_place 10 = .ok (.putfield 16, 3) := by decide +kernel
theorem dX0_place_13 : decode cX0_place 13 = .ok (.aload_n 0, 1) := by decide +kernel
theorem dX0_place_14 : decode cX0_place 14 = .ok (.getfield 37, 3) := by decide +kernel
theorem dX0_place_17 : decode cX0_place 17 = .ok (.iconst 0, 1) := by decide +kernel
theorem dX0_place_18 : decode cX0_place 18 = .ok (.aload_n 0, 1) := by decide +kernel
theorem dX0_place_19 : decode cX0_place 19 = .ok (.getfield 9, 3) := by decide +kernel
theorem dX0_place_22 : decode cX0_place 22 = .ok (.iconst 0, 1) := by decide +kernel
theorem dX0_place_23 : decode cX0_place 23 = .ok (.aload_n 0, 1) := by decide +kernel
theorem dX0_place_24 : decode cX0_place 24 = .ok (.getfield 45, 3) := by decide +kernel
theorem dX0_place_27 : decode cX0_place 27 = .ok (.invokestatic 92, 3) := by decide +kernel
theorem dX0_place_30 : decode cX0_place 30 = .ok (.return_, 1) := by decide +kernel
theorem dX0_place_31 : decode cX0_place 31 = .ok (.aload_n 0, 1) := by decide +kernel
theorem dX0_place_32 : decode cX0_place 32 = .ok (.iload_n 1, 1) := by decide +kernel
theorem dX0_place_33 : decode cX0_place 33 = .ok (.invokevirtual 98, 3) := by decide +kernel
theorem dX0_place_36 : decode cX0_place 36 = .ok (.istore_n 3, 1) := by decide +kernel
theorem dX0_place_37 : decode cX0_place 37 = .ok (.aload_n 0, 1) := by decide +kernel
theorem dX0_place_38 : decode cX0_place 38 = .ok (.iload_n 1, 1) := by decide +kernel
theorem dX0_place_39 : decode cX0_place 39 = .ok (.invokevirtual 101, 3) := by decide +kernel
theorem dX0_place_42 : decode cX0_place 42 = .ok (.istore 4, 2) := by decide +kernel
theorem dX0_place_44 : decode cX0_place 44 = .ok (.iload 4, 2) := by decide +kernel
theorem dX0_place_46 : decode cX0_place 46 = .ok (.iload_n 3, 1) := by decide +kernel
theorem dX0_place_47 : decode cX0_place 47 = .ok (.if_icmp .gt 117, 3) := by decide +kernel
theorem dX0_place_50 : decode cX0_place 50 = .ok (.iload_n 2, 1) := by decide +kernel
theorem dX0_place_51 : decode cX0_place 51 = .ok (.aload_n 0, 1) := by decide +kernel
theorem dX0_place_52 : decode cX0_place 52 = .ok (.getfield 23, 3) := by decide +kernel
theorem dX0_place_55 : decode cX0_place 55 = .ok (.iload_n 1, 1) := by decide +kernel
theorem dX0_place_56 : decode cX0_place 56 = .ok (.iaload, 1) := by decide +kernel
theorem dX0_place_57 : decode cX0_place 57 = .ok (.iload 4, 2) := by decide +kernel
theorem dX0_place_59 : decode cX0_place 59 = .ok (.imul, 1) := by decide +kernel
theorem dX0_place_60 : decode cX0_place 60 = .ok (.iadd, 1) := by decide +kernel
theorem dX0_place_61 : decode cX0_place 61 = .ok (.istore 5, 2) := by decide +kernel
theorem dX0_place_63 : decode cX0_place 63 = .ok (.iload 5, 2) := by decide +kernel
theorem dX0_place_65 : decode cX0_place 65 = .ok (.aload_n 0, 1) := by decide +kernel
theorem dX0_place_66 : decode cX0_place 66 = .ok (.getfield 16, 3) := by decide +kernel
theorem dX0_place_69 : decode cX0_place 69 = .ok (.if_icmp .lt 4, 3) := by decide +kernel
theorem dX0_place_72 : decode cX0_place 72 = .ok (.return_, 1) := by decide +kernel
theorem dX0_place_73 : decode cX0_place 73 = .ok (.aload_n 0, 1) := by decide +kernel
theorem dX0_place_74 : decode cX0_place 74 = .ok (.getfield 37, 3) := by decide +kernel
theorem dX0_place_77 : decode cX0_place 77 = .ok (.iload_n 1, 1) := by decide +kernel
theorem dX0_place_78 : decode cX0_place 78 = .ok (.iload 4, 2) := by decide +kernel
theorem dX0_place_80 : decode cX0_place 80 = .ok (.iastore, 1) := by decide +kernel
theorem dX0_place_81 : decode cX0_place 81 = .ok (.iconst 0, 1) := by decide +kernel
theorem dX0_place_82 : decode cX0_place 82 = .ok (.istore 6, 2) := by decide +kernel
theorem dX0_place_84 : decode cX0_place 84 = .ok (.iload 6, 2) := by decide +kernel
theorem dX0_place_86 : decode cX0_place 86 = .ok (.aload_n 0, 1) := by decide +kernel
theorem dX0_place_87 : decode cX0_place 87 = .ok (.getfield 49, 3) := by decide +kernel
theorem dX0_place_90 : decode cX0_place 90 = .ok (.if_icmp .ge 47, 3) := by decide +kernel
theorem dX0_place_93 : decode cX0_place 93 = .ok (.aload_n 0, 1) := by decide +kernel
theorem dX0_place_94 : decode cX0_place 94 = .ok (.getfield 34, 3) := by decide +kernel
theorem dX0_place_97 : decode cX0_place 97 = .ok (.iload_n 1, 1) := by decide +kernel
theorem dX0_place_98 : decode cX0_place 98 = .ok (.iconst 1, 1) := by decide +kernel
theorem dX0_place_99 : decode cX0_place 99 = .ok (.iadd, 1) := by decide +kernel
theorem dX0_place_100 : decode cX0_place 100 = .ok (.aaload, 1) := by decide +kernel
theorem dX0_place_101 : decode cX0_place 101 = .ok (.iload 6, 2) := by decide +kernel
theorem dX0_place_103 : decode cX0_place 103 = .ok (.aload_n 0, 1) := by decide +kernel
theorem dX0_place_104 : decode cX0_place 104 = .ok (.getfield 34, 3) := by decide +kernel
theorem dX0_place_107 : decode cX0_place 107 = .ok (.iload_n 1, 1) := by decide +kernel
theorem dX0_place_108 : decode cX0_place 108 = .ok (.aaload, 1) := by decide +kernel
theorem dX0_place_109 : decode cX0_place 109 = .ok (.iload 6, 2) := by decide +kernel
theorem dX0_place_111 : decode cX0_place 111 = .ok (.iaload, 1) := by decide +kernel
theorem dX0_place_112 : decode cX0_place 112 = .ok (.aload_n 0, 1) := by decide +kernel
theorem dX0_place_113 : decode cX0_place 113 = .ok (.getfield 28, 3) := by decide +kernel
theorem dX0_place_116 : decode cX0_place 116 = .ok (.iload 6, 2) := by decide +kernel
theorem dX0_place_118 : decode cX0_place 118 = .ok (.aaload, 1) := by decide +kernel
theorem dX0_place_119 : decode cX0_place 119 = .ok (.iload_n 1, 1) := by decide +kernel
theorem dX0_place_120 : decode cX0_place 120 = .ok (.iaload, 1) := by decide +kernel
theorem dX0_place_121 : decode cX0_place 121 = .ok (.aload_n 0, 1) := by decide +kernel
theorem dX0_place_122 : decode cX0_place 122 = .ok (.getfield 20, 3) := by decide +kernel
theorem dX0_place_125 : decode cX0_place 125 = .ok (.iload 4, 2) := by decide +kernel
theorem dX0_place_127 : decode cX0_place 127 = .ok (.iaload, 1) := by decide +kernel
theorem dX0_place_128 : decode cX0_place 128 = .ok (.imul, 1) := by decide +kernel
theorem dX0_place_129 : decode cX0_place 129 = .ok (.isub, 1) := by decide +kernel
theorem dX0_place_130 : decode cX0_place 130 = .ok (.iastore, 1) := by decide +kernel
theorem dX0_place_131 : decode cX0_place 131 = .ok (.iinc 6 1, 3) := by decide +kernel
theorem dX0_place_134 : decode cX0_place 134 = .ok (.goto (-50), 3) := by decide +kernel
theorem dX0_place_137 : decode cX0_place 137 = .ok (.aload_n 0, 1) := by decide +kernel
theorem dX0_place_138 : decode cX0_place 138 = .ok (.iload_n 1, 1) := by decide +kernel
theorem dX0_place_139 : decode cX0_place 139 = .ok (.iconst 1, 1) := by decide +kernel
theorem dX0_place_140 : decode cX0_place 140 = .ok (.iadd, 1) := by decide +kernel
theorem dX0_place_141 : decode cX0_place 141 = .ok (.iload 5, 2) := by decide +kernel
theorem dX0_place_143 : decode cX0_place 143 = .ok (.invokevirtual 104, 3) := by decide +kernel
theorem dX0_place_146 : decode cX0_place 146 = .ok (.ifCond .eq 12, 3) := by decide +kernel
theorem dX0_place_149 : decode cX0_place 149 = .ok (.aload_n 0, 1) := by decide +kernel
theorem dX0_place_150 : decode cX0_place 150 = .ok (.iload_n 1, 1) := by decide +kernel
theorem dX0_place_151 : decode cX0_place 151 = .ok (.iconst 1, 1) := by decide +kernel
theorem dX0_place_152 : decode cX0_place 152 = .ok (.iadd, 1) := by decide +kernel
theorem dX0_place_153 : decode cX0_place 153 = .ok (.iload 5, 2) := by decide +kernel
theorem dX0_place_155 : decode cX0_place 155 = .ok (.invokevirtual 72, 3) := by decide +kernel
theorem dX0_place_158 : decode cX0_place 158 = .ok (.iinc 4 1, 3) := by decide +kernel
theorem dX0_place_161 : decode cX0_place 161 = .ok (.goto (-117), 3) := by decide +kernel
theorem dX0_place_164 : decode cX0_place 164 = .ok (.return_, 1) := by decide +kernel
theorem dX0_canBeCheaper_0 : decode cX0_canBeCheaper 0 = .ok (.aload_n 0, 1) := by decide +kernel
theorem dX0_canBeCheaper_1 : decode cX0_canBeCheaper 1 = .ok (.getfield 16, 3) := by decide +kernel
theorem dX0_canBeCheaper_4 : decode cX0_canBeCheaper 4 = .ok (.i2l, 1) := by decide +kernel
theorem dX0_canBeCheaper_5 : decode cX0_canBeCheaper 5 = .ok (.iload_n 2, 1) := by decide +kernel
theorem dX0_canBeCheaper_6 : decode cX0_canBeCheaper 6 = .ok (.i2l, 1) := by decide +kernel
theorem dX0_canBeCheaper_7 : decode cX0_canBeCheaper 7 = .ok (.lsub, 1) := by decide +kernel
theorem dX0_canBeCheaper_8 : decode cX0_canBeCheaper 8 = .ok (.lstore_n 3, 1) := by decide +kernel
theorem dX0_canBeCheaper_9 : decode cX0_canBeCheaper 9 = .ok (.iconst 0, 1) := by decide +kernel
theorem dX0_canBeCheaper_10 : decode cX0_canBeCheaper 10 = .ok (.istore 5, 2) := by decide +kernel
theorem dX0_canBeCheaper_12 : decode cX0_canBeCheaper 12 = .ok (.iload 5, 2) := by decide +kernel
theorem dX0_canBeCheaper_14 : decode cX0_canBeCheaper 14 = .ok (.aload_n 0, 1) := by decide +kernel
theorem dX0_canBeCheaper_15 : decode cX0_canBeCheaper 15 = .ok (.getfield 49, 3) := by decide +kernel
theorem dX0_canBeCheaper_18 : decode cX0_canBeCheaper 18 = .ok (.if_icmp .ge 130, 3) := by decide +kernel
theorem dX0_canBeCheaper_21 : decode cX0_canBeCheaper 21 = .ok (.iconst 0, 1) := by decide +kernel
theorem dX0_canBeCheaper_22 : decode cX0_canBeCheaper 22 = .ok (.istore 6, 2) := by decide +kernel
theorem dX0_canBeCheaper_24 : decode cX0_canBeCheaper 24 = .ok (.iconst 1, 1) := by decide +kernel
theorem dX0_canBeCheaper_25 : decode cX0_canBeCheaper 25 = .ok (.istore 7, 2) := by decide +kernel
theorem dX0_canBeCheaper_27 : decode cX0_canBeCheaper 27 = .ok (.iload_n 1, 1) := by decide +kernel
theorem dX0_canBeCheaper_28 : decode cX0_canBeCheaper 28 = .ok (.istore 8, 2) := by decide +kernel
theorem dX0_canBeCheaper_30 : decode cX0_canBeCheaper 30 = .ok (.iload 8, 2) := by decide +kernel
theorem dX0_canBeCheaper_32 : decode cX0_canBeCheaper 32 = .ok (.aload_n 0, 1) := by decide +kernel
theorem dX0_canBeCheaper_33 : decode cX0_canBeCheaper 33 = .ok (.getfield 45, 3) := by decide +kernel
theorem dX0_canBeCheaper_36 : decode cX0_canBeCheaper 36 = .ok (.if_icmp .ge 56, 3) := by decide +kernel
theorem dX0_canBeCheaper_39 : decode cX0_canBeCheaper 39 = .ok (.aload_n 0, 1) := by decide +kernel
theorem dX0_canBeCheaper_40 : decode cX0_canBeCheaper 40 = .ok (.getfield 28, 3) := by decide +kernel
theorem dX0_canBeCheaper_43 : decode cX0_canBeCheaper 43 = .ok (.iload 5, 2) := by decide +kernel
theorem dX0_canBeCheaper_45 : decode cX0_canBeCheaper 45 = .ok (.aaload, 1) := by decide +kernel
theorem dX0_canBeCheaper_46 : decode cX0_canBeCheaper 46 = .ok (.iload 8, 2) := by decide +kernel
theorem dX0_canBeCheaper_48 : decode cX0_canBeCheaper 48 = .ok (.iaload, 1) := by decide +kernel
theorem dX0_canBeCheaper_49 : decode cX0_canBeCheaper 49 = .ok (.iload 7, 2) := by decide +kernel
theorem dX0_canBeCheaper_51 : decode cX0_canBeCheaper 51 = .ok (.imul, 1) := by decide +kernel
theorem dX0_canBeCheaper_52 : decode cX0_canBeCheaper 52 = .ok (.iload 6, 2) := by decide +kernel
theorem dX0_canBeCheaper_54 : decode cX0_canBeCheaper 54 = .ok (.aload_n 0, 1) := by decide +kernel
theorem dX0_canBeCheaper_55 : decode cX0_canBeCheaper 55 = .ok (.getfield 23, 3) := by decide +kernel
theorem dX0_canBeCheaper_58 : decode cX0_canBeCheaper 58 = .ok (.iload 8, 2) := by decide +kernel
theorem dX0_canBeCheaper_60 : decode cX0_canBeCheaper 60 = .ok (.iaload, 1) := by decide +kernel
theorem dX0_canBeCheaper_61 : decode cX0_canBeCheaper 61 = .ok (.imul, 1) := by decide +kernel
theorem dX0_canBeCheaper_62 : decode cX0_canBeCheaper 62 = .ok (.if_icmp .le 24, 3) := by decide +kernel
theorem dX0_canBeCheaper_65 : decode cX0_canBeCheaper 65 = .ok (.aload_n 0, 1) := by decide +kernel
theorem dX0_canBeCheaper_66 : decode cX0_canBeCheaper 66 = .ok (.getfield 28, 3) := by decide +kernel
theorem dX0_canBeCheaper_69 : decode cX0_canBeCheaper 69 = .ok (.iload 5, 2) := by decide +kernel
theorem dX0_canBeCheaper_71 : decode cX0_canBeCheaper 71 = .ok (.aaload, 1) := by decide +kernel
theorem dX0_canBeCheaper_72 : decode cX0_canBeCheaper 72 = .ok (.iload 8, 2) := by decide +kernel
theorem dX0_canBeCheaper_74 : decode cX0_canBeCheaper 74 = .ok (.iaload, 1) := by decide +kernel
theorem dX0_canBeCheaper_75 : decode cX0_canBeCheaper 75 = .ok (.istore 6, 2) := by decide +kernel
theorem dX0_canBeCheaper_77 : decode cX0_canBeCheaper 77 = .ok (.aload_n 0, 1) := by decide +kernel
theorem dX0_canBeCheaper_78 : decode cX0_canBeCheaper 78 = .ok (.getfield 23, 3) := by decide +kernel
theorem dX0_canBeCheaper_81 : decode cX0_canBeCheaper 81 = .ok (.iload 8, 2) := by decide +kernel
theorem dX0_canBeCheaper_83 : decode cX0_canBeCheaper 83 = .ok (.iaload, 1) := by decide +kernel
theorem dX0_canBeCheaper_84 : decode cX0_canBeCheaper 84 = .ok (.istore 7, 2) := by decide +kernel
theorem dX0_canBeCheaper_86 : decode cX0_canBeCheaper 86 = .ok (.iinc 8 1, 3) := by decide +kernel
theorem dX0_canBeCheaper_89 : decode cX0_canBeCheaper 89 = .ok (.goto (-59), 3) := by decide +kernel
theorem dX0_canBeCheaper_92 : decode cX0_canBeCheaper 92 = .ok (.iload 6, 2) := by decide +kernel
theorem dX0_canBeCheaper_94 : decode cX0_canBeCheaper 94 = .ok (.ifCond .le 48, 3) := by decide +kernel
theorem dX0_canBeCheaper_97 : decode cX0_canBeCheaper 97 = .ok (.aload_n 0, 1) := by decide +kernel
theorem dX0_canBeCheaper_98 : decode cX0_canBeCheaper 98 = .ok (.getfield 34, 3) := by decide +kernel
theorem dX0_canBeCheaper_101 : decode cX0_canBeCheaper 101 = .ok (.iload_n 1, 1) := by decide +kernel
theorem dX0_canBeCheaper_102 : decode cX0_canBeCheaper 102 = .ok (.aaload, 1) := by decide +kernel
theorem dX0_canBeCheaper_103 : decode cX0_canBeCheaper 103 = .ok (.iload 5, 2) := by decide +kernel
theorem dX0_canBeCheaper_105 : decode cX0_canBeCheaper 105 = .ok (.iaload, 1) := by decide +kernel
theorem dX0_canBeCheaper_106 : decode cX0_canBeCheaper 106 = .ok (.ifCond .le 36, 3) := by decide +kernel
theorem dX0_canBeCheaper_109 : decode cX0_canBeCheaper 109 = .ok (.aload_n 0, 1) := by decide +kernel
theorem dX0_canBeCheaper_110 : decode cX0_canBeCheaper 110 = .ok (.getfield 34, 3) := by decide +kernel
theorem dX0_canBeCheaper_113 : decode cX0_canBeCheaper 113 = .ok (.iload_n 1, 1) := by decide +kernel
theorem dX0_canBeCheaper_114 : decode cX0_canBeCheaper 114 = .ok (.aaload, 1) := by decide +kernel
theorem dX0_canBeCheaper_115 : decode cX0_canBeCheaper 115 = .ok (.iload 5, 2) := by decide +kernel
theorem dX0_canBeCheaper_117 : decode cX0_canBeCheaper 117 = .ok (.iaload, 1) := by decide +kernel
theorem dX0_canBeCheaper_118 : decode cX0_canBeCheaper 118 = .ok (.i2l, 1) := by decide +kernel
theorem dX0_canBeCheaper_119 : decode cX0_canBeCheaper 119 = .ok (.iload 7, 2) := by decide +kernel
theorem dX0_canBeCheaper_121 : decode cX0_canBeCheaper 121 = .ok (.i2l, 1) := by decide +kernel
theorem dX0_canBeCheaper_122 : decode cX0_canBeCheaper 122 = .ok (.lmul, 1) := by decide +kernel
theorem dX0_canBeCheaper_123 : decode cX0_canBeCheaper 123 = .ok (.lload_n 3, 1) := by decide +kernel
theorem dX0_canBeCheaper_124 : decode cX0_canBeCheaper 124 = .ok (.iload 6, 2) := by decide +kernel
theorem dX0_canBeCheaper_126 : decode cX0_canBeCheaper 126 = .ok (.i2l, 1) := by decide +kernel
theorem dX0_canBeCheaper_127 : decode cX0_canBeCheaper 127 = .ok (.lmul, 1) := by decide +kernel
theorem dX0_canBeCheaper_128 : decode cX0_canBeCheaper 128 = .ok (.aload_n 0, 1) := by decide +kernel
theorem dX0_canBeCheaper_129 : decode cX0_canBeCheaper 129 = .ok (.getfield 20, 3) := by decide +kernel
theorem dX0_canBeCheaper_132 : decode cX0_canBeCheaper 132 = .ok (.iconst 1, 1) := by decide +kernel
theorem dX0_canBeCheaper_133 : decode cX0_canBeCheaper 133 = .ok (.iaload, 1) := by decide +kernel
theorem dX0_canBeCheaper_134 : decode cX0_canBeCheaper 134 = .ok (.i2l, 1) := by decide +kernel
theorem dX0_canBeCheaper_135 : decode cX0_canBeCheaper 135 = .ok (.lmul, 1) := by decide +kernel
theorem dX0_canBeCheaper_136 : decode cX0_canBeCheaper 136 = .ok (.lcmp, 1) := by decide +kernel
theorem dX0_canBeCheaper_137 : decode cX0_canBeCheaper 137 = .ok (.ifCond .lt 5, 3) := by decide +kernel
theorem dX0_canBeCheaper_140 : decode cX0_canBeCheaper 140 = .ok (.iconst 0, 1) := by decide +kernel
theorem dX0_canBeCheaper_141 : decode cX0_canBeCheaper 141 = .ok (.ireturn, 1) := by decide +kernel
theorem dX0_canBeCheaper_142 : decode cX0_canBeCheaper 142 = .ok (.iinc 5 1, 3) := by decide +kernel
theorem dX0_canBeCheaper_145 : decode cX0_canBeCheaper 145 = .ok (.goto (-133), 3) := by decide +kernel
theorem dX0_canBeCheaper_148 : decode cX0_canBeCheaper 148 = .ok (.iconst 1, 1) := by decide +kernel
theorem dX0_canBeCheaper_149 : decode cX0_canBeCheaper 149 = .ok (.ireturn, 1) := by decide +kernel
theorem kk_X0_place_0 : Cond.fieldLink RX0 45 "PaidBySigns$CoinSearch" "signs" "I" ∈ wsX0_place := by decide +kernel
theorem kk_X0_place_1 : Cond.fieldLink RX0 23 "PaidBySigns$CoinSearch" "own" "[I" ∈ wsX0_place := by decide +kernel
theorem kk_X0_place_2 : Cond.fieldLink RX0 16 "PaidBySigns$CoinSearch" "bestCost" "I" ∈ wsX0_place := by decide +kernel
theorem kk_X0_place_3 : Cond.fieldLink RX0 37 "PaidBySigns$CoinSearch" "tried" "[I" ∈ wsX0_place := by decide +kernel
theorem kk_X0_place_4 : Cond.fieldLink RX0 49 "PaidBySigns$CoinSearch" "lines" "I" ∈ wsX0_place := by decide +kernel
theorem kk_X0_canBeCheaper_0 : Cond.fieldLink RX0 16 "PaidBySigns$CoinSearch" "bestCost" "I" ∈ wsX0_canBeCheaper := by decide +kernel
theorem kk_X0_canBeCheaper_1 : Cond.fieldLink RX0 49 "PaidBySigns$CoinSearch" "lines" "I" ∈ wsX0_canBeCheaper := by decide +kernel
theorem kk_X0_canBeCheaper_2 : Cond.fieldLink RX0 45 "PaidBySigns$CoinSearch" "signs" "I" ∈ wsX0_canBeCheaper := by decide +kernel
theorem kk_X0_canBeCheaper_3 : Cond.fieldLink RX0 28 "PaidBySigns$CoinSearch" "share" "[[I" ∈ wsX0_canBeCheaper := by decide +kernel
theorem kk_X0_canBeCheaper_4 : Cond.fieldLink RX0 23 "PaidBySigns$CoinSearch" "own" "[I" ∈ wsX0_canBeCheaper := by decide +kernel
theorem kk_X0_canBeCheaper_5 : Cond.fieldLink RX0 34 "PaidBySigns$CoinSearch" "left" "[[I" ∈ wsX0_canBeCheaper := by decide +kernel
theorem kk_X0_canBeCheaper_6 : Cond.fieldLink RX0 20 "PaidBySigns$CoinSearch" "felt" "[I" ∈ wsX0_canBeCheaper := by decide +kernel
theorem kk_X0_place_5 : Cond.fieldLink RX0 9 "PaidBySigns$CoinSearch" "chosen" "[I" ∈ wsX0_place := by decide +kernel
theorem kk_X0_place_6 : Cond.methodLink RX0 92 arraycopyName ∈ wsX0_place := by decide +kernel
theorem kk_X0_place_7 : Cond.native arraycopyName ∈ wsX0_place := by decide +kernel
theorem kk_X0_place_8 : Cond.static arraycopyName ∈ wsX0_place := by decide +kernel
theorem kk_X0_place_9 : Cond.initialized "java/lang/System" ∈ wsX0_place := by decide +kernel
theorem kk_X0_place_10 : Cond.fieldLink RX0 34 "PaidBySigns$CoinSearch" "left" "[[I" ∈ wsX0_place := by decide +kernel
theorem kk_X0_place_11 : Cond.fieldLink RX0 28 "PaidBySigns$CoinSearch" "share" "[[I" ∈ wsX0_place := by decide +kernel
theorem kk_X0_place_12 : Cond.fieldLink RX0 20 "PaidBySigns$CoinSearch" "felt" "[I" ∈ wsX0_place := by decide +kernel
theorem iw_X0_place_X0 : ∀ w ∈ wsX00, w ∈ wsX0_place := by decide +kernel
theorem iw_X0_canBeCheaper_X0 : ∀ w ∈ wsX00, w ∈ wsX0_canBeCheaper := by decide +kernel
set_option maxHeartbeats 4000000 in
set_option maxRecDepth 100000 in
theorem ct_X0_canBeCheaper (l : Launch) (dC : Nat → ClassId) (dI : Nat → Nat → Nat) (o : Nat) (p0 : Int32) (p1 : Int32) (a_chosen : Nat) (v_bestCost : Int32) (a_felt : Nat) (a_own : Nat) (a_share : Nat) (a_rest : Nat) (a_left : Nat) (a_tried : Nat) (v_signs : Int32) (v_lines : Int32) (v_most : Int32) (k_a_felt : ClassId) (f_a_felt : Nat → Int32) (k_a_own : ClassId) (f_a_own : Nat → Int32) (k_a_share : ClassId) (R_a_share : Nat → Nat) (k_a_left : ClassId) (R_a_left : Nat → Nat) (LP : List Nat) (sh : Nat → Nat) (fp : Nat → va_E) (cI : ClassId) (cJ : ClassId) (hp0 : iv p0 1 4) (hv_signs : iv v_signs 0 4) (hv_lines : iv v_lines 0 5) (hfp : pok cI cJ LP sh fp) (hRR_a_share : ∀ i : Nat, i < 5 → R_a_share i ∈ LP ∧ sh (R_a_share i) = 4) (hRR_a_left : ∀ i : Nat, i < 5 → R_a_left i ∈ LP ∧ sh (R_a_left i) = 5) (sz : Nat) : Met l yX0_canBeCheaper wsX0_canBeCheaper ({ frames := 0, cells := 0, slots := 0, locals := 0 }) (va_Pc [.ref o, .int p0, .int p1] (fun U => U.heap.size = sz ∧ va_P (dC, dI) vwCl ([(o, .inr (0, [.ref a_chosen, .int v_bestCost, .ref a_felt, .ref a_own, .ref a_share, .ref a_rest, .ref a_left, .ref a_tried, .int v_signs, .int v_lines, .int v_most])), (a_felt, .inl (k_a_felt, 21, .inl f_a_felt)), (a_own, .inl (k_a_own, 4, .inl f_a_own)), (a_share, .inl (k_a_share, 5, .inr (.inr (.inr (.inr (rows_of 5 R_a_share)))))), (a_left, .inl (k_a_left, 5, .inr (.inr (.inr (.inr (rows_of 5 R_a_left))))))] ++ va_pl LP fp) U.heap ∧ va_K (dC, dI) vwCl [(k_a_felt, .int), (k_a_own, .int), (k_a_share, (.array .int)), (k_a_left, (.array .int)), (cI, .int), (cJ, .long)] U ∧ va_D (fun _ => True) ([(o, .inr (0, [.ref a_chosen, .int v_bestCost, .ref a_felt, .ref a_own, .ref a_share, .ref a_rest, .ref a_left, .ref a_tried, .int v_signs, .int v_lines, .int v_most])), (a_felt, .inl (k_a_felt, 21, .inl f_a_felt)), (a_own, .inl (k_a_own, 4, .inl f_a_own)), (a_share, .inl (k_a_share, 5, .inr (.inr (.inr (.inr (rows_of 5 R_a_share)))))), (a_left, .inl (k_a_left, 5, .inr (.inr (.inr (.inr (rows_of 5 R_a_left))))))] ++ va_pl LP fp))) (va_Qi (fun (r u : Int32) => u = r) (fun (r : Int32) t => ((r = 0) ∨ (r = 1)) ∧ va_P (dC, dI) vwCl ([(o, .inr (0, [.ref a_chosen, .int v_bestCost, .ref a_felt, .ref a_own, .ref a_share, .ref a_rest, .ref a_left, .ref a_tried, .int v_signs, .int v_lines, .int v_most])), (a_felt, .inl (k_a_felt, 21, .inl f_a_felt)), (a_own, .inl (k_a_own, 4, .inl f_a_own)), (a_share, .inl (k_a_share, 5, .inr (.inr (.inr (.inr (rows_of 5 R_a_share)))))), (a_left, .inl (k_a_left, 5, .inr (.inr (.inr (.inr (rows_of 5 R_a_left))))))] ++ va_pl LP fp) t.heap ∧ va_D (va_A ([(o, .inr (0, [.ref a_chosen, .int v_bestCost, .ref a_felt, .ref a_own, .ref a_share, .ref a_rest, .ref a_left, .ref a_tried, .int v_signs, .int v_lines, .int v_most])), (a_felt, .inl (k_a_felt, 21, .inl f_a_felt)), (a_own, .inl (k_a_own, 4, .inl f_a_own)), (a_share, .inl (k_a_share, 5, .inr (.inr (.inr (.inr (rows_of 5 R_a_share)))))), (a_left, .inl (k_a_left, 5, .inr (.inr (.inr (.inr (rows_of 5 R_a_left))))))] ++ va_pl LP fp) sz) ([(o, .inr (0, [.ref a_chosen, .int v_bestCost, .ref a_felt, .ref a_own, .ref a_share, .ref a_rest, .ref a_left, .ref a_tried, .int v_signs, .int v_lines, .int v_most])), (a_felt, .inl (k_a_felt, 21, .inl f_a_felt)), (a_own, .inl (k_a_own, 4, .inl f_a_own)), (a_share, .inl (k_a_share, 5, .inr (.inr (.inr (.inr (rows_of 5 R_a_share)))))), (a_left, .inl (k_a_left, 5, .inr (.inr (.inr (.inr (rows_of 5 R_a_left))))))] ++ va_pl LP fp)) (va_A ([(o, .inr (0, [.ref a_chosen, .int v_bestCost, .ref a_felt, .ref a_own, .ref a_share, .ref a_rest, .ref a_left, .ref a_tried, .int v_signs, .int v_lines, .int v_most])), (a_felt, .inl (k_a_felt, 21, .inl f_a_felt)), (a_own, .inl (k_a_own, 4, .inl f_a_own)), (a_share, .inl (k_a_share, 5, .inr (.inr (.inr (.inr (rows_of 5 R_a_share)))))), (a_left, .inl (k_a_left, 5, .inr (.inr (.inr (.inr (rows_of 5 R_a_left))))))] ++ va_pl LP fp) sz)) 0 0 (va_A ([(o, .inr (0, [.ref a_chosen, .int v_bestCost, .ref a_felt, .ref a_own, .ref a_share, .ref a_rest, .ref a_left, .ref a_tried, .int v_signs, .int v_lines, .int v_most])), (a_felt, .inl (k_a_felt, 21, .inl f_a_felt)), (a_own, .inl (k_a_own, 4, .inl f_a_own)), (a_share, .inl (k_a_share, 5, .inr (.inr (.inr (.inr (rows_of 5 R_a_share)))))), (a_left, .inl (k_a_left, 5, .inr (.inr (.inr (.inr (rows_of 5 R_a_left))))))] ++ va_pl LP fp) sz) := by
  refine Met.ofW (cc := cX0_canBeCheaper) (maxL := 9) (ret := (some .boolean)) (by decide) rfl ?_
  intro p e s m args below meth c s₁ B hml hv
  obtain ⟨rfl, hsz, hP, hK, hD0⟩ := hv
  have hx := B.exec
  have hb := B.bytes
  have hr := B.returns
  have hts := atoms_spec (ws := wsX0_canBeCheaper) B.pre
  have hown : s.vm.findClass RX0 = some m.cls := findClass_of_methodNamed B.named
  have hlocks := B.notSynchronized
  subst hsz
  have hD := hD0.self (sz := s.heap.size)
  generalize hAe : va_A ([(o, .inr (0, [.ref a_chosen, .int v_bestCost, .ref a_felt, .ref a_own, .ref a_share, .ref a_rest, .ref a_left, .ref a_tried, .int v_signs, .int v_lines, .int v_most])), (a_felt, .inl (k_a_felt, 21, .inl f_a_felt)), (a_own, .inl (k_a_own, 4, .inl f_a_own)), (a_share, .inl (k_a_share, 5, .inr (.inr (.inr (.inr (rows_of 5 R_a_share)))))), (a_left, .inl (k_a_left, 5, .inr (.inr (.inr (.inr (rows_of 5 R_a_left))))))] ++ va_pl LP fp) s.heap.size = A at hD ⊢
  have hA : ∀ q : Nat, s.heap.size ≤ q → A q := fun q h => by rw [← hAe]; exact Or.inr h
  have hS : va_S A s.heap s.heap [] := va_S.rf
  have hP : va_P (dC, dI) vwCl ([(o, .inr (0, [.ref a_chosen, .int v_bestCost, .ref a_felt, .ref a_own, .ref a_share, .ref a_rest, .ref a_left, .ref a_tried, .int v_signs, .int v_lines, .int v_most])), (a_felt, .inl (k_a_felt, 21, .inl f_a_felt)), (a_own, .inl (k_a_own, 4, .inl f_a_own)), (a_share, .inl (k_a_share, 5, .inr (.inr (.inr (.inr (rows_of 5 R_a_share)))))), (a_left, .inl (k_a_left, 5, .inr (.inr (.inr (.inr (rows_of 5 R_a_left))))))] ++ va_pl LP fp) s.heap := hP
  have hl := lv_entry ([.ref o, .int p0, .int p1]) (n := 9) (Nat.le_of_ble_eq_true rfl)
  rw [lg_entry_eq]
  generalize (lg_sl ([.ref o, .int p0, .int p1]) ++ List.replicate (9 - (lg_sl ([.ref o, .int p0, .int p1])).length) Slot.unset).toArray = ls at hl ⊢
  have hl : lv_has ls 9 [(0, .ref o), (1, .int p0), (2, .int p1)] := hl
  refine lv_aload_n hx hb dX0_canBeCheaper_0 rfl (lv_at hl 0 rfl) ?_
  refine va_get (D := (dC, dI)) (ci := 0) (v := .int v_bestCost) (C := RX0) (T := TX0) (N := 11) hx hb hts iw_X0_canBeCheaper_X0 hown hK hP 0 rfl rfl 1 (by decide) (hts _ kk_X0_canBeCheaper_0) (fun _ h9 => h9) rfl dX0_canBeCheaper_1 ?_
  refine lv_i2l (v := (v_bestCost).toInt64) hx hb dX0_canBeCheaper_4 rfl ?_
  refine lv_iload_n hx hb dX0_canBeCheaper_5 rfl (lv_at hl 2 rfl) ?_
  refine lv_i2l (v := (p1).toInt64) hx hb dX0_canBeCheaper_6 rfl ?_
  refine lv_lsub hx hb dX0_canBeCheaper_7 ?_
  refine lv_topl (fun y1 ey1 => ?_)
  have hy1 : jv y1 (-4294967295) 4294967295 := jv.sub ey1 (jv.i (show iv v_bestCost (-2147483648) 2147483647 from i32_rng v_bestCost)) (jv.i (show iv p1 (-2147483648) 2147483647 from i32_rng p1)) (by decide) (by decide) (by decide) (by decide)
  refine lv_lstore_n (lv' := [(3, .long y1), (0, .ref o), (1, .int p0), (2, .int p1)]) hx hb dX0_canBeCheaper_8 rfl hl (by decide) rfl (fun ls hl => ?_)
  refine lv_iconst (v := 0) hx hb dX0_canBeCheaper_9 (by decide) ?_
  refine lv_istore (lv' := [(5, .int 0), (3, .long y1), (0, .ref o), (1, .int p0), (2, .int p1)]) hx hb dX0_canBeCheaper_10 hl (by decide) rfl (fun ls hl => ?_)
  refine tl_loop (I := fun nn H locs ls => ∃ (v2 : Int32), nn = (5 - v2.toInt).toNat ∧ iv v2 0 5 ∧  va_P (dC, dI) vwCl ([(o, .inr (0, [.ref a_chosen, .int v_bestCost, .ref a_felt, .ref a_own, .ref a_share, .ref a_rest, .ref a_left, .ref a_tried, .int v_signs, .int v_lines, .int v_most])), (a_felt, .inl (k_a_felt, 21, .inl f_a_felt)), (a_own, .inl (k_a_own, 4, .inl f_a_own)), (a_share, .inl (k_a_share, 5, .inr (.inr (.inr (.inr (rows_of 5 R_a_share)))))), (a_left, .inl (k_a_left, 5, .inr (.inr (.inr (.inr (rows_of 5 R_a_left))))))] ++ va_pl LP fp) H ∧ va_D A ([(o, .inr (0, [.ref a_chosen, .int v_bestCost, .ref a_felt, .ref a_own, .ref a_share, .ref a_rest, .ref a_left, .ref a_tried, .int v_signs, .int v_lines, .int v_most])), (a_felt, .inl (k_a_felt, 21, .inl f_a_felt)), (a_own, .inl (k_a_own, 4, .inl f_a_own)), (a_share, .inl (k_a_share, 5, .inr (.inr (.inr (.inr (rows_of 5 R_a_share)))))), (a_left, .inl (k_a_left, 5, .inr (.inr (.inr (.inr (rows_of 5 R_a_left))))))] ++ va_pl LP fp) ∧ va_S A s.heap H locs ∧ lv_has ls 9 [(5, .int v2), (3, .long y1), (0, .ref o), (1, .int p0), (2, .int p1)]) ?_ ⟨0, rfl, (iv.m (by decide)), hP, hD, hS, lv_sub hl [0, 1, 2, 3, 4] rfl⟩
  clear hP hD hS hl
  intro nn12 H locs ls hI ih12
  obtain ⟨v2, hn12, hv2, hP, hD, hS, hl⟩ := hI
  have bv2 := hv2.u
  refine lv_iload hx hb dX0_canBeCheaper_12 (lv_at hl 0 rfl) ?_
  refine lv_aload_n hx hb dX0_canBeCheaper_14 rfl (lv_at hl 2 rfl) ?_
  refine va_get (D := (dC, dI)) (ci := 0) (v := .int v_lines) (C := RX0) (T := TX0) (N := 11) hx hb hts iw_X0_canBeCheaper_X0 hown hK hP 0 rfl rfl 9 (by decide) (hts _ kk_X0_canBeCheaper_1) (fun _ h9 => h9) rfl dX0_canBeCheaper_15 ?_
  have bv_lines := hv_lines.u
  refine lv_icmp_ge (tgt := 148) hx hb dX0_canBeCheaper_18 (by decide) (fun c3 => ?_) (fun c3 => ?_)
  · have c39 := i32_le c3 rfl rfl
    refine lv_iconst (v := 1) hx hb dX0_canBeCheaper_148 (by decide) ?_
    have hP9 := hP.part (cx := [(o, .inr (0, [.ref a_chosen, .int v_bestCost, .ref a_felt, .ref a_own, .ref a_share, .ref a_rest, .ref a_left, .ref a_tried, .int v_signs, .int v_lines, .int v_most])), (a_felt, .inl (k_a_felt, 21, .inl f_a_felt)), (a_own, .inl (k_a_own, 4, .inl f_a_own)), (a_share, .inl (k_a_share, 5, .inr (.inr (.inr (.inr (rows_of 5 R_a_share)))))), (a_left, .inl (k_a_left, 5, .inr (.inr (.inr (.inr (rows_of 5 R_a_left))))))]) [0, 1, 2, 3, 4] rfl
    have hD9 := hD.part (cx := [(o, .inr (0, [.ref a_chosen, .int v_bestCost, .ref a_felt, .ref a_own, .ref a_share, .ref a_rest, .ref a_left, .ref a_tried, .int v_signs, .int v_lines, .int v_most])), (a_felt, .inl (k_a_felt, 21, .inl f_a_felt)), (a_own, .inl (k_a_own, 4, .inl f_a_own)), (a_share, .inl (k_a_share, 5, .inr (.inr (.inr (.inr (rows_of 5 R_a_share)))))), (a_left, .inl (k_a_left, 5, .inr (.inr (.inr (.inr (rows_of 5 R_a_left))))))]) [0, 1, 2, 3, 4] (by decide) rfl
    exact W.zret (v := 1) hx hb hr rfl (fun t ht hW => ⟨⟨1, 1, rfl, rfl, (Or.inr (rfl)), by rw [ht]; exact hP9, hD9⟩, hS.F ht⟩) hS.2.2 dX0_canBeCheaper_149
  · have c39 := i32_nle c3 rfl rfl
    refine lv_iconst (v := 0) hx hb dX0_canBeCheaper_21 (by decide) ?_
    refine lv_istore (lv' := [(6, .int 0), (5, .int v2), (3, .long y1), (0, .ref o), (1, .int p0), (2, .int p1)]) hx hb dX0_canBeCheaper_22 hl (by decide) rfl (fun ls hl => ?_)
    refine lv_iconst (v := 1) hx hb dX0_canBeCheaper_24 (by decide) ?_
    refine lv_istore (lv' := [(7, .int 1), (6, .int 0), (5, .int v2), (3, .long y1), (0, .ref o), (1, .int p0), (2, .int p1)]) hx hb dX0_canBeCheaper_25 hl (by decide) rfl (fun ls hl => ?_)
    refine lv_iload_n hx hb dX0_canBeCheaper_27 rfl (lv_at hl 5 rfl) ?_
    refine lv_istore (lv' := [(8, .int p0), (7, .int 1), (6, .int 0), (5, .int v2), (3, .long y1), (0, .ref o), (1, .int p0), (2, .int p1)]) hx hb dX0_canBeCheaper_28 hl (by decide) rfl (fun ls hl => ?_)
    refine tl_loop (I := fun nn H locs ls => ∃ (v4 : Int32) (v5 : Int32) (v6 : Int32), nn = (4 - v4.toInt).toNat ∧ iv v4 1 4 ∧  va_P (dC, dI) vwCl ([(o, .inr (0, [.ref a_chosen, .int v_bestCost, .ref a_felt, .ref a_own, .ref a_share, .ref a_rest, .ref a_left, .ref a_tried, .int v_signs, .int v_lines, .int v_most])), (a_felt, .inl (k_a_felt, 21, .inl f_a_felt)), (a_own, .inl (k_a_own, 4, .inl f_a_own)), (a_share, .inl (k_a_share, 5, .inr (.inr (.inr (.inr (rows_of 5 R_a_share)))))), (a_left, .inl (k_a_left, 5, .inr (.inr (.inr (.inr (rows_of 5 R_a_left))))))] ++ va_pl LP fp) H ∧ va_D A ([(o, .inr (0, [.ref a_chosen, .int v_bestCost, .ref a_felt, .ref a_own, .ref a_share, .ref a_rest, .ref a_left, .ref a_tried, .int v_signs, .int v_lines, .int v_most])), (a_felt, .inl (k_a_felt, 21, .inl f_a_felt)), (a_own, .inl (k_a_own, 4, .inl f_a_own)), (a_share, .inl (k_a_share, 5, .inr (.inr (.inr (.inr (rows_of 5 R_a_share)))))), (a_left, .inl (k_a_left, 5, .inr (.inr (.inr (.inr (rows_of 5 R_a_left))))))] ++ va_pl LP fp) ∧ va_S A s.heap H locs ∧ lv_has ls 9 [(8, .int v4), (7, .int v5), (6, .int v6), (5, .int v2), (3, .long y1), (0, .ref o), (1, .int p0), (2, .int p1)]) ?_ ⟨p0, 1, 0, rfl, hp0, hP, hD, hS, lv_sub hl [0, 1, 2, 3, 4, 5, 6, 7] rfl⟩
    clear hP hD hS hl
    intro nn30 H locs ls hI ih30
    obtain ⟨v4, v5, v6, hn30, hv4, hP, hD, hS, hl⟩ := hI
    have bv4 := hv4.u
    have bv5 := i32_rng v5
    have bv6 := i32_rng v6
    refine lv_iload hx hb dX0_canBeCheaper_30 (lv_at hl 0 rfl) ?_
    refine lv_aload_n hx hb dX0_canBeCheaper_32 rfl (lv_at hl 5 rfl) ?_
    refine va_get (D := (dC, dI)) (ci := 0) (v := .int v_signs) (C := RX0) (T := TX0) (N := 11) hx hb hts iw_X0_canBeCheaper_X0 hown hK hP 0 rfl rfl 8 (by decide) (hts _ kk_X0_canBeCheaper_2) (fun _ h9 => h9) rfl dX0_canBeCheaper_33 ?_
    have bv_signs := hv_signs.u
    refine lv_icmp_ge (tgt := 92) hx hb dX0_canBeCheaper_36 (by decide) (fun c7 => ?_) (fun c7 => ?_)
    · have c79 := i32_le c7 rfl rfl
      refine lv_iload hx hb dX0_canBeCheaper_92 (lv_at hl 2 rfl) ?_
      refine lv_if_le (tgt := 142) hx hb dX0_canBeCheaper_94 (by decide) (fun c8 => ?_) (fun c8 => ?_)
      · have c89 := i32_le c8 rfl (show (0 : Int32).toInt = 0 by decide)
        obtain ⟨x9, ex9⟩ : ∃ z : Int32, v2 + Int32.ofInt 1 = z := ⟨_, rfl⟩
        have tx9 := i32_inc ex9 rfl (by decide) (by omega) (by omega)
        refine lv_iinc (v := x9) (lv' := [(5, .int x9), (8, .int v4), (7, .int v5), (6, .int v6), (3, .long y1), (0, .ref o), (1, .int p0), (2, .int p1)]) hx hb dX0_canBeCheaper_142 hl (k := 3) rfl ex9 (by decide) rfl (fun ls hl => ?_)
        refine lv_goto (tgt := 12) hx hb dX0_canBeCheaper_145 (by decide) ?_
        exact ih12 _ _ _ _ (by omega) ⟨x9, rfl, (iv.m (by omega)), hP, hD, hS, lv_sub hl [0, 4, 5, 6, 7] rfl⟩
      · have c89 := i32_nle c8 rfl (show (0 : Int32).toInt = 0 by decide)
        refine lv_aload_n hx hb dX0_canBeCheaper_97 rfl (lv_at hl 5 rfl) ?_
        refine va_get (D := (dC, dI)) (ci := 0) (v := .ref a_left) (C := RX0) (T := TX0) (N := 11) hx hb hts iw_X0_canBeCheaper_X0 hown hK hP 0 rfl rfl 6 (by decide) (hts _ kk_X0_canBeCheaper_5) (fun _ h9 => h9) rfl dX0_canBeCheaper_98 ?_
        refine lv_iload_n hx hb dX0_canBeCheaper_101 rfl (lv_at hl 6 rfl) ?_
        have bp0 := hp0.u
        have hinrw10 : vp_in p0 5 := (vq_in p0 5 (by omega))
        refine va_aldA hx hb hK hP 4 3 rfl rfl hinrw10 dX0_canBeCheaper_102 ?_
        refine px_v (row_sel hinrw10) ?_
        obtain ⟨rw10, erw10⟩ : ∃ z : Nat, z = R_a_left (Int32.toNatClampNeg p0) := ⟨_, rfl⟩
        rw [← erw10]
        have mrw10 : rw10 ∈ LP ∧ sh rw10 = 5 := by rw [erw10]; exact hRR_a_left _ (vin_lt hinrw10)
        refine lv_iload hx hb dX0_canBeCheaper_103 (lv_at hl 3 rfl) ?_
        obtain ⟨gk11, hgk11⟩ := pok_5 (hfp) mrw10
        obtain ⟨kk12, hkk12⟩ := va_pl_get (X := [(o, .inr (0, [.ref a_chosen, .int v_bestCost, .ref a_felt, .ref a_own, .ref a_share, .ref a_rest, .ref a_left, .ref a_tried, .int v_signs, .int v_lines, .int v_most])), (a_felt, .inl (k_a_felt, 21, .inl f_a_felt)), (a_own, .inl (k_a_own, 4, .inl f_a_own)), (a_share, .inl (k_a_share, 5, .inr (.inr (.inr (.inr (rows_of 5 R_a_share)))))), (a_left, .inl (k_a_left, 5, .inr (.inr (.inr (.inr (rows_of 5 R_a_left))))))]) (f := fp) mrw10.1
        have qkk12 := hkk12
        rw [hgk11] at qkk12
        refine va_iald hx hb hK hP kk12 4 qkk12 rfl (vq_in v2 5 (by omega)) dX0_canBeCheaper_105 ?_
        refine lv_topi (fun x13 ex13 => ?_)
        have bx13 := i32_rng x13
        refine lv_if_le (tgt := 142) hx hb dX0_canBeCheaper_106 (by decide) (fun c14 => ?_) (fun c14 => ?_)
        · have c149 := i32_le c14 rfl (show (0 : Int32).toInt = 0 by decide)
          obtain ⟨x15, ex15⟩ : ∃ z : Int32, v2 + Int32.ofInt 1 = z := ⟨_, rfl⟩
          have tx15 := i32_inc ex15 rfl (by decide) (by omega) (by omega)
          refine lv_iinc (v := x15) (lv' := [(5, .int x15), (8, .int v4), (7, .int v5), (6, .int v6), (3, .long y1), (0, .ref o), (1, .int p0), (2, .int p1)]) hx hb dX0_canBeCheaper_142 hl (k := 3) rfl ex15 (by decide) rfl (fun ls hl => ?_)
          refine lv_goto (tgt := 12) hx hb dX0_canBeCheaper_145 (by decide) ?_
          exact ih12 _ _ _ _ (by omega) ⟨x15, rfl, (iv.m (by omega)), hP, hD, hS, lv_sub hl [0, 4, 5, 6, 7] rfl⟩
        · have c149 := i32_nle c14 rfl (show (0 : Int32).toInt = 0 by decide)
          refine lv_aload_n hx hb dX0_canBeCheaper_109 rfl (lv_at hl 5 rfl) ?_
          refine va_get (D := (dC, dI)) (ci := 0) (v := .ref a_left) (C := RX0) (T := TX0) (N := 11) hx hb hts iw_X0_canBeCheaper_X0 hown hK hP 0 rfl rfl 6 (by decide) (hts _ kk_X0_canBeCheaper_5) (fun _ h9 => h9) rfl dX0_canBeCheaper_110 ?_
          refine lv_iload_n hx hb dX0_canBeCheaper_113 rfl (lv_at hl 6 rfl) ?_
          have hinrw16 : vp_in p0 5 := (vq_in p0 5 (by omega))
          refine va_aldA hx hb hK hP 4 3 rfl rfl hinrw16 dX0_canBeCheaper_114 ?_
          refine px_v (row_sel hinrw16) ?_
          obtain ⟨rw16, erw16⟩ : ∃ z : Nat, z = R_a_left (Int32.toNatClampNeg p0) := ⟨_, rfl⟩
          rw [← erw16]
          have mrw16 : rw16 ∈ LP ∧ sh rw16 = 5 := by rw [erw16]; exact hRR_a_left _ (vin_lt hinrw16)
          refine lv_iload hx hb dX0_canBeCheaper_115 (lv_at hl 3 rfl) ?_
          obtain ⟨gk17, hgk17⟩ := pok_5 (hfp) mrw16
          obtain ⟨kk18, hkk18⟩ := va_pl_get (X := [(o, .inr (0, [.ref a_chosen, .int v_bestCost, .ref a_felt, .ref a_own, .ref a_share, .ref a_rest, .ref a_left, .ref a_tried, .int v_signs, .int v_lines, .int v_most])), (a_felt, .inl (k_a_felt, 21, .inl f_a_felt)), (a_own, .inl (k_a_own, 4, .inl f_a_own)), (a_share, .inl (k_a_share, 5, .inr (.inr (.inr (.inr (rows_of 5 R_a_share)))))), (a_left, .inl (k_a_left, 5, .inr (.inr (.inr (.inr (rows_of 5 R_a_left))))))]) (f := fp) mrw16.1
          have qkk18 := hkk18
          rw [hgk17] at qkk18
          refine va_iald hx hb hK hP kk18 4 qkk18 rfl (vq_in v2 5 (by omega)) dX0_canBeCheaper_117 ?_
          refine lv_topi (fun x19 ex19 => ?_)
          refine lv_i2l (v := (x19).toInt64) hx hb dX0_canBeCheaper_118 rfl ?_
          refine lv_iload hx hb dX0_canBeCheaper_119 (lv_at hl 1 rfl) ?_
          refine lv_i2l (v := (v5).toInt64) hx hb dX0_canBeCheaper_121 rfl ?_
          refine lv_lmul hx hb dX0_canBeCheaper_122 ?_
          refine lv_topl (fun y20 ey20 => ?_)
          have hy20 : jv y20 (-4611686018427387904) 4611686018427387904 := jv.mula (B := 2147483648) (D := 2147483648) ey20 (jv.i (show iv x19 (-2147483648) 2147483647 from i32_rng x19)) (jv.i (show iv v5 (-2147483648) 2147483647 from i32_rng v5)) (by decide) (by decide) (by decide) (by decide) (by decide) (by decide)
          refine lv_lload_n hx hb dX0_canBeCheaper_123 rfl (lv_at hl 4 rfl) ?_
          refine lv_iload hx hb dX0_canBeCheaper_124 (lv_at hl 2 rfl) ?_
          refine lv_i2l (v := (v6).toInt64) hx hb dX0_canBeCheaper_126 rfl ?_
          refine lv_lmul hx hb dX0_canBeCheaper_127 ?_
          refine lv_topl (fun y21 ey21 => ?_)
          have hy21 : jv y21 (-9223372030412324865) 9223372030412324865 := jv.mula (B := 4294967295) (D := 2147483647) ey21 hy1 (jv.i (show iv v6 1 2147483647 from (iv.m (by omega)))) (by decide) (by decide) (by decide) (by decide) (by decide) (by decide)
          refine lv_aload_n hx hb dX0_canBeCheaper_128 rfl (lv_at hl 5 rfl) ?_
          refine va_get (D := (dC, dI)) (ci := 0) (v := .ref a_felt) (C := RX0) (T := TX0) (N := 11) hx hb hts iw_X0_canBeCheaper_X0 hown hK hP 0 rfl rfl 2 (by decide) (hts _ kk_X0_canBeCheaper_6) (fun _ h9 => h9) rfl dX0_canBeCheaper_129 ?_
          refine lv_iconst (v := 1) hx hb dX0_canBeCheaper_132 (by decide) ?_
          refine va_iald hx hb hK hP 1 0 rfl rfl (vq_in 1 21 (by decide)) dX0_canBeCheaper_133 ?_
          refine lv_topi (fun x22 ex22 => ?_)
          refine lv_i2l (v := (x22).toInt64) hx hb dX0_canBeCheaper_134 rfl ?_
          refine lv_lmul hx hb dX0_canBeCheaper_135 ?_
          refine lv_topl (fun y23 ey23 => ?_)
          refine W.lcmp hx hb dX0_canBeCheaper_136 ?_
          refine lv_if_lt (tgt := 142) hx hb dX0_canBeCheaper_137 (by decide) (fun c24 => ?_) (fun c24 => ?_)
          · skip
            have c249 := lc_lt c24
            obtain ⟨x25, ex25⟩ : ∃ z : Int32, v2 + Int32.ofInt 1 = z := ⟨_, rfl⟩
            have tx25 := i32_inc ex25 rfl (by decide) (by omega) (by omega)
            refine lv_iinc (v := x25) (lv' := [(5, .int x25), (8, .int v4), (7, .int v5), (6, .int v6), (3, .long y1), (0, .ref o), (1, .int p0), (2, .int p1)]) hx hb dX0_canBeCheaper_142 hl (k := 3) rfl ex25 (by decide) rfl (fun ls hl => ?_)
            refine lv_goto (tgt := 12) hx hb dX0_canBeCheaper_145 (by decide) ?_
            exact ih12 _ _ _ _ (by omega) ⟨x25, rfl, (iv.m (by omega)), hP, hD, hS, lv_sub hl [0, 4, 5, 6, 7] rfl⟩
          · skip
            have c249 := lc_nlt c24
            refine lv_iconst (v := 0) hx hb dX0_canBeCheaper_140 (by decide) ?_
            have hP9 := hP.part (cx := [(o, .inr (0, [.ref a_chosen, .int v_bestCost, .ref a_felt, .ref a_own, .ref a_share, .ref a_rest, .ref a_left, .ref a_tried, .int v_signs, .int v_lines, .int v_most])), (a_felt, .inl (k_a_felt, 21, .inl f_a_felt)), (a_own, .inl (k_a_own, 4, .inl f_a_own)), (a_share, .inl (k_a_share, 5, .inr (.inr (.inr (.inr (rows_of 5 R_a_share)))))), (a_left, .inl (k_a_left, 5, .inr (.inr (.inr (.inr (rows_of 5 R_a_left))))))]) [0, 1, 2, 3, 4] rfl
            have hD9 := hD.part (cx := [(o, .inr (0, [.ref a_chosen, .int v_bestCost, .ref a_felt, .ref a_own, .ref a_share, .ref a_rest, .ref a_left, .ref a_tried, .int v_signs, .int v_lines, .int v_most])), (a_felt, .inl (k_a_felt, 21, .inl f_a_felt)), (a_own, .inl (k_a_own, 4, .inl f_a_own)), (a_share, .inl (k_a_share, 5, .inr (.inr (.inr (.inr (rows_of 5 R_a_share)))))), (a_left, .inl (k_a_left, 5, .inr (.inr (.inr (.inr (rows_of 5 R_a_left))))))]) [0, 1, 2, 3, 4] (by decide) rfl
            exact W.zret (v := 0) hx hb hr rfl (fun t ht hW => ⟨⟨0, 0, rfl, rfl, (Or.inl rfl), by rw [ht]; exact hP9, hD9⟩, hS.F ht⟩) hS.2.2 dX0_canBeCheaper_141
    · have c79 := i32_nle c7 rfl rfl
      refine lv_aload_n hx hb dX0_canBeCheaper_39 rfl (lv_at hl 5 rfl) ?_
      refine va_get (D := (dC, dI)) (ci := 0) (v := .ref a_share) (C := RX0) (T := TX0) (N := 11) hx hb hts iw_X0_canBeCheaper_X0 hown hK hP 0 rfl rfl 4 (by decide) (hts _ kk_X0_canBeCheaper_3) (fun _ h9 => h9) rfl dX0_canBeCheaper_40 ?_
      refine lv_iload hx hb dX0_canBeCheaper_43 (lv_at hl 3 rfl) ?_
      have hinrw26 : vp_in v2 5 := (vq_in v2 5 (by omega))
      refine va_aldA hx hb hK hP 3 2 rfl rfl hinrw26 dX0_canBeCheaper_45 ?_
      refine px_v (row_sel hinrw26) ?_
      obtain ⟨rw26, erw26⟩ : ∃ z : Nat, z = R_a_share (Int32.toNatClampNeg v2) := ⟨_, rfl⟩
      rw [← erw26]
      have mrw26 : rw26 ∈ LP ∧ sh rw26 = 4 := by rw [erw26]; exact hRR_a_share _ (vin_lt hinrw26)
      refine lv_iload hx hb dX0_canBeCheaper_46 (lv_at hl 0 rfl) ?_
      obtain ⟨gk27, hgk27⟩ := pok_4 (hfp) mrw26
      obtain ⟨kk28, hkk28⟩ := va_pl_get (X := [(o, .inr (0, [.ref a_chosen, .int v_bestCost, .ref a_felt, .ref a_own, .ref a_share, .ref a_rest, .ref a_left, .ref a_tried, .int v_signs, .int v_lines, .int v_most])), (a_felt, .inl (k_a_felt, 21, .inl f_a_felt)), (a_own, .inl (k_a_own, 4, .inl f_a_own)), (a_share, .inl (k_a_share, 5, .inr (.inr (.inr (.inr (rows_of 5 R_a_share)))))), (a_left, .inl (k_a_left, 5, .inr (.inr (.inr (.inr (rows_of 5 R_a_left))))))]) (f := fp) mrw26.1
      have qkk28 := hkk28
      rw [hgk27] at qkk28
      refine va_iald hx hb hK hP kk28 4 qkk28 rfl (vq_in v4 4 (by omega)) dX0_canBeCheaper_48 ?_
      refine lv_topi (fun x29 ex29 => ?_)
      refine lv_iload hx hb dX0_canBeCheaper_49 (lv_at hl 1 rfl) ?_
      refine lv_imul hx hb dX0_canBeCheaper_51 ?_
      refine lv_topi (fun x30 ex30 => ?_)
      refine lv_iload hx hb dX0_canBeCheaper_52 (lv_at hl 2 rfl) ?_
      refine lv_aload_n hx hb dX0_canBeCheaper_54 rfl (lv_at hl 5 rfl) ?_
      refine va_get (D := (dC, dI)) (ci := 0) (v := .ref a_own) (C := RX0) (T := TX0) (N := 11) hx hb hts iw_X0_canBeCheaper_X0 hown hK hP 0 rfl rfl 3 (by decide) (hts _ kk_X0_canBeCheaper_4) (fun _ h9 => h9) rfl dX0_canBeCheaper_55 ?_
      refine lv_iload hx hb dX0_canBeCheaper_58 (lv_at hl 0 rfl) ?_
      refine va_iald hx hb hK hP 2 1 rfl rfl (vq_in v4 4 (by omega)) dX0_canBeCheaper_60 ?_
      refine lv_topi (fun x31 ex31 => ?_)
      refine lv_imul hx hb dX0_canBeCheaper_61 ?_
      refine lv_topi (fun x32 ex32 => ?_)
      have bx30 := i32_rng x30
      have bx32 := i32_rng x32
      refine lv_icmp_le (tgt := 86) hx hb dX0_canBeCheaper_62 (by decide) (fun c33 => ?_) (fun c33 => ?_)
      · have c339 := i32_le c33 rfl rfl
        obtain ⟨x34, ex34⟩ : ∃ z : Int32, v4 + Int32.ofInt 1 = z := ⟨_, rfl⟩
        have tx34 := i32_inc ex34 rfl (by decide) (by omega) (by omega)
        refine lv_iinc (v := x34) (lv' := [(8, .int x34), (7, .int v5), (6, .int v6), (5, .int v2), (3, .long y1), (0, .ref o), (1, .int p0), (2, .int p1)]) hx hb dX0_canBeCheaper_86 hl (k := 0) rfl ex34 (by decide) rfl (fun ls hl => ?_)
        refine lv_goto (tgt := 30) hx hb dX0_canBeCheaper_89 (by decide) ?_
        exact ih30 _ _ _ _ (by omega) ⟨x34, v5, v6, rfl, (iv.m (by omega)), hP, hD, hS, lv_sub hl [0, 1, 2, 3, 4, 5, 6, 7] rfl⟩
      · have c339 := i32_nle c33 rfl rfl
        refine lv_aload_n hx hb dX0_canBeCheaper_65 rfl (lv_at hl 5 rfl) ?_
        refine va_get (D := (dC, dI)) (ci := 0) (v := .ref a_share) (C := RX0) (T := TX0) (N := 11) hx hb hts iw_X0_canBeCheaper_X0 hown hK hP 0 rfl rfl 4 (by decide) (hts _ kk_X0_canBeCheaper_3) (fun _ h9 => h9) rfl dX0_canBeCheaper_66 ?_
        refine lv_iload hx hb dX0_canBeCheaper_69 (lv_at hl 3 rfl) ?_
        have hinrw35 : vp_in v2 5 := (vq_in v2 5 (by omega))
        refine va_aldA hx hb hK hP 3 2 rfl rfl hinrw35 dX0_canBeCheaper_71 ?_
        refine px_v (row_sel hinrw35) ?_
        obtain ⟨rw35, erw35⟩ : ∃ z : Nat, z = R_a_share (Int32.toNatClampNeg v2) := ⟨_, rfl⟩
        rw [← erw35]
        have mrw35 : rw35 ∈ LP ∧ sh rw35 = 4 := by rw [erw35]; exact hRR_a_share _ (vin_lt hinrw35)
        refine lv_iload hx hb dX0_canBeCheaper_72 (lv_at hl 0 rfl) ?_
        obtain ⟨gk36, hgk36⟩ := pok_4 (hfp) mrw35
        obtain ⟨kk37, hkk37⟩ := va_pl_get (X := [(o, .inr (0, [.ref a_chosen, .int v_bestCost, .ref a_felt, .ref a_own, .ref a_share, .ref a_rest, .ref a_left, .ref a_tried, .int v_signs, .int v_lines, .int v_most])), (a_felt, .inl (k_a_felt, 21, .inl f_a_felt)), (a_own, .inl (k_a_own, 4, .inl f_a_own)), (a_share, .inl (k_a_share, 5, .inr (.inr (.inr (.inr (rows_of 5 R_a_share)))))), (a_left, .inl (k_a_left, 5, .inr (.inr (.inr (.inr (rows_of 5 R_a_left))))))]) (f := fp) mrw35.1
        have qkk37 := hkk37
        rw [hgk36] at qkk37
        refine va_iald hx hb hK hP kk37 4 qkk37 rfl (vq_in v4 4 (by omega)) dX0_canBeCheaper_74 ?_
        refine lv_topi (fun x38 ex38 => ?_)
        refine lv_istore (lv' := [(6, .int x38), (8, .int v4), (7, .int v5), (5, .int v2), (3, .long y1), (0, .ref o), (1, .int p0), (2, .int p1)]) hx hb dX0_canBeCheaper_75 hl (by decide) rfl (fun ls hl => ?_)
        refine lv_aload_n hx hb dX0_canBeCheaper_77 rfl (lv_at hl 5 rfl) ?_
        refine va_get (D := (dC, dI)) (ci := 0) (v := .ref a_own) (C := RX0) (T := TX0) (N := 11) hx hb hts iw_X0_canBeCheaper_X0 hown hK hP 0 rfl rfl 3 (by decide) (hts _ kk_X0_canBeCheaper_4) (fun _ h9 => h9) rfl dX0_canBeCheaper_78 ?_
        refine lv_iload hx hb dX0_canBeCheaper_81 (lv_at hl 1 rfl) ?_
        refine va_iald hx hb hK hP 2 1 rfl rfl (vq_in v4 4 (by omega)) dX0_canBeCheaper_83 ?_
        refine lv_topi (fun x39 ex39 => ?_)
        refine lv_istore (lv' := [(7, .int x39), (6, .int x38), (8, .int v4), (5, .int v2), (3, .long y1), (0, .ref o), (1, .int p0), (2, .int p1)]) hx hb dX0_canBeCheaper_84 hl (by decide) rfl (fun ls hl => ?_)
        obtain ⟨x40, ex40⟩ : ∃ z : Int32, v4 + Int32.ofInt 1 = z := ⟨_, rfl⟩
        have tx40 := i32_inc ex40 rfl (by decide) (by omega) (by omega)
        refine lv_iinc (v := x40) (lv' := [(8, .int x40), (7, .int x39), (6, .int x38), (5, .int v2), (3, .long y1), (0, .ref o), (1, .int p0), (2, .int p1)]) hx hb dX0_canBeCheaper_86 hl (k := 2) rfl ex40 (by decide) rfl (fun ls hl => ?_)
        refine lv_goto (tgt := 30) hx hb dX0_canBeCheaper_89 (by decide) ?_
        have bx39 := i32_rng x39
        have bx38 := i32_rng x38
        exact ih30 _ _ _ _ (by omega) ⟨x40, x39, x38, rfl, (iv.m (by omega)), hP, hD, hS, lv_sub hl [0, 1, 2, 3, 4, 5, 6, 7] rfl⟩

set_option maxHeartbeats 4000000 in
set_option maxRecDepth 100000 in
theorem ct_X0_place_L4 (l : Launch) (dC : Nat → ClassId) (dI : Nat → Nat → Nat) (o : Nat) (p1 : Int32) (a_chosen : Nat) (v_bestCost : Int32) (a_felt : Nat) (a_own : Nat) (a_share : Nat) (a_rest : Nat) (a_left : Nat) (a_tried : Nat) (v_signs : Int32) (v_lines : Int32) (v_most : Int32) (k_a_chosen : ClassId) (f_a_chosen : Nat → Int32) (k_a_tried : ClassId) (f_a_tried : Nat → Int32) (hv_signs : iv v_signs 0 4) (sz : Nat) : Met l yX0_place wsX0_place ({ frames := 1, cells := 0, slots := 0, locals := 60 }) (va_Pc [.ref o, .int 4, .int p1] (fun U => U.heap.size = sz ∧ va_P (dC, dI) vwCl [(o, .inr (0, [.ref a_chosen, .int v_bestCost, .ref a_felt, .ref a_own, .ref a_share, .ref a_rest, .ref a_left, .ref a_tried, .int v_signs, .int v_lines, .int v_most])), (a_chosen, .inl (k_a_chosen, 4, .inl f_a_chosen)), (a_tried, .inl (k_a_tried, 4, .inl f_a_tried))] U.heap ∧ va_K (dC, dI) vwCl [(k_a_chosen, .int), (k_a_tried, .int)] U ∧ va_D (fun _ => True) [(o, .inr (0, [.ref a_chosen, .int v_bestCost, .ref a_felt, .ref a_own, .ref a_share, .ref a_rest, .ref a_left, .ref a_tried, .int v_signs, .int v_lines, .int v_most])), (a_chosen, .inl (k_a_chosen, 4, .inl f_a_chosen)), (a_tried, .inl (k_a_tried, 4, .inl f_a_tried))])) (va_Qv (fun _ : Unit => True) (fun _ t => ∃ (e_f_a_chosen : Nat → Int32), va_P (dC, dI) vwCl [(o, .inr (0, [.ref a_chosen, .int p1, .ref a_felt, .ref a_own, .ref a_share, .ref a_rest, .ref a_left, .ref a_tried, .int v_signs, .int v_lines, .int v_most])), (a_chosen, .inl (k_a_chosen, 4, .inl e_f_a_chosen)), (a_tried, .inl (k_a_tried, 4, .inl f_a_tried))] t.heap ∧ va_D (va_A [(o, .inr (0, [.ref a_chosen, .int v_bestCost, .ref a_felt, .ref a_own, .ref a_share, .ref a_rest, .ref a_left, .ref a_tried, .int v_signs, .int v_lines, .int v_most])), (a_chosen, .inl (k_a_chosen, 4, .inl f_a_chosen)), (a_tried, .inl (k_a_tried, 4, .inl f_a_tried))] sz) [(o, .inr (0, [.ref a_chosen, .int p1, .ref a_felt, .ref a_own, .ref a_share, .ref a_rest, .ref a_left, .ref a_tried, .int v_signs, .int v_lines, .int v_most])), (a_chosen, .inl (k_a_chosen, 4, .inl e_f_a_chosen)), (a_tried, .inl (k_a_tried, 4, .inl f_a_tried))]) (va_A [(o, .inr (0, [.ref a_chosen, .int v_bestCost, .ref a_felt, .ref a_own, .ref a_share, .ref a_rest, .ref a_left, .ref a_tried, .int v_signs, .int v_lines, .int v_most])), (a_chosen, .inl (k_a_chosen, 4, .inl f_a_chosen)), (a_tried, .inl (k_a_tried, 4, .inl f_a_tried))] sz)) 0 0 (va_A [(o, .inr (0, [.ref a_chosen, .int v_bestCost, .ref a_felt, .ref a_own, .ref a_share, .ref a_rest, .ref a_left, .ref a_tried, .int v_signs, .int v_lines, .int v_most])), (a_chosen, .inl (k_a_chosen, 4, .inl f_a_chosen)), (a_tried, .inl (k_a_tried, 4, .inl f_a_tried))] sz) := by
  refine Met.ofW (cc := cX0_place) (maxL := 7) (ret := none) (by decide) rfl ?_
  intro p e s m args below meth c s₁ B hml hv
  obtain ⟨rfl, hsz, hP, hK, hD0⟩ := hv
  have hx := B.exec
  have hb := B.bytes
  have hr := B.returns
  have hts := atoms_spec (ws := wsX0_place) B.pre
  have hown : s.vm.findClass RX0 = some m.cls := findClass_of_methodNamed B.named
  have hlocks := B.notSynchronized
  subst hsz
  have hD := hD0.self (sz := s.heap.size)
  generalize hAe : va_A [(o, .inr (0, [.ref a_chosen, .int v_bestCost, .ref a_felt, .ref a_own, .ref a_share, .ref a_rest, .ref a_left, .ref a_tried, .int v_signs, .int v_lines, .int v_most])), (a_chosen, .inl (k_a_chosen, 4, .inl f_a_chosen)), (a_tried, .inl (k_a_tried, 4, .inl f_a_tried))] s.heap.size = A at hD ⊢
  have hA : ∀ q : Nat, s.heap.size ≤ q → A q := fun q h => by rw [← hAe]; exact Or.inr h
  have hS : va_S A s.heap s.heap [] := va_S.rf
  have hP : va_P (dC, dI) vwCl [(o, .inr (0, [.ref a_chosen, .int v_bestCost, .ref a_felt, .ref a_own, .ref a_share, .ref a_rest, .ref a_left, .ref a_tried, .int v_signs, .int v_lines, .int v_most])), (a_chosen, .inl (k_a_chosen, 4, .inl f_a_chosen)), (a_tried, .inl (k_a_tried, 4, .inl f_a_tried))] s.heap := hP
  have hl := lv_entry ([.ref o, .int 4, .int p1]) (n := 7) (Nat.le_of_ble_eq_true rfl)
  rw [lg_entry_eq]
  generalize (lg_sl ([.ref o, .int 4, .int p1]) ++ List.replicate (7 - (lg_sl ([.ref o, .int 4, .int p1])).length) Slot.unset).toArray = ls at hl ⊢
  have hl : lv_has ls 7 [(0, .ref o), (1, .int 4), (2, .int p1)] := hl
  refine lv_iload_n hx hb dX0_place_0 rfl (lv_at hl 1 rfl) ?_
  refine lv_aload_n hx hb dX0_place_1 rfl (lv_at hl 0 rfl) ?_
  refine va_get (D := (dC, dI)) (ci := 0) (v := .int v_signs) (C := RX0) (T := TX0) (N := 11) hx hb hts iw_X0_place_X0 hown hK hP 0 rfl rfl 8 (by decide) (hts _ kk_X0_place_0) (fun _ h9 => h9) rfl dX0_place_2 ?_
  have bv_signs := hv_signs.u
  refine lv_icmp_lt (tgt := 31) hx hb dX0_place_5 (by decide) (fun c1 => False.elim (by have c19 := i32_lt c1 (show (4 : Int32).toInt = 4 by decide) rfl; omega)) (fun _ => ?_)
  refine lv_aload_n hx hb dX0_place_8 rfl (lv_at hl 0 rfl) ?_
  refine lv_iload_n hx hb dX0_place_9 rfl (lv_at hl 2 rfl) ?_
  refine va_put (D := (dC, dI)) (ci := 0) (v := .int p1) (ty := .int) (C := RX0) (T := TX0) (N := 11) hx hb hts iw_X0_place_X0 tyX0 tyX0_ok nmX0 hown hK hP hD hS 0 rfl rfl 1 (by decide) (hts _ kk_X0_place_2) (fun _ h9 => h9) rfl (by decide +kernel) rfl rfl (Nat.le_of_ble_eq_true rfl) dX0_place_10 (fun H locs hP hD hS => ?_)
  have hP : va_P (dC, dI) vwCl [(o, .inr (0, [.ref a_chosen, .int p1, .ref a_felt, .ref a_own, .ref a_share, .ref a_rest, .ref a_left, .ref a_tried, .int v_signs, .int v_lines, .int v_most])), (a_chosen, .inl (k_a_chosen, 4, .inl f_a_chosen)), (a_tried, .inl (k_a_tried, 4, .inl f_a_tried))] H := hP
  have hD : va_D A [(o, .inr (0, [.ref a_chosen, .int p1, .ref a_felt, .ref a_own, .ref a_share, .ref a_rest, .ref a_left, .ref a_tried, .int v_signs, .int v_lines, .int v_most])), (a_chosen, .inl (k_a_chosen, 4, .inl f_a_chosen)), (a_tried, .inl (k_a_tried, 4, .inl f_a_tried))] := hD
  refine lv_aload_n hx hb dX0_place_13 rfl (lv_at hl 0 rfl) ?_
  refine va_get (D := (dC, dI)) (ci := 0) (v := .ref a_tried) (C := RX0) (T := TX0) (N := 11) hx hb hts iw_X0_place_X0 hown hK hP 0 rfl rfl 7 (by decide) (hts _ kk_X0_place_3) (fun _ h9 => h9) rfl dX0_place_14 ?_
  refine lv_iconst (v := 0) hx hb dX0_place_17 (by decide) ?_
  refine lv_aload_n hx hb dX0_place_18 rfl (lv_at hl 0 rfl) ?_
  refine va_get (D := (dC, dI)) (ci := 0) (v := .ref a_chosen) (C := RX0) (T := TX0) (N := 11) hx hb hts iw_X0_place_X0 hown hK hP 0 rfl rfl 0 (by decide) (hts _ kk_X0_place_5) (fun _ h9 => h9) rfl dX0_place_19 ?_
  refine lv_iconst (v := 0) hx hb dX0_place_22 (by decide) ?_
  refine lv_aload_n hx hb dX0_place_23 rfl (lv_at hl 0 rfl) ?_
  refine va_get (D := (dC, dI)) (ci := 0) (v := .int v_signs) (C := RX0) (T := TX0) (N := 11) hx hb hts iw_X0_place_X0 hown hK hP 0 rfl rfl 8 (by decide) (hts _ kk_X0_place_0) (fun _ h9 => h9) rfl dX0_place_24 ?_
  have hcl : Int32.toNatClampNeg v_signs ≤ 4 := i32_cl v_signs (by omega)
  refine va_copyi hx hb (by rw [hml]; exact hl.1.symm) hown (hts _ kk_X0_place_6) (hts _ kk_X0_place_7) (hts _ kk_X0_place_8) (hts _ kk_X0_place_9) hK hP hD hS 2 1 1 0 rfl rfl rfl rfl rfl (by decide) (by decide) (i32_nn (by omega)) (by rw [show Int32.toNatClampNeg 0 = 0 by decide]; omega) (by rw [show Int32.toNatClampNeg 0 = 0 by decide]; omega) (fun _ _ => rfl) (Nat.le_of_ble_eq_true rfl) (Nat.le_of_ble_eq_true rfl) dX0_place_27 (fun H locs hP hD hS => ?_)
  have hP : va_P (dC, dI) vwCl [(o, .inr (0, [.ref a_chosen, .int p1, .ref a_felt, .ref a_own, .ref a_share, .ref a_rest, .ref a_left, .ref a_tried, .int v_signs, .int v_lines, .int v_most])), (a_chosen, .inl (k_a_chosen, 4, .inl (va_cpy f_a_tried f_a_chosen (Int32.toNatClampNeg 0) (Int32.toNatClampNeg 0) (Int32.toNatClampNeg v_signs)))), (a_tried, .inl (k_a_tried, 4, .inl f_a_tried))] H := hP
  have hD : va_D A [(o, .inr (0, [.ref a_chosen, .int p1, .ref a_felt, .ref a_own, .ref a_share, .ref a_rest, .ref a_left, .ref a_tried, .int v_signs, .int v_lines, .int v_most])), (a_chosen, .inl (k_a_chosen, 4, .inl (va_cpy f_a_tried f_a_chosen (Int32.toNatClampNeg 0) (Int32.toNatClampNeg 0) (Int32.toNatClampNeg v_signs)))), (a_tried, .inl (k_a_tried, 4, .inl f_a_tried))] := hD
  generalize va_cpy f_a_tried f_a_chosen (Int32.toNatClampNeg 0) (Int32.toNatClampNeg 0) (Int32.toNatClampNeg v_signs) = f2 at hP hD
  have hP : va_P (dC, dI) vwCl [(o, .inr (0, [.ref a_chosen, .int p1, .ref a_felt, .ref a_own, .ref a_share, .ref a_rest, .ref a_left, .ref a_tried, .int v_signs, .int v_lines, .int v_most])), (a_chosen, .inl (k_a_chosen, 4, .inl f2)), (a_tried, .inl (k_a_tried, 4, .inl f_a_tried))] H := hP
  have hD : va_D A [(o, .inr (0, [.ref a_chosen, .int p1, .ref a_felt, .ref a_own, .ref a_share, .ref a_rest, .ref a_left, .ref a_tried, .int v_signs, .int v_lines, .int v_most])), (a_chosen, .inl (k_a_chosen, 4, .inl f2)), (a_tried, .inl (k_a_tried, 4, .inl f_a_tried))] := hD
  have hP9 := hP.sub (ws' := [(o, .inr (0, [.ref a_chosen, .int p1, .ref a_felt, .ref a_own, .ref a_share, .ref a_rest, .ref a_left, .ref a_tried, .int v_signs, .int v_lines, .int v_most])), (a_chosen, .inl (k_a_chosen, 4, .inl f2)), (a_tried, .inl (k_a_tried, 4, .inl f_a_tried))]) [0, 1, 2] rfl
  have hD9 := hD.sub (ws' := [(o, .inr (0, [.ref a_chosen, .int p1, .ref a_felt, .ref a_own, .ref a_share, .ref a_rest, .ref a_left, .ref a_tried, .int v_signs, .int v_lines, .int v_most])), (a_chosen, .inl (k_a_chosen, 4, .inl f2)), (a_tried, .inl (k_a_tried, 4, .inl f_a_tried))]) [0, 1, 2] (by decide) rfl
  exact W.vret hx hb hr (fun t ht hW => ⟨⟨(), rfl, trivial, f2, by rw [ht]; exact hP9, hD9⟩, hS.F ht⟩) hS.2.2 dX0_place_30

set_option maxHeartbeats 4000000 in
set_option maxRecDepth 100000 in
theorem ct_X0_place_L3 (l : Launch) (dC : Nat → ClassId) (dI : Nat → Nat → Nat) (o : Nat) (p1 : Int32) (a_chosen : Nat) (v_bestCost : Int32) (a_felt : Nat) (a_own : Nat) (a_share : Nat) (a_rest : Nat) (a_left : Nat) (a_tried : Nat) (v_signs : Int32) (v_lines : Int32) (v_most : Int32) (k_a_chosen : ClassId) (f_a_chosen : Nat → Int32) (k_a_felt : ClassId) (f_a_felt : Nat → Int32) (k_a_own : ClassId) (f_a_own : Nat → Int32) (k_a_share : ClassId) (R_a_share : Nat → Nat) (k_a_rest : ClassId) (R_a_rest : Nat → Nat) (k_a_left : ClassId) (R_a_left : Nat → Nat) (k_a_tried : ClassId) (f_a_tried : Nat → Int32) (LP : List Nat) (sh : Nat → Nat) (fp : Nat → va_E) (cI : ClassId) (cJ : ClassId) (hv_signs : iv v_signs 0 4) (hv_lines : iv v_lines 0 5) (hv_most : iv v_most 0 20) (hfp : pok cI cJ LP sh fp) (hRR_a_share : ∀ i : Nat, i < 5 → R_a_share i ∈ LP ∧ sh (R_a_share i) = 4) (hRR_a_rest : ∀ i : Nat, i < 5 → R_a_rest i ∈ LP ∧ sh (R_a_rest i) = 5) (hRR_a_left : ∀ i : Nat, i < 5 → R_a_left i ∈ LP ∧ sh (R_a_left i) = 5) (sz : Nat) : Met l yX0_place wsX0_place ({ frames := 2, cells := 0, slots := 0, locals := 86 }) (va_Pc [.ref o, .int 3, .int p1] (fun U => U.heap.size = sz ∧ va_P (dC, dI) vwCl ([(o, .inr (0, [.ref a_chosen, .int v_bestCost, .ref a_felt, .ref a_own, .ref a_share, .ref a_rest, .ref a_left, .ref a_tried, .int v_signs, .int v_lines, .int v_most])), (a_chosen, .inl (k_a_chosen, 4, .inl f_a_chosen)), (a_felt, .inl (k_a_felt, 21, .inl f_a_felt)), (a_own, .inl (k_a_own, 4, .inl f_a_own)), (a_share, .inl (k_a_share, 5, .inr (.inr (.inr (.inr (rows_of 5 R_a_share)))))), (a_rest, .inl (k_a_rest, 5, .inr (.inr (.inr (.inr (rows_of 5 R_a_rest)))))), (a_left, .inl (k_a_left, 5, .inr (.inr (.inr (.inr (rows_of 5 R_a_left)))))), (a_tried, .inl (k_a_tried, 4, .inl f_a_tried))] ++ va_pl LP fp) U.heap ∧ va_K (dC, dI) vwCl [(k_a_chosen, .int), (k_a_felt, .int), (k_a_own, .int), (k_a_share, (.array .int)), (k_a_rest, (.array .int)), (k_a_left, (.array .int)), (k_a_tried, .int), (cI, .int), (cJ, .long)] U ∧ va_D (fun _ => True) ([(o, .inr (0, [.ref a_chosen, .int v_bestCost, .ref a_felt, .ref a_own, .ref a_share, .ref a_rest, .ref a_left, .ref a_tried, .int v_signs, .int v_lines, .int v_most])), (a_chosen, .inl (k_a_chosen, 4, .inl f_a_chosen)), (a_felt, .inl (k_a_felt, 21, .inl f_a_felt)), (a_own, .inl (k_a_own, 4, .inl f_a_own)), (a_share, .inl (k_a_share, 5, .inr (.inr (.inr (.inr (rows_of 5 R_a_share)))))), (a_rest, .inl (k_a_rest, 5, .inr (.inr (.inr (.inr (rows_of 5 R_a_rest)))))), (a_left, .inl (k_a_left, 5, .inr (.inr (.inr (.inr (rows_of 5 R_a_left)))))), (a_tried, .inl (k_a_tried, 4, .inl f_a_tried))] ++ va_pl LP fp))) (va_Qv (fun _ : Unit => True) (fun _ t => ∃ (e_v_bestCost : Int32) (e_f_a_chosen : Nat → Int32) (e_f_a_tried : Nat → Int32) (e_fp : Nat → va_E), pok cI cJ LP sh e_fp ∧ va_P (dC, dI) vwCl ([(o, .inr (0, [.ref a_chosen, .int e_v_bestCost, .ref a_felt, .ref a_own, .ref a_share, .ref a_rest, .ref a_left, .ref a_tried, .int v_signs, .int v_lines, .int v_most])), (a_chosen, .inl (k_a_chosen, 4, .inl e_f_a_chosen)), (a_felt, .inl (k_a_felt, 21, .inl f_a_felt)), (a_own, .inl (k_a_own, 4, .inl f_a_own)), (a_share, .inl (k_a_share, 5, .inr (.inr (.inr (.inr (rows_of 5 R_a_share)))))), (a_rest, .inl (k_a_rest, 5, .inr (.inr (.inr (.inr (rows_of 5 R_a_rest)))))), (a_left, .inl (k_a_left, 5, .inr (.inr (.inr (.inr (rows_of 5 R_a_left)))))), (a_tried, .inl (k_a_tried, 4, .inl e_f_a_tried))] ++ va_pl LP e_fp) t.heap ∧ va_D (va_A ([(o, .inr (0, [.ref a_chosen, .int v_bestCost, .ref a_felt, .ref a_own, .ref a_share, .ref a_rest, .ref a_left, .ref a_tried, .int v_signs, .int v_lines, .int v_most])), (a_chosen, .inl (k_a_chosen, 4, .inl f_a_chosen)), (a_felt, .inl (k_a_felt, 21, .inl f_a_felt)), (a_own, .inl (k_a_own, 4, .inl f_a_own)), (a_share, .inl (k_a_share, 5, .inr (.inr (.inr (.inr (rows_of 5 R_a_share)))))), (a_rest, .inl (k_a_rest, 5, .inr (.inr (.inr (.inr (rows_of 5 R_a_rest)))))), (a_left, .inl (k_a_left, 5, .inr (.inr (.inr (.inr (rows_of 5 R_a_left)))))), (a_tried, .inl (k_a_tried, 4, .inl f_a_tried))] ++ va_pl LP fp) sz) ([(o, .inr (0, [.ref a_chosen, .int e_v_bestCost, .ref a_felt, .ref a_own, .ref a_share, .ref a_rest, .ref a_left, .ref a_tried, .int v_signs, .int v_lines, .int v_most])), (a_chosen, .inl (k_a_chosen, 4, .inl e_f_a_chosen)), (a_felt, .inl (k_a_felt, 21, .inl f_a_felt)), (a_own, .inl (k_a_own, 4, .inl f_a_own)), (a_share, .inl (k_a_share, 5, .inr (.inr (.inr (.inr (rows_of 5 R_a_share)))))), (a_rest, .inl (k_a_rest, 5, .inr (.inr (.inr (.inr (rows_of 5 R_a_rest)))))), (a_left, .inl (k_a_left, 5, .inr (.inr (.inr (.inr (rows_of 5 R_a_left)))))), (a_tried, .inl (k_a_tried, 4, .inl e_f_a_tried))] ++ va_pl LP e_fp)) (va_A ([(o, .inr (0, [.ref a_chosen, .int v_bestCost, .ref a_felt, .ref a_own, .ref a_share, .ref a_rest, .ref a_left, .ref a_tried, .int v_signs, .int v_lines, .int v_most])), (a_chosen, .inl (k_a_chosen, 4, .inl f_a_chosen)), (a_felt, .inl (k_a_felt, 21, .inl f_a_felt)), (a_own, .inl (k_a_own, 4, .inl f_a_own)), (a_share, .inl (k_a_share, 5, .inr (.inr (.inr (.inr (rows_of 5 R_a_share)))))), (a_rest, .inl (k_a_rest, 5, .inr (.inr (.inr (.inr (rows_of 5 R_a_rest)))))), (a_left, .inl (k_a_left, 5, .inr (.inr (.inr (.inr (rows_of 5 R_a_left)))))), (a_tried, .inl (k_a_tried, 4, .inl f_a_tried))] ++ va_pl LP fp) sz)) 0 0 (va_A ([(o, .inr (0, [.ref a_chosen, .int v_bestCost, .ref a_felt, .ref a_own, .ref a_share, .ref a_rest, .ref a_left, .ref a_tried, .int v_signs, .int v_lines, .int v_most])), (a_chosen, .inl (k_a_chosen, 4, .inl f_a_chosen)), (a_felt, .inl (k_a_felt, 21, .inl f_a_felt)), (a_own, .inl (k_a_own, 4, .inl f_a_own)), (a_share, .inl (k_a_share, 5, .inr (.inr (.inr (.inr (rows_of 5 R_a_share)))))), (a_rest, .inl (k_a_rest, 5, .inr (.inr (.inr (.inr (rows_of 5 R_a_rest)))))), (a_left, .inl (k_a_left, 5, .inr (.inr (.inr (.inr (rows_of 5 R_a_left)))))), (a_tried, .inl (k_a_tried, 4, .inl f_a_tried))] ++ va_pl LP fp) sz) := by
  refine Met.ofW (cc := cX0_place) (maxL := 7) (ret := none) (by decide) rfl ?_
  intro p e s m args below meth c s₁ B hml hv
  obtain ⟨rfl, hsz, hP, hK, hD0⟩ := hv
  have hx := B.exec
  have hb := B.bytes
  have hr := B.returns
  have hts := atoms_spec (ws := wsX0_place) B.pre
  have hown : s.vm.findClass RX0 = some m.cls := findClass_of_methodNamed B.named
  have hlocks := B.notSynchronized
  subst hsz
  have hD := hD0.self (sz := s.heap.size)
  generalize hAe : va_A ([(o, .inr (0, [.ref a_chosen, .int v_bestCost, .ref a_felt, .ref a_own, .ref a_share, .ref a_rest, .ref a_left, .ref a_tried, .int v_signs, .int v_lines, .int v_most])), (a_chosen, .inl (k_a_chosen, 4, .inl f_a_chosen)), (a_felt, .inl (k_a_felt, 21, .inl f_a_felt)), (a_own, .inl (k_a_own, 4, .inl f_a_own)), (a_share, .inl (k_a_share, 5, .inr (.inr (.inr (.inr (rows_of 5 R_a_share)))))), (a_rest, .inl (k_a_rest, 5, .inr (.inr (.inr (.inr (rows_of 5 R_a_rest)))))), (a_left, .inl (k_a_left, 5, .inr (.inr (.inr (.inr (rows_of 5 R_a_left)))))), (a_tried, .inl (k_a_tried, 4, .inl f_a_tried))] ++ va_pl LP fp) s.heap.size = A at hD ⊢
  have hA : ∀ q : Nat, s.heap.size ≤ q → A q := fun q h => by rw [← hAe]; exact Or.inr h
  have hS : va_S A s.heap s.heap [] := va_S.rf
  have hP : va_P (dC, dI) vwCl ([(o, .inr (0, [.ref a_chosen, .int v_bestCost, .ref a_felt, .ref a_own, .ref a_share, .ref a_rest, .ref a_left, .ref a_tried, .int v_signs, .int v_lines, .int v_most])), (a_chosen, .inl (k_a_chosen, 4, .inl f_a_chosen)), (a_felt, .inl (k_a_felt, 21, .inl f_a_felt)), (a_own, .inl (k_a_own, 4, .inl f_a_own)), (a_share, .inl (k_a_share, 5, .inr (.inr (.inr (.inr (rows_of 5 R_a_share)))))), (a_rest, .inl (k_a_rest, 5, .inr (.inr (.inr (.inr (rows_of 5 R_a_rest)))))), (a_left, .inl (k_a_left, 5, .inr (.inr (.inr (.inr (rows_of 5 R_a_left)))))), (a_tried, .inl (k_a_tried, 4, .inl f_a_tried))] ++ va_pl LP fp) s.heap := hP
  have hl := lv_entry ([.ref o, .int 3, .int p1]) (n := 7) (Nat.le_of_ble_eq_true rfl)
  rw [lg_entry_eq]
  generalize (lg_sl ([.ref o, .int 3, .int p1]) ++ List.replicate (7 - (lg_sl ([.ref o, .int 3, .int p1])).length) Slot.unset).toArray = ls at hl ⊢
  have hl : lv_has ls 7 [(0, .ref o), (1, .int 3), (2, .int p1)] := hl
  refine lv_iload_n hx hb dX0_place_0 rfl (lv_at hl 1 rfl) ?_
  refine lv_aload_n hx hb dX0_place_1 rfl (lv_at hl 0 rfl) ?_
  refine va_get (D := (dC, dI)) (ci := 0) (v := .int v_signs) (C := RX0) (T := TX0) (N := 11) hx hb hts iw_X0_place_X0 hown hK hP 0 rfl rfl 8 (by decide) (hts _ kk_X0_place_0) (fun _ h9 => h9) rfl dX0_place_2 ?_
  have bv_signs := hv_signs.u
  refine lv_icmp_lt (tgt := 31) hx hb dX0_place_5 (by decide) (fun c1 => ?_) (fun c1 => ?_)
  · have c19 := i32_lt c1 (show (3 : Int32).toInt = 3 by decide) rfl
    refine lv_aload_n hx hb dX0_place_31 rfl (lv_at hl 0 rfl) ?_
    refine lv_iload_n hx hb dX0_place_32 rfl (lv_at hl 1 rfl) ?_
    have hPc := hP.part (cx := [(o, .inr (0, [.ref a_chosen, .int v_bestCost, .ref a_felt, .ref a_own, .ref a_share, .ref a_rest, .ref a_left, .ref a_tried, .int v_signs, .int v_lines, .int v_most])), (a_felt, .inl (k_a_felt, 21, .inl f_a_felt)), (a_own, .inl (k_a_own, 4, .inl f_a_own)), (a_share, .inl (k_a_share, 5, .inr (.inr (.inr (.inr (rows_of 5 R_a_share)))))), (a_rest, .inl (k_a_rest, 5, .inr (.inr (.inr (.inr (rows_of 5 R_a_rest)))))), (a_left, .inl (k_a_left, 5, .inr (.inr (.inr (.inr (rows_of 5 R_a_left))))))]) [0, 2, 3, 4, 5, 6] rfl
    have hDc := hD.part (cx := [(o, .inr (0, [.ref a_chosen, .int v_bestCost, .ref a_felt, .ref a_own, .ref a_share, .ref a_rest, .ref a_left, .ref a_tried, .int v_signs, .int v_lines, .int v_most])), (a_felt, .inl (k_a_felt, 21, .inl f_a_felt)), (a_own, .inl (k_a_own, 4, .inl f_a_own)), (a_share, .inl (k_a_share, 5, .inr (.inr (.inr (.inr (rows_of 5 R_a_share)))))), (a_rest, .inl (k_a_rest, 5, .inr (.inr (.inr (.inr (rows_of 5 R_a_rest)))))), (a_left, .inl (k_a_left, 5, .inr (.inr (.inr (.inr (rows_of 5 R_a_left))))))]) [0, 2, 3, 4, 5, 6] (by decide) rfl
    have hKc := hK.sub (tys' := [(k_a_felt, .int), (k_a_own, .int), (k_a_share, (.array .int)), (k_a_rest, (.array .int)), (k_a_left, (.array .int)), (cI, .int), (cJ, .long)]) [1, 2, 3, 4, 5, 7, 8] rfl
    have hFc := va_freeP (cx := [(o, .inr (0, [.ref a_chosen, .int v_bestCost, .ref a_felt, .ref a_own, .ref a_share, .ref a_rest, .ref a_left, .ref a_tried, .int v_signs, .int v_lines, .int v_most])), (a_felt, .inl (k_a_felt, 21, .inl f_a_felt)), (a_own, .inl (k_a_own, 4, .inl f_a_own)), (a_share, .inl (k_a_share, 5, .inr (.inr (.inr (.inr (rows_of 5 R_a_share)))))), (a_rest, .inl (k_a_rest, 5, .inr (.inr (.inr (.inr (rows_of 5 R_a_rest)))))), (a_left, .inl (k_a_left, 5, .inr (.inr (.inr (.inr (rows_of 5 R_a_left))))))]) hD hS hA [0, 2, 3, 4, 5, 6] rfl
    refine va_calli (va_runV (As := [.int 3]) (rest := []) ⟨hx, hb, hml, hown, hts⟩ (ct_X0_lastCoin l dC dI o 3 a_chosen v_bestCost a_felt a_own a_share a_rest a_left a_tried v_signs v_lines v_most k_a_felt f_a_felt k_a_own f_a_own k_a_share R_a_share k_a_rest R_a_rest k_a_left R_a_left LP sh fp cI cJ (iv.m (by decide)) hv_lines hv_most hfp hRR_a_share hRR_a_rest hRR_a_left s.heap.size) (cwV 1 hts gX0_place_X0_lastCoin rfl rfl rfl (by decide +kernel) ⟨Nat.le_of_ble_eq_true rfl, Nat.le_of_ble_eq_true rfl⟩) ⟨fun a U g mk q => by obtain ⟨q0, q1, qP, qK, qD⟩ := q; exact ⟨q0, q1, qP, va_K.moved (u := U) (U := U.calling g mk a) (Vm.Alike.refl U.vm) qK, qD⟩, va_recv hKc hPc (ci := 0) (q0 := 0) rfl rfl, fun U hU hW => ⟨rfl, by rw [hU], by rw [hU]; exact hPc, va_K.moved hW.alike hKc, hDc.weaken (fun _ _ _ _ => trivial)⟩⟩ rfl rfl hl.1 rfl (lv_room (Nat.le_of_ble_eq_true rfl)) dX0_place_33 ⟨Nat.le_of_ble_eq_true rfl, Nat.le_of_ble_eq_true rfl⟩) hS (fun q _ h => hFc q h) hFc (fun r2 u t H1 locs ht hvm hw hB hz1 hk1 hS => ?_)
    have hw : r2 = u := hw.symm
    subst hw
    obtain ⟨hr2, hP1, hD1⟩ := hB
    rw [ht] at hP1
    obtain ⟨hP, hD⟩ := va_joinP (X := [(o, .inr (0, [.ref a_chosen, .int v_bestCost, .ref a_felt, .ref a_own, .ref a_share, .ref a_rest, .ref a_left, .ref a_tried, .int v_signs, .int v_lines, .int v_most])), (a_chosen, .inl (k_a_chosen, 4, .inl f_a_chosen)), (a_felt, .inl (k_a_felt, 21, .inl f_a_felt)), (a_own, .inl (k_a_own, 4, .inl f_a_own)), (a_share, .inl (k_a_share, 5, .inr (.inr (.inr (.inr (rows_of 5 R_a_share)))))), (a_rest, .inl (k_a_rest, 5, .inr (.inr (.inr (.inr (rows_of 5 R_a_rest)))))), (a_left, .inl (k_a_left, 5, .inr (.inr (.inr (.inr (rows_of 5 R_a_left)))))), (a_tried, .inl (k_a_tried, 4, .inl f_a_tried))]) (cx := [(o, .inr (0, [.ref a_chosen, .int v_bestCost, .ref a_felt, .ref a_own, .ref a_share, .ref a_rest, .ref a_left, .ref a_tried, .int v_signs, .int v_lines, .int v_most])), (a_felt, .inl (k_a_felt, 21, .inl f_a_felt)), (a_own, .inl (k_a_own, 4, .inl f_a_own)), (a_share, .inl (k_a_share, 5, .inr (.inr (.inr (.inr (rows_of 5 R_a_share)))))), (a_rest, .inl (k_a_rest, 5, .inr (.inr (.inr (.inr (rows_of 5 R_a_rest)))))), (a_left, .inl (k_a_left, 5, .inr (.inr (.inr (.inr (rows_of 5 R_a_left))))))]) (wr := [(a_chosen, .inl (k_a_chosen, 4, .inl f_a_chosen)), (a_tried, .inl (k_a_tried, 4, .inl f_a_tried))]) (rx := [(o, .inr (0, [.ref a_chosen, .int v_bestCost, .ref a_felt, .ref a_own, .ref a_share, .ref a_rest, .ref a_left, .ref a_tried, .int v_signs, .int v_lines, .int v_most])), (a_felt, .inl (k_a_felt, 21, .inl f_a_felt)), (a_own, .inl (k_a_own, 4, .inl f_a_own)), (a_share, .inl (k_a_share, 5, .inr (.inr (.inr (.inr (rows_of 5 R_a_share)))))), (a_rest, .inl (k_a_rest, 5, .inr (.inr (.inr (.inr (rows_of 5 R_a_rest)))))), (a_left, .inl (k_a_left, 5, .inr (.inr (.inr (.inr (rows_of 5 R_a_left))))))]) hP hD [0, 2, 3, 4, 5, 6] [1, 7] rfl rfl (by decide) (by decide) hk1 hFc hP1 hD1
    clear hPc hDc hKc hFc hP1 hD1 hk1 hz1
    generalize H1 = H at hP hS ⊢
    have hP : va_P (dC, dI) vwCl ([(a_chosen, .inl (k_a_chosen, 4, .inl f_a_chosen)), (a_tried, .inl (k_a_tried, 4, .inl f_a_tried)), (o, .inr (0, [.ref a_chosen, .int v_bestCost, .ref a_felt, .ref a_own, .ref a_share, .ref a_rest, .ref a_left, .ref a_tried, .int v_signs, .int v_lines, .int v_most])), (a_felt, .inl (k_a_felt, 21, .inl f_a_felt)), (a_own, .inl (k_a_own, 4, .inl f_a_own)), (a_share, .inl (k_a_share, 5, .inr (.inr (.inr (.inr (rows_of 5 R_a_share)))))), (a_rest, .inl (k_a_rest, 5, .inr (.inr (.inr (.inr (rows_of 5 R_a_rest)))))), (a_left, .inl (k_a_left, 5, .inr (.inr (.inr (.inr (rows_of 5 R_a_left))))))] ++ va_pl LP fp) H := hP
    have hD : va_D A ([(a_chosen, .inl (k_a_chosen, 4, .inl f_a_chosen)), (a_tried, .inl (k_a_tried, 4, .inl f_a_tried)), (o, .inr (0, [.ref a_chosen, .int v_bestCost, .ref a_felt, .ref a_own, .ref a_share, .ref a_rest, .ref a_left, .ref a_tried, .int v_signs, .int v_lines, .int v_most])), (a_felt, .inl (k_a_felt, 21, .inl f_a_felt)), (a_own, .inl (k_a_own, 4, .inl f_a_own)), (a_share, .inl (k_a_share, 5, .inr (.inr (.inr (.inr (rows_of 5 R_a_share)))))), (a_rest, .inl (k_a_rest, 5, .inr (.inr (.inr (.inr (rows_of 5 R_a_rest)))))), (a_left, .inl (k_a_left, 5, .inr (.inr (.inr (.inr (rows_of 5 R_a_left))))))] ++ va_pl LP fp) := hD
    refine W.widen (k := 0) (n := 0) (by decide) (by decide) ?_
    refine lv_istore_n (lv' := [(3, .int r2), (0, .ref o), (1, .int 3), (2, .int p1)]) hx hb dX0_place_36 rfl hl (by decide) rfl (fun ls hl => ?_)
    refine lv_aload_n hx hb dX0_place_37 rfl (lv_at hl 1 rfl) ?_
    refine lv_iload_n hx hb dX0_place_38 rfl (lv_at hl 2 rfl) ?_
    have hPc := hP.part (cx := [(o, .inr (0, [.ref a_chosen, .int v_bestCost, .ref a_felt, .ref a_own, .ref a_share, .ref a_rest, .ref a_left, .ref a_tried, .int v_signs, .int v_lines, .int v_most])), (a_felt, .inl (k_a_felt, 21, .inl f_a_felt)), (a_share, .inl (k_a_share, 5, .inr (.inr (.inr (.inr (rows_of 5 R_a_share)))))), (a_rest, .inl (k_a_rest, 5, .inr (.inr (.inr (.inr (rows_of 5 R_a_rest)))))), (a_left, .inl (k_a_left, 5, .inr (.inr (.inr (.inr (rows_of 5 R_a_left))))))]) [2, 3, 5, 6, 7] rfl
    have hDc := hD.part (cx := [(o, .inr (0, [.ref a_chosen, .int v_bestCost, .ref a_felt, .ref a_own, .ref a_share, .ref a_rest, .ref a_left, .ref a_tried, .int v_signs, .int v_lines, .int v_most])), (a_felt, .inl (k_a_felt, 21, .inl f_a_felt)), (a_share, .inl (k_a_share, 5, .inr (.inr (.inr (.inr (rows_of 5 R_a_share)))))), (a_rest, .inl (k_a_rest, 5, .inr (.inr (.inr (.inr (rows_of 5 R_a_rest)))))), (a_left, .inl (k_a_left, 5, .inr (.inr (.inr (.inr (rows_of 5 R_a_left))))))]) [2, 3, 5, 6, 7] (by decide) rfl
    have hKc := hK.sub (tys' := [(k_a_felt, .int), (k_a_share, (.array .int)), (k_a_rest, (.array .int)), (k_a_left, (.array .int)), (cI, .int), (cJ, .long)]) [1, 3, 4, 5, 7, 8] rfl
    have hFc := va_freeP (cx := [(o, .inr (0, [.ref a_chosen, .int v_bestCost, .ref a_felt, .ref a_own, .ref a_share, .ref a_rest, .ref a_left, .ref a_tried, .int v_signs, .int v_lines, .int v_most])), (a_felt, .inl (k_a_felt, 21, .inl f_a_felt)), (a_share, .inl (k_a_share, 5, .inr (.inr (.inr (.inr (rows_of 5 R_a_share)))))), (a_rest, .inl (k_a_rest, 5, .inr (.inr (.inr (.inr (rows_of 5 R_a_rest)))))), (a_left, .inl (k_a_left, 5, .inr (.inr (.inr (.inr (rows_of 5 R_a_left))))))]) hD hS hA [2, 3, 5, 6, 7] rfl
    refine va_calli (va_runV (As := [.int 3]) (rest := []) ⟨hx, hb, hml, hown, hts⟩ (ct_X0_firstCoin l dC dI o 3 a_chosen v_bestCost a_felt a_own a_share a_rest a_left a_tried v_signs v_lines v_most k_a_felt f_a_felt k_a_share R_a_share k_a_rest R_a_rest k_a_left R_a_left LP sh fp cI cJ (iv.m (by decide)) hv_lines hv_most hfp hRR_a_share hRR_a_rest hRR_a_left H.size) (cwV 1 hts gX0_place_X0_firstCoin rfl rfl rfl (by decide +kernel) ⟨Nat.le_of_ble_eq_true rfl, Nat.le_of_ble_eq_true rfl⟩) ⟨fun a U g mk q => by obtain ⟨q0, q1, qP, qK, qD⟩ := q; exact ⟨q0, q1, qP, va_K.moved (u := U) (U := U.calling g mk a) (Vm.Alike.refl U.vm) qK, qD⟩, va_recv hKc hPc (ci := 0) (q0 := 0) rfl rfl, fun U hU hW => ⟨rfl, by rw [hU], by rw [hU]; exact hPc, va_K.moved hW.alike hKc, hDc.weaken (fun _ _ _ _ => trivial)⟩⟩ rfl rfl hl.1 rfl (lv_room (Nat.le_of_ble_eq_true rfl)) dX0_place_39 ⟨Nat.le_of_ble_eq_true rfl, Nat.le_of_ble_eq_true rfl⟩) hS (fun q _ h => hFc q h) hFc (fun r3 u t H1 locs ht hvm hw hB hz1 hk1 hS => ?_)
    have hw : r3 = u := hw.symm
    subst hw
    obtain ⟨hr3, hP1, hD1⟩ := hB
    rw [ht] at hP1
    obtain ⟨hP, hD⟩ := va_joinP (X := [(a_chosen, .inl (k_a_chosen, 4, .inl f_a_chosen)), (a_tried, .inl (k_a_tried, 4, .inl f_a_tried)), (o, .inr (0, [.ref a_chosen, .int v_bestCost, .ref a_felt, .ref a_own, .ref a_share, .ref a_rest, .ref a_left, .ref a_tried, .int v_signs, .int v_lines, .int v_most])), (a_felt, .inl (k_a_felt, 21, .inl f_a_felt)), (a_own, .inl (k_a_own, 4, .inl f_a_own)), (a_share, .inl (k_a_share, 5, .inr (.inr (.inr (.inr (rows_of 5 R_a_share)))))), (a_rest, .inl (k_a_rest, 5, .inr (.inr (.inr (.inr (rows_of 5 R_a_rest)))))), (a_left, .inl (k_a_left, 5, .inr (.inr (.inr (.inr (rows_of 5 R_a_left))))))]) (cx := [(o, .inr (0, [.ref a_chosen, .int v_bestCost, .ref a_felt, .ref a_own, .ref a_share, .ref a_rest, .ref a_left, .ref a_tried, .int v_signs, .int v_lines, .int v_most])), (a_felt, .inl (k_a_felt, 21, .inl f_a_felt)), (a_share, .inl (k_a_share, 5, .inr (.inr (.inr (.inr (rows_of 5 R_a_share)))))), (a_rest, .inl (k_a_rest, 5, .inr (.inr (.inr (.inr (rows_of 5 R_a_rest)))))), (a_left, .inl (k_a_left, 5, .inr (.inr (.inr (.inr (rows_of 5 R_a_left))))))]) (wr := [(a_chosen, .inl (k_a_chosen, 4, .inl f_a_chosen)), (a_tried, .inl (k_a_tried, 4, .inl f_a_tried)), (a_own, .inl (k_a_own, 4, .inl f_a_own))]) (rx := [(o, .inr (0, [.ref a_chosen, .int v_bestCost, .ref a_felt, .ref a_own, .ref a_share, .ref a_rest, .ref a_left, .ref a_tried, .int v_signs, .int v_lines, .int v_most])), (a_felt, .inl (k_a_felt, 21, .inl f_a_felt)), (a_share, .inl (k_a_share, 5, .inr (.inr (.inr (.inr (rows_of 5 R_a_share)))))), (a_rest, .inl (k_a_rest, 5, .inr (.inr (.inr (.inr (rows_of 5 R_a_rest)))))), (a_left, .inl (k_a_left, 5, .inr (.inr (.inr (.inr (rows_of 5 R_a_left))))))]) hP hD [2, 3, 5, 6, 7] [0, 1, 4] rfl rfl (by decide) (by decide) hk1 hFc hP1 hD1
    clear hPc hDc hKc hFc hP1 hD1 hk1 hz1
    generalize H1 = H at hP hS ⊢
    have hP : va_P (dC, dI) vwCl ([(a_chosen, .inl (k_a_chosen, 4, .inl f_a_chosen)), (a_tried, .inl (k_a_tried, 4, .inl f_a_tried)), (a_own, .inl (k_a_own, 4, .inl f_a_own)), (o, .inr (0, [.ref a_chosen, .int v_bestCost, .ref a_felt, .ref a_own, .ref a_share, .ref a_rest, .ref a_left, .ref a_tried, .int v_signs, .int v_lines, .int v_most])), (a_felt, .inl (k_a_felt, 21, .inl f_a_felt)), (a_share, .inl (k_a_share, 5, .inr (.inr (.inr (.inr (rows_of 5 R_a_share)))))), (a_rest, .inl (k_a_rest, 5, .inr (.inr (.inr (.inr (rows_of 5 R_a_rest)))))), (a_left, .inl (k_a_left, 5, .inr (.inr (.inr (.inr (rows_of 5 R_a_left))))))] ++ va_pl LP fp) H := hP
    have hD : va_D A ([(a_chosen, .inl (k_a_chosen, 4, .inl f_a_chosen)), (a_tried, .inl (k_a_tried, 4, .inl f_a_tried)), (a_own, .inl (k_a_own, 4, .inl f_a_own)), (o, .inr (0, [.ref a_chosen, .int v_bestCost, .ref a_felt, .ref a_own, .ref a_share, .ref a_rest, .ref a_left, .ref a_tried, .int v_signs, .int v_lines, .int v_most])), (a_felt, .inl (k_a_felt, 21, .inl f_a_felt)), (a_share, .inl (k_a_share, 5, .inr (.inr (.inr (.inr (rows_of 5 R_a_share)))))), (a_rest, .inl (k_a_rest, 5, .inr (.inr (.inr (.inr (rows_of 5 R_a_rest)))))), (a_left, .inl (k_a_left, 5, .inr (.inr (.inr (.inr (rows_of 5 R_a_left))))))] ++ va_pl LP fp) := hD
    refine W.widen (k := 0) (n := 0) (by decide) (by decide) ?_
    refine lv_istore (lv' := [(4, .int r3), (3, .int r2), (0, .ref o), (1, .int 3), (2, .int p1)]) hx hb dX0_place_42 hl (by decide) rfl (fun ls hl => ?_)
    refine tl_loop (I := fun nn H locs ls => ∃ (v4 : Int32) (f5 : Nat → Int32) (f6 : Nat → Int32) (v7 : Int32) (f8 : Nat → va_E), nn = (21 - v4.toInt).toNat ∧ iv v4 0 21 ∧ pok cI cJ LP sh f8 ∧  va_P (dC, dI) vwCl ([(a_chosen, .inl (k_a_chosen, 4, .inl f6)), (a_tried, .inl (k_a_tried, 4, .inl f5)), (a_own, .inl (k_a_own, 4, .inl f_a_own)), (o, .inr (0, [.ref a_chosen, .int v7, .ref a_felt, .ref a_own, .ref a_share, .ref a_rest, .ref a_left, .ref a_tried, .int v_signs, .int v_lines, .int v_most])), (a_felt, .inl (k_a_felt, 21, .inl f_a_felt)), (a_share, .inl (k_a_share, 5, .inr (.inr (.inr (.inr (rows_of 5 R_a_share)))))), (a_rest, .inl (k_a_rest, 5, .inr (.inr (.inr (.inr (rows_of 5 R_a_rest)))))), (a_left, .inl (k_a_left, 5, .inr (.inr (.inr (.inr (rows_of 5 R_a_left))))))] ++ va_pl LP f8) H ∧ va_D A ([(a_chosen, .inl (k_a_chosen, 4, .inl f6)), (a_tried, .inl (k_a_tried, 4, .inl f5)), (a_own, .inl (k_a_own, 4, .inl f_a_own)), (o, .inr (0, [.ref a_chosen, .int v7, .ref a_felt, .ref a_own, .ref a_share, .ref a_rest, .ref a_left, .ref a_tried, .int v_signs, .int v_lines, .int v_most])), (a_felt, .inl (k_a_felt, 21, .inl f_a_felt)), (a_share, .inl (k_a_share, 5, .inr (.inr (.inr (.inr (rows_of 5 R_a_share)))))), (a_rest, .inl (k_a_rest, 5, .inr (.inr (.inr (.inr (rows_of 5 R_a_rest)))))), (a_left, .inl (k_a_left, 5, .inr (.inr (.inr (.inr (rows_of 5 R_a_left))))))] ++ va_pl LP f8) ∧ va_S A s.heap H locs ∧ lv_has ls 7 [(4, .int v4), (3, .int r2), (0, .ref o), (1, .int 3), (2, .int p1)]) ?_ ⟨r3, f_a_tried, f_a_chosen, v_bestCost, fp, rfl, hr3, hfp, hP, hD, hS, lv_sub hl [0, 1, 2, 3, 4] rfl⟩
    clear hP hD hS hl
    intro nn44 H locs ls hI ih44
    obtain ⟨v4, f5, f6, v7, f8, hn44, hv4, hf8, hP, hD, hS, hl⟩ := hI
    have bv4 := hv4.u
    refine lv_iload hx hb dX0_place_44 (lv_at hl 0 rfl) ?_
    refine lv_iload_n hx hb dX0_place_46 rfl (lv_at hl 1 rfl) ?_
    have br2 := hr2.u
    refine lv_icmp_gt (tgt := 164) hx hb dX0_place_47 (by decide) (fun c9 => ?_) (fun c9 => ?_)
    · have c99 := i32_lt c9 rfl rfl
      have hP9 := hP.part (cx := [(o, .inr (0, [.ref a_chosen, .int v7, .ref a_felt, .ref a_own, .ref a_share, .ref a_rest, .ref a_left, .ref a_tried, .int v_signs, .int v_lines, .int v_most])), (a_chosen, .inl (k_a_chosen, 4, .inl f6)), (a_felt, .inl (k_a_felt, 21, .inl f_a_felt)), (a_own, .inl (k_a_own, 4, .inl f_a_own)), (a_share, .inl (k_a_share, 5, .inr (.inr (.inr (.inr (rows_of 5 R_a_share)))))), (a_rest, .inl (k_a_rest, 5, .inr (.inr (.inr (.inr (rows_of 5 R_a_rest)))))), (a_left, .inl (k_a_left, 5, .inr (.inr (.inr (.inr (rows_of 5 R_a_left)))))), (a_tried, .inl (k_a_tried, 4, .inl f5))]) [3, 0, 4, 2, 5, 6, 7, 1] rfl
      have hD9 := hD.part (cx := [(o, .inr (0, [.ref a_chosen, .int v7, .ref a_felt, .ref a_own, .ref a_share, .ref a_rest, .ref a_left, .ref a_tried, .int v_signs, .int v_lines, .int v_most])), (a_chosen, .inl (k_a_chosen, 4, .inl f6)), (a_felt, .inl (k_a_felt, 21, .inl f_a_felt)), (a_own, .inl (k_a_own, 4, .inl f_a_own)), (a_share, .inl (k_a_share, 5, .inr (.inr (.inr (.inr (rows_of 5 R_a_share)))))), (a_rest, .inl (k_a_rest, 5, .inr (.inr (.inr (.inr (rows_of 5 R_a_rest)))))), (a_left, .inl (k_a_left, 5, .inr (.inr (.inr (.inr (rows_of 5 R_a_left)))))), (a_tried, .inl (k_a_tried, 4, .inl f5))]) [3, 0, 4, 2, 5, 6, 7, 1] (by decide) rfl
      exact W.vret hx hb hr (fun t ht hW => ⟨⟨(), rfl, trivial, v7, f6, f5, f8, hf8, by rw [ht]; exact hP9, hD9⟩, hS.F ht⟩) hS.2.2 dX0_place_164
    · have c99 := i32_nlt c9 rfl rfl
      refine lv_iload_n hx hb dX0_place_50 rfl (lv_at hl 4 rfl) ?_
      refine lv_aload_n hx hb dX0_place_51 rfl (lv_at hl 2 rfl) ?_
      refine va_get (D := (dC, dI)) (ci := 0) (v := .ref a_own) (C := RX0) (T := TX0) (N := 11) hx hb hts iw_X0_place_X0 hown hK hP 3 rfl rfl 3 (by decide) (hts _ kk_X0_place_1) (fun _ h9 => h9) rfl dX0_place_52 ?_
      refine lv_iload_n hx hb dX0_place_55 rfl (lv_at hl 3 rfl) ?_
      refine va_iald hx hb hK hP 2 2 rfl rfl (vq_in 3 4 (by decide)) dX0_place_56 ?_
      refine lv_topi (fun x10 ex10 => ?_)
      refine lv_iload hx hb dX0_place_57 (lv_at hl 0 rfl) ?_
      refine lv_imul hx hb dX0_place_59 ?_
      refine lv_topi (fun x11 ex11 => ?_)
      refine lv_iadd hx hb dX0_place_60 ?_
      refine lv_topi (fun x12 ex12 => ?_)
      refine lv_istore (lv' := [(5, .int x12), (4, .int v4), (3, .int r2), (0, .ref o), (1, .int 3), (2, .int p1)]) hx hb dX0_place_61 hl (by decide) rfl (fun ls hl => ?_)
      refine lv_iload hx hb dX0_place_63 (lv_at hl 0 rfl) ?_
      refine lv_aload_n hx hb dX0_place_65 rfl (lv_at hl 3 rfl) ?_
      refine va_get (D := (dC, dI)) (ci := 0) (v := .int v7) (C := RX0) (T := TX0) (N := 11) hx hb hts iw_X0_place_X0 hown hK hP 3 rfl rfl 1 (by decide) (hts _ kk_X0_place_2) (fun _ h9 => h9) rfl dX0_place_66 ?_
      have bx12 := i32_rng x12
      have bv7 := i32_rng v7
      refine lv_icmp_lt (tgt := 73) hx hb dX0_place_69 (by decide) (fun c13 => ?_) (fun c13 => ?_)
      · have c139 := i32_lt c13 rfl rfl
        refine lv_aload_n hx hb dX0_place_73 rfl (lv_at hl 3 rfl) ?_
        refine va_get (D := (dC, dI)) (ci := 0) (v := .ref a_tried) (C := RX0) (T := TX0) (N := 11) hx hb hts iw_X0_place_X0 hown hK hP 3 rfl rfl 7 (by decide) (hts _ kk_X0_place_3) (fun _ h9 => h9) rfl dX0_place_74 ?_
        refine lv_iload_n hx hb dX0_place_77 rfl (lv_at hl 4 rfl) ?_
        refine lv_iload hx hb dX0_place_78 (lv_at hl 1 rfl) ?_
        refine va_iast hx hb hK hP hD hS 1 6 rfl rfl (vq_in 3 4 (by decide)) dX0_place_80 (fun H locs hP hD hS => ?_)
        have hP : va_P (dC, dI) vwCl ([(a_chosen, .inl (k_a_chosen, 4, .inl f6)), (a_tried, .inl (k_a_tried, 4, .inl (upd f5 (Int32.toNatClampNeg 3) v4))), (a_own, .inl (k_a_own, 4, .inl f_a_own)), (o, .inr (0, [.ref a_chosen, .int v7, .ref a_felt, .ref a_own, .ref a_share, .ref a_rest, .ref a_left, .ref a_tried, .int v_signs, .int v_lines, .int v_most])), (a_felt, .inl (k_a_felt, 21, .inl f_a_felt)), (a_share, .inl (k_a_share, 5, .inr (.inr (.inr (.inr (rows_of 5 R_a_share)))))), (a_rest, .inl (k_a_rest, 5, .inr (.inr (.inr (.inr (rows_of 5 R_a_rest)))))), (a_left, .inl (k_a_left, 5, .inr (.inr (.inr (.inr (rows_of 5 R_a_left))))))] ++ va_pl LP f8) H := hP
        have hD : va_D A ([(a_chosen, .inl (k_a_chosen, 4, .inl f6)), (a_tried, .inl (k_a_tried, 4, .inl (upd f5 (Int32.toNatClampNeg 3) v4))), (a_own, .inl (k_a_own, 4, .inl f_a_own)), (o, .inr (0, [.ref a_chosen, .int v7, .ref a_felt, .ref a_own, .ref a_share, .ref a_rest, .ref a_left, .ref a_tried, .int v_signs, .int v_lines, .int v_most])), (a_felt, .inl (k_a_felt, 21, .inl f_a_felt)), (a_share, .inl (k_a_share, 5, .inr (.inr (.inr (.inr (rows_of 5 R_a_share)))))), (a_rest, .inl (k_a_rest, 5, .inr (.inr (.inr (.inr (rows_of 5 R_a_rest)))))), (a_left, .inl (k_a_left, 5, .inr (.inr (.inr (.inr (rows_of 5 R_a_left))))))] ++ va_pl LP f8) := hD
        have wf14 : (upd f5 (Int32.toNatClampNeg 3) v4) (Int32.toNatClampNeg 3) = v4 := pk_us
        generalize upd f5 (Int32.toNatClampNeg 3) v4 = f14 at hP hD wf14
        have hP : va_P (dC, dI) vwCl ([(a_chosen, .inl (k_a_chosen, 4, .inl f6)), (a_tried, .inl (k_a_tried, 4, .inl f14)), (a_own, .inl (k_a_own, 4, .inl f_a_own)), (o, .inr (0, [.ref a_chosen, .int v7, .ref a_felt, .ref a_own, .ref a_share, .ref a_rest, .ref a_left, .ref a_tried, .int v_signs, .int v_lines, .int v_most])), (a_felt, .inl (k_a_felt, 21, .inl f_a_felt)), (a_share, .inl (k_a_share, 5, .inr (.inr (.inr (.inr (rows_of 5 R_a_share)))))), (a_rest, .inl (k_a_rest, 5, .inr (.inr (.inr (.inr (rows_of 5 R_a_rest)))))), (a_left, .inl (k_a_left, 5, .inr (.inr (.inr (.inr (rows_of 5 R_a_left))))))] ++ va_pl LP f8) H := hP
        have hD : va_D A ([(a_chosen, .inl (k_a_chosen, 4, .inl f6)), (a_tried, .inl (k_a_tried, 4, .inl f14)), (a_own, .inl (k_a_own, 4, .inl f_a_own)), (o, .inr (0, [.ref a_chosen, .int v7, .ref a_felt, .ref a_own, .ref a_share, .ref a_rest, .ref a_left, .ref a_tried, .int v_signs, .int v_lines, .int v_most])), (a_felt, .inl (k_a_felt, 21, .inl f_a_felt)), (a_share, .inl (k_a_share, 5, .inr (.inr (.inr (.inr (rows_of 5 R_a_share)))))), (a_rest, .inl (k_a_rest, 5, .inr (.inr (.inr (.inr (rows_of 5 R_a_rest)))))), (a_left, .inl (k_a_left, 5, .inr (.inr (.inr (.inr (rows_of 5 R_a_left))))))] ++ va_pl LP f8) := hD
        refine lv_iconst (v := 0) hx hb dX0_place_81 (by decide) ?_
        refine lv_istore (lv' := [(6, .int 0), (5, .int x12), (4, .int v4), (3, .int r2), (0, .ref o), (1, .int 3), (2, .int p1)]) hx hb dX0_place_82 hl (by decide) rfl (fun ls hl => ?_)
        refine tl_loop (I := fun nn H locs ls => ∃ (v15 : Int32) (f16 : Nat → va_E), nn = (5 - v15.toInt).toNat ∧ iv v15 0 5 ∧ pok cI cJ LP sh f16 ∧  va_P (dC, dI) vwCl ([(a_chosen, .inl (k_a_chosen, 4, .inl f6)), (a_tried, .inl (k_a_tried, 4, .inl f14)), (a_own, .inl (k_a_own, 4, .inl f_a_own)), (o, .inr (0, [.ref a_chosen, .int v7, .ref a_felt, .ref a_own, .ref a_share, .ref a_rest, .ref a_left, .ref a_tried, .int v_signs, .int v_lines, .int v_most])), (a_felt, .inl (k_a_felt, 21, .inl f_a_felt)), (a_share, .inl (k_a_share, 5, .inr (.inr (.inr (.inr (rows_of 5 R_a_share)))))), (a_rest, .inl (k_a_rest, 5, .inr (.inr (.inr (.inr (rows_of 5 R_a_rest)))))), (a_left, .inl (k_a_left, 5, .inr (.inr (.inr (.inr (rows_of 5 R_a_left))))))] ++ va_pl LP f16) H ∧ va_D A ([(a_chosen, .inl (k_a_chosen, 4, .inl f6)), (a_tried, .inl (k_a_tried, 4, .inl f14)), (a_own, .inl (k_a_own, 4, .inl f_a_own)), (o, .inr (0, [.ref a_chosen, .int v7, .ref a_felt, .ref a_own, .ref a_share, .ref a_rest, .ref a_left, .ref a_tried, .int v_signs, .int v_lines, .int v_most])), (a_felt, .inl (k_a_felt, 21, .inl f_a_felt)), (a_share, .inl (k_a_share, 5, .inr (.inr (.inr (.inr (rows_of 5 R_a_share)))))), (a_rest, .inl (k_a_rest, 5, .inr (.inr (.inr (.inr (rows_of 5 R_a_rest)))))), (a_left, .inl (k_a_left, 5, .inr (.inr (.inr (.inr (rows_of 5 R_a_left))))))] ++ va_pl LP f16) ∧ va_S A s.heap H locs ∧ lv_has ls 7 [(6, .int v15), (5, .int x12), (4, .int v4), (3, .int r2), (0, .ref o), (1, .int 3), (2, .int p1)]) ?_ ⟨0, f8, rfl, (iv.m (by decide)), hf8, hP, hD, hS, lv_sub hl [0, 1, 2, 3, 4, 5, 6] rfl⟩
        clear hP hD hS hl
        intro nn84 H locs ls hI ih84
        obtain ⟨v15, f16, hn84, hv15, hf16, hP, hD, hS, hl⟩ := hI
        have bv15 := hv15.u
        refine lv_iload hx hb dX0_place_84 (lv_at hl 0 rfl) ?_
        refine lv_aload_n hx hb dX0_place_86 rfl (lv_at hl 4 rfl) ?_
        refine va_get (D := (dC, dI)) (ci := 0) (v := .int v_lines) (C := RX0) (T := TX0) (N := 11) hx hb hts iw_X0_place_X0 hown hK hP 3 rfl rfl 9 (by decide) (hts _ kk_X0_place_4) (fun _ h9 => h9) rfl dX0_place_87 ?_
        have bv_lines := hv_lines.u
        refine lv_icmp_ge (tgt := 137) hx hb dX0_place_90 (by decide) (fun c17 => ?_) (fun c17 => ?_)
        · have c179 := i32_le c17 rfl rfl
          refine lv_aload_n hx hb dX0_place_137 rfl (lv_at hl 4 rfl) ?_
          refine lv_iload_n hx hb dX0_place_138 rfl (lv_at hl 5 rfl) ?_
          refine lv_iconst (v := 1) hx hb dX0_place_139 (by decide) ?_
          refine lv_iadd hx hb dX0_place_140 ?_
          refine px_i (v := 4) (by decide) ?_
          refine lv_iload hx hb dX0_place_141 (lv_at hl 1 rfl) ?_
          have hPc := hP.part (cx := [(o, .inr (0, [.ref a_chosen, .int v7, .ref a_felt, .ref a_own, .ref a_share, .ref a_rest, .ref a_left, .ref a_tried, .int v_signs, .int v_lines, .int v_most])), (a_felt, .inl (k_a_felt, 21, .inl f_a_felt)), (a_own, .inl (k_a_own, 4, .inl f_a_own)), (a_share, .inl (k_a_share, 5, .inr (.inr (.inr (.inr (rows_of 5 R_a_share)))))), (a_left, .inl (k_a_left, 5, .inr (.inr (.inr (.inr (rows_of 5 R_a_left))))))]) [3, 4, 2, 5, 7] rfl
          have hDc := hD.part (cx := [(o, .inr (0, [.ref a_chosen, .int v7, .ref a_felt, .ref a_own, .ref a_share, .ref a_rest, .ref a_left, .ref a_tried, .int v_signs, .int v_lines, .int v_most])), (a_felt, .inl (k_a_felt, 21, .inl f_a_felt)), (a_own, .inl (k_a_own, 4, .inl f_a_own)), (a_share, .inl (k_a_share, 5, .inr (.inr (.inr (.inr (rows_of 5 R_a_share)))))), (a_left, .inl (k_a_left, 5, .inr (.inr (.inr (.inr (rows_of 5 R_a_left))))))]) [3, 4, 2, 5, 7] (by decide) rfl
          have hKc := hK.sub (tys' := [(k_a_felt, .int), (k_a_own, .int), (k_a_share, (.array .int)), (k_a_left, (.array .int)), (cI, .int), (cJ, .long)]) [1, 2, 3, 5, 7, 8] rfl
          have hFc := va_freeP (cx := [(o, .inr (0, [.ref a_chosen, .int v7, .ref a_felt, .ref a_own, .ref a_share, .ref a_rest, .ref a_left, .ref a_tried, .int v_signs, .int v_lines, .int v_most])), (a_felt, .inl (k_a_felt, 21, .inl f_a_felt)), (a_own, .inl (k_a_own, 4, .inl f_a_own)), (a_share, .inl (k_a_share, 5, .inr (.inr (.inr (.inr (rows_of 5 R_a_share)))))), (a_left, .inl (k_a_left, 5, .inr (.inr (.inr (.inr (rows_of 5 R_a_left))))))]) hD hS hA [3, 4, 2, 5, 7] rfl
          refine va_calli (va_runV (As := [.int 4, .int x12]) (rest := []) ⟨hx, hb, hml, hown, hts⟩ (ct_X0_canBeCheaper l dC dI o 4 x12 a_chosen v7 a_felt a_own a_share a_rest a_left a_tried v_signs v_lines v_most k_a_felt f_a_felt k_a_own f_a_own k_a_share R_a_share k_a_left R_a_left LP sh f16 cI cJ (iv.m (by decide)) (iv.m (by omega)) hv_lines hf16 hRR_a_share hRR_a_left H.size) (cwV 2 hts gX0_place_X0_canBeCheaper rfl rfl rfl (by decide +kernel) ⟨Nat.le_of_ble_eq_true rfl, Nat.le_of_ble_eq_true rfl⟩) ⟨fun a U g mk q => by obtain ⟨q0, q1, qP, qK, qD⟩ := q; exact ⟨q0, q1, qP, va_K.moved (u := U) (U := U.calling g mk a) (Vm.Alike.refl U.vm) qK, qD⟩, va_recv hKc hPc (ci := 0) (q0 := 0) rfl rfl, fun U hU hW => ⟨rfl, by rw [hU], by rw [hU]; exact hPc, va_K.moved hW.alike hKc, hDc.weaken (fun _ _ _ _ => trivial)⟩⟩ rfl rfl hl.1 rfl (lv_room (Nat.le_of_ble_eq_true rfl)) dX0_place_143 ⟨Nat.le_of_ble_eq_true rfl, Nat.le_of_ble_eq_true rfl⟩) hS (fun q _ h => hFc q h) hFc (fun r18 u t H1 locs ht hvm hw hB hz1 hk1 hS => ?_)
          have hw : r18 = u := hw.symm
          subst hw
          obtain ⟨w19, hP1, hD1⟩ := hB
          rw [ht] at hP1
          obtain ⟨hP, hD⟩ := va_joinP (X := [(a_chosen, .inl (k_a_chosen, 4, .inl f6)), (a_tried, .inl (k_a_tried, 4, .inl f14)), (a_own, .inl (k_a_own, 4, .inl f_a_own)), (o, .inr (0, [.ref a_chosen, .int v7, .ref a_felt, .ref a_own, .ref a_share, .ref a_rest, .ref a_left, .ref a_tried, .int v_signs, .int v_lines, .int v_most])), (a_felt, .inl (k_a_felt, 21, .inl f_a_felt)), (a_share, .inl (k_a_share, 5, .inr (.inr (.inr (.inr (rows_of 5 R_a_share)))))), (a_rest, .inl (k_a_rest, 5, .inr (.inr (.inr (.inr (rows_of 5 R_a_rest)))))), (a_left, .inl (k_a_left, 5, .inr (.inr (.inr (.inr (rows_of 5 R_a_left))))))]) (cx := [(o, .inr (0, [.ref a_chosen, .int v7, .ref a_felt, .ref a_own, .ref a_share, .ref a_rest, .ref a_left, .ref a_tried, .int v_signs, .int v_lines, .int v_most])), (a_felt, .inl (k_a_felt, 21, .inl f_a_felt)), (a_own, .inl (k_a_own, 4, .inl f_a_own)), (a_share, .inl (k_a_share, 5, .inr (.inr (.inr (.inr (rows_of 5 R_a_share)))))), (a_left, .inl (k_a_left, 5, .inr (.inr (.inr (.inr (rows_of 5 R_a_left))))))]) (wr := [(a_chosen, .inl (k_a_chosen, 4, .inl f6)), (a_tried, .inl (k_a_tried, 4, .inl f14)), (a_rest, .inl (k_a_rest, 5, .inr (.inr (.inr (.inr (rows_of 5 R_a_rest))))))]) (rx := [(o, .inr (0, [.ref a_chosen, .int v7, .ref a_felt, .ref a_own, .ref a_share, .ref a_rest, .ref a_left, .ref a_tried, .int v_signs, .int v_lines, .int v_most])), (a_felt, .inl (k_a_felt, 21, .inl f_a_felt)), (a_own, .inl (k_a_own, 4, .inl f_a_own)), (a_share, .inl (k_a_share, 5, .inr (.inr (.inr (.inr (rows_of 5 R_a_share)))))), (a_left, .inl (k_a_left, 5, .inr (.inr (.inr (.inr (rows_of 5 R_a_left))))))]) hP hD [3, 4, 2, 5, 7] [0, 1, 6] rfl rfl (by decide) (by decide) hk1 hFc hP1 hD1
          clear hPc hDc hKc hFc hP1 hD1 hk1 hz1
          generalize H1 = H at hP hS ⊢
          have hP : va_P (dC, dI) vwCl ([(a_chosen, .inl (k_a_chosen, 4, .inl f6)), (a_tried, .inl (k_a_tried, 4, .inl f14)), (a_rest, .inl (k_a_rest, 5, .inr (.inr (.inr (.inr (rows_of 5 R_a_rest)))))), (o, .inr (0, [.ref a_chosen, .int v7, .ref a_felt, .ref a_own, .ref a_share, .ref a_rest, .ref a_left, .ref a_tried, .int v_signs, .int v_lines, .int v_most])), (a_felt, .inl (k_a_felt, 21, .inl f_a_felt)), (a_own, .inl (k_a_own, 4, .inl f_a_own)), (a_share, .inl (k_a_share, 5, .inr (.inr (.inr (.inr (rows_of 5 R_a_share)))))), (a_left, .inl (k_a_left, 5, .inr (.inr (.inr (.inr (rows_of 5 R_a_left))))))] ++ va_pl LP f16) H := hP
          have hD : va_D A ([(a_chosen, .inl (k_a_chosen, 4, .inl f6)), (a_tried, .inl (k_a_tried, 4, .inl f14)), (a_rest, .inl (k_a_rest, 5, .inr (.inr (.inr (.inr (rows_of 5 R_a_rest)))))), (o, .inr (0, [.ref a_chosen, .int v7, .ref a_felt, .ref a_own, .ref a_share, .ref a_rest, .ref a_left, .ref a_tried, .int v_signs, .int v_lines, .int v_most])), (a_felt, .inl (k_a_felt, 21, .inl f_a_felt)), (a_own, .inl (k_a_own, 4, .inl f_a_own)), (a_share, .inl (k_a_share, 5, .inr (.inr (.inr (.inr (rows_of 5 R_a_share)))))), (a_left, .inl (k_a_left, 5, .inr (.inr (.inr (.inr (rows_of 5 R_a_left))))))] ++ va_pl LP f16) := hD
          refine W.widen (k := 0) (n := 0) (by decide) (by decide) ?_
          have hq143_0 : (4 : Int32).toInt = 4 := (by decide)
          rcases w19 with hr9 | hr9
          · subst hr9
            refine lv_if_eq (tgt := 158) hx hb dX0_place_146 (by decide) (fun _ => ?_) (fun cz => absurd cz (by decide))
            obtain ⟨x20, ex20⟩ : ∃ z : Int32, v4 + Int32.ofInt 1 = z := ⟨_, rfl⟩
            have tx20 := i32_inc ex20 rfl (by decide) (by omega) (by omega)
            refine lv_iinc (v := x20) (lv' := [(4, .int x20), (6, .int v15), (5, .int x12), (3, .int r2), (0, .ref o), (1, .int 3), (2, .int p1)]) hx hb dX0_place_158 hl (k := 2) rfl ex20 (by decide) rfl (fun ls hl => ?_)
            refine lv_goto (tgt := 44) hx hb dX0_place_161 (by decide) ?_
            exact ih44 _ _ _ _ (by omega) ⟨x20, f14, f6, v7, f16, rfl, (iv.m (by omega)), hf16, hP.part [0, 1, 5, 3, 4, 6, 2, 7] rfl, hD.part [0, 1, 5, 3, 4, 6, 2, 7] (by decide) rfl, hS, lv_sub hl [0, 3, 4, 5, 6] rfl⟩
          · subst hr9
            refine lv_if_eq (tgt := 158) hx hb dX0_place_146 (by decide) (fun cz => absurd cz (by decide)) (fun _ => ?_)
            refine lv_aload_n hx hb dX0_place_149 rfl (lv_at hl 4 rfl) ?_
            refine lv_iload_n hx hb dX0_place_150 rfl (lv_at hl 5 rfl) ?_
            refine lv_iconst (v := 1) hx hb dX0_place_151 (by decide) ?_
            refine lv_iadd hx hb dX0_place_152 ?_
            refine px_i (v := 4) (by decide) ?_
            refine lv_iload hx hb dX0_place_153 (lv_at hl 1 rfl) ?_
            have hPc := hP.sub (ws' := [(o, .inr (0, [.ref a_chosen, .int v7, .ref a_felt, .ref a_own, .ref a_share, .ref a_rest, .ref a_left, .ref a_tried, .int v_signs, .int v_lines, .int v_most])), (a_chosen, .inl (k_a_chosen, 4, .inl f6)), (a_tried, .inl (k_a_tried, 4, .inl f14))]) [3, 0, 1] rfl
            have hDc := hD.sub (ws' := [(o, .inr (0, [.ref a_chosen, .int v7, .ref a_felt, .ref a_own, .ref a_share, .ref a_rest, .ref a_left, .ref a_tried, .int v_signs, .int v_lines, .int v_most])), (a_chosen, .inl (k_a_chosen, 4, .inl f6)), (a_tried, .inl (k_a_tried, 4, .inl f14))]) [3, 0, 1] (by decide) rfl
            have hKc := hK.sub (tys' := [(k_a_chosen, .int), (k_a_tried, .int)]) [0, 6] rfl
            have hFc := va_free (wc := [(o, .inr (0, [.ref a_chosen, .int v7, .ref a_felt, .ref a_own, .ref a_share, .ref a_rest, .ref a_left, .ref a_tried, .int v_signs, .int v_lines, .int v_most])), (a_chosen, .inl (k_a_chosen, 4, .inl f6)), (a_tried, .inl (k_a_tried, 4, .inl f14))]) hD hS hA [3, 0, 1] rfl
            refine va_callv (va_runV (As := [.int 4, .int x12]) (rest := []) ⟨hx, hb, hml, hown, hts⟩ (ct_X0_place_L4 l dC dI o x12 a_chosen v7 a_felt a_own a_share a_rest a_left a_tried v_signs v_lines v_most k_a_chosen f6 k_a_tried f14 (iv.m (by omega)) H.size) (cwV 2 hts gX0_place_X0_place rfl rfl rfl (by decide +kernel) ⟨Nat.le_of_ble_eq_true rfl, Nat.le_of_ble_eq_true rfl⟩) ⟨fun a U g mk q => by obtain ⟨q0, q1, qP, qK, qD⟩ := q; exact ⟨q0, q1, qP, va_K.moved (u := U) (U := U.calling g mk a) (Vm.Alike.refl U.vm) qK, qD⟩, va_recv hKc hPc (ci := 0) (q0 := 0) rfl rfl, fun U hU hW => ⟨rfl, by rw [hU], by rw [hU]; exact hPc, va_K.moved hW.alike hKc, hDc.weaken (fun _ _ _ _ => trivial)⟩⟩ rfl rfl hl.1 rfl (lv_room (Nat.le_of_ble_eq_true rfl)) dX0_place_155 ⟨Nat.le_of_ble_eq_true rfl, Nat.le_of_ble_eq_true rfl⟩) hS (fun q _ h => hFc q h) hFc (fun u t H1 locs ht hvm hw hB hz1 hk1 hS => ?_)
            obtain ⟨f22, hP1, hD1⟩ := hB
            rw [ht] at hP1
            obtain ⟨hP, hD⟩ := va_joinQ (X := [(a_chosen, .inl (k_a_chosen, 4, .inl f6)), (a_tried, .inl (k_a_tried, 4, .inl f14)), (a_rest, .inl (k_a_rest, 5, .inr (.inr (.inr (.inr (rows_of 5 R_a_rest)))))), (o, .inr (0, [.ref a_chosen, .int v7, .ref a_felt, .ref a_own, .ref a_share, .ref a_rest, .ref a_left, .ref a_tried, .int v_signs, .int v_lines, .int v_most])), (a_felt, .inl (k_a_felt, 21, .inl f_a_felt)), (a_own, .inl (k_a_own, 4, .inl f_a_own)), (a_share, .inl (k_a_share, 5, .inr (.inr (.inr (.inr (rows_of 5 R_a_share)))))), (a_left, .inl (k_a_left, 5, .inr (.inr (.inr (.inr (rows_of 5 R_a_left))))))]) (cx := [(o, .inr (0, [.ref a_chosen, .int v7, .ref a_felt, .ref a_own, .ref a_share, .ref a_rest, .ref a_left, .ref a_tried, .int v_signs, .int v_lines, .int v_most])), (a_chosen, .inl (k_a_chosen, 4, .inl f6)), (a_tried, .inl (k_a_tried, 4, .inl f14))]) (wr := [(a_rest, .inl (k_a_rest, 5, .inr (.inr (.inr (.inr (rows_of 5 R_a_rest)))))), (a_felt, .inl (k_a_felt, 21, .inl f_a_felt)), (a_own, .inl (k_a_own, 4, .inl f_a_own)), (a_share, .inl (k_a_share, 5, .inr (.inr (.inr (.inr (rows_of 5 R_a_share)))))), (a_left, .inl (k_a_left, 5, .inr (.inr (.inr (.inr (rows_of 5 R_a_left))))))]) (w1 := [(o, .inr (0, [.ref a_chosen, .int x12, .ref a_felt, .ref a_own, .ref a_share, .ref a_rest, .ref a_left, .ref a_tried, .int v_signs, .int v_lines, .int v_most])), (a_chosen, .inl (k_a_chosen, 4, .inl f22)), (a_tried, .inl (k_a_tried, 4, .inl f14))]) hP hD [3, 0, 1] [2, 4, 5, 6, 7] rfl rfl (by decide) (by decide) hk1 hFc hP1 hD1
            clear hPc hDc hKc hFc hP1 hD1 hk1 hz1
            generalize H1 = H at hP hS ⊢
            have hP : va_P (dC, dI) vwCl ([(a_rest, .inl (k_a_rest, 5, .inr (.inr (.inr (.inr (rows_of 5 R_a_rest)))))), (a_felt, .inl (k_a_felt, 21, .inl f_a_felt)), (a_own, .inl (k_a_own, 4, .inl f_a_own)), (a_share, .inl (k_a_share, 5, .inr (.inr (.inr (.inr (rows_of 5 R_a_share)))))), (a_left, .inl (k_a_left, 5, .inr (.inr (.inr (.inr (rows_of 5 R_a_left)))))), (o, .inr (0, [.ref a_chosen, .int x12, .ref a_felt, .ref a_own, .ref a_share, .ref a_rest, .ref a_left, .ref a_tried, .int v_signs, .int v_lines, .int v_most])), (a_chosen, .inl (k_a_chosen, 4, .inl f22)), (a_tried, .inl (k_a_tried, 4, .inl f14))] ++ va_pl LP f16) H := hP
            have hD : va_D A ([(a_rest, .inl (k_a_rest, 5, .inr (.inr (.inr (.inr (rows_of 5 R_a_rest)))))), (a_felt, .inl (k_a_felt, 21, .inl f_a_felt)), (a_own, .inl (k_a_own, 4, .inl f_a_own)), (a_share, .inl (k_a_share, 5, .inr (.inr (.inr (.inr (rows_of 5 R_a_share)))))), (a_left, .inl (k_a_left, 5, .inr (.inr (.inr (.inr (rows_of 5 R_a_left)))))), (o, .inr (0, [.ref a_chosen, .int x12, .ref a_felt, .ref a_own, .ref a_share, .ref a_rest, .ref a_left, .ref a_tried, .int v_signs, .int v_lines, .int v_most])), (a_chosen, .inl (k_a_chosen, 4, .inl f22)), (a_tried, .inl (k_a_tried, 4, .inl f14))] ++ va_pl LP f16) := hD
            refine W.widen (k := 0) (n := 0) (by decide) (by decide) ?_
            obtain ⟨x23, ex23⟩ : ∃ z : Int32, v4 + Int32.ofInt 1 = z := ⟨_, rfl⟩
            have tx23 := i32_inc ex23 rfl (by decide) (by omega) (by omega)
            refine lv_iinc (v := x23) (lv' := [(4, .int x23), (6, .int v15), (5, .int x12), (3, .int r2), (0, .ref o), (1, .int 3), (2, .int p1)]) hx hb dX0_place_158 hl (k := 2) rfl ex23 (by decide) rfl (fun ls hl => ?_)
            refine lv_goto (tgt := 44) hx hb dX0_place_161 (by decide) ?_
            exact ih44 _ _ _ _ (by omega) ⟨x23, f14, f22, x12, f16, rfl, (iv.m (by omega)), hf16, hP.part [6, 7, 2, 5, 1, 3, 0, 4] rfl, hD.part [6, 7, 2, 5, 1, 3, 0, 4] (by decide) rfl, hS, lv_sub hl [0, 3, 4, 5, 6] rfl⟩
        · have c179 := i32_nle c17 rfl rfl
          refine lv_aload_n hx hb dX0_place_93 rfl (lv_at hl 4 rfl) ?_
          refine va_get (D := (dC, dI)) (ci := 0) (v := .ref a_left) (C := RX0) (T := TX0) (N := 11) hx hb hts iw_X0_place_X0 hown hK hP 3 rfl rfl 6 (by decide) (hts _ kk_X0_place_10) (fun _ h9 => h9) rfl dX0_place_94 ?_
          refine lv_iload_n hx hb dX0_place_97 rfl (lv_at hl 5 rfl) ?_
          refine lv_iconst (v := 1) hx hb dX0_place_98 (by decide) ?_
          refine lv_iadd hx hb dX0_place_99 ?_
          refine px_i (v := 4) (by decide) ?_
          have hinrw24 : vp_in 4 5 := (vq_in 4 5 (by decide))
          refine va_aldA hx hb hK hP 7 5 rfl rfl hinrw24 dX0_place_100 ?_
          refine px_v (row_sel hinrw24) ?_
          obtain ⟨rw24, erw24⟩ : ∃ z : Nat, z = R_a_left (Int32.toNatClampNeg 4) := ⟨_, rfl⟩
          rw [← erw24]
          have mrw24 : rw24 ∈ LP ∧ sh rw24 = 5 := by rw [erw24]; exact hRR_a_left _ (vin_lt hinrw24)
          refine lv_iload hx hb dX0_place_101 (lv_at hl 0 rfl) ?_
          refine lv_aload_n hx hb dX0_place_103 rfl (lv_at hl 4 rfl) ?_
          refine va_get (D := (dC, dI)) (ci := 0) (v := .ref a_left) (C := RX0) (T := TX0) (N := 11) hx hb hts iw_X0_place_X0 hown hK hP 3 rfl rfl 6 (by decide) (hts _ kk_X0_place_10) (fun _ h9 => h9) rfl dX0_place_104 ?_
          refine lv_iload_n hx hb dX0_place_107 rfl (lv_at hl 5 rfl) ?_
          have hinrw25 : vp_in 3 5 := (vq_in 3 5 (by decide))
          refine va_aldA hx hb hK hP 7 5 rfl rfl hinrw25 dX0_place_108 ?_
          refine px_v (row_sel hinrw25) ?_
          obtain ⟨rw25, erw25⟩ : ∃ z : Nat, z = R_a_left (Int32.toNatClampNeg 3) := ⟨_, rfl⟩
          rw [← erw25]
          have mrw25 : rw25 ∈ LP ∧ sh rw25 = 5 := by rw [erw25]; exact hRR_a_left _ (vin_lt hinrw25)
          refine lv_iload hx hb dX0_place_109 (lv_at hl 0 rfl) ?_
          obtain ⟨gk26, hgk26⟩ := pok_5 (hf16) mrw25
          obtain ⟨kk27, hkk27⟩ := va_pl_get (X := [(a_chosen, .inl (k_a_chosen, 4, .inl f6)), (a_tried, .inl (k_a_tried, 4, .inl f14)), (a_own, .inl (k_a_own, 4, .inl f_a_own)), (o, .inr (0, [.ref a_chosen, .int v7, .ref a_felt, .ref a_own, .ref a_share, .ref a_rest, .ref a_left, .ref a_tried, .int v_signs, .int v_lines, .int v_most])), (a_felt, .inl (k_a_felt, 21, .inl f_a_felt)), (a_share, .inl (k_a_share, 5, .inr (.inr (.inr (.inr (rows_of 5 R_a_share)))))), (a_rest, .inl (k_a_rest, 5, .inr (.inr (.inr (.inr (rows_of 5 R_a_rest)))))), (a_left, .inl (k_a_left, 5, .inr (.inr (.inr (.inr (rows_of 5 R_a_left))))))]) (f := f16) mrw25.1
          have qkk27 := hkk27
          rw [hgk26] at qkk27
          refine va_iald hx hb hK hP kk27 7 qkk27 rfl (vq_in v15 5 (by omega)) dX0_place_111 ?_
          refine lv_topi (fun x28 ex28 => ?_)
          refine lv_aload_n hx hb dX0_place_112 rfl (lv_at hl 4 rfl) ?_
          refine va_get (D := (dC, dI)) (ci := 0) (v := .ref a_share) (C := RX0) (T := TX0) (N := 11) hx hb hts iw_X0_place_X0 hown hK hP 3 rfl rfl 4 (by decide) (hts _ kk_X0_place_11) (fun _ h9 => h9) rfl dX0_place_113 ?_
          refine lv_iload hx hb dX0_place_116 (lv_at hl 0 rfl) ?_
          have hinrw29 : vp_in v15 5 := (vq_in v15 5 (by omega))
          refine va_aldA hx hb hK hP 5 3 rfl rfl hinrw29 dX0_place_118 ?_
          refine px_v (row_sel hinrw29) ?_
          obtain ⟨rw29, erw29⟩ : ∃ z : Nat, z = R_a_share (Int32.toNatClampNeg v15) := ⟨_, rfl⟩
          rw [← erw29]
          have mrw29 : rw29 ∈ LP ∧ sh rw29 = 4 := by rw [erw29]; exact hRR_a_share _ (vin_lt hinrw29)
          refine lv_iload_n hx hb dX0_place_119 rfl (lv_at hl 5 rfl) ?_
          obtain ⟨gk30, hgk30⟩ := pok_4 (hf16) mrw29
          obtain ⟨kk31, hkk31⟩ := va_pl_get (X := [(a_chosen, .inl (k_a_chosen, 4, .inl f6)), (a_tried, .inl (k_a_tried, 4, .inl f14)), (a_own, .inl (k_a_own, 4, .inl f_a_own)), (o, .inr (0, [.ref a_chosen, .int v7, .ref a_felt, .ref a_own, .ref a_share, .ref a_rest, .ref a_left, .ref a_tried, .int v_signs, .int v_lines, .int v_most])), (a_felt, .inl (k_a_felt, 21, .inl f_a_felt)), (a_share, .inl (k_a_share, 5, .inr (.inr (.inr (.inr (rows_of 5 R_a_share)))))), (a_rest, .inl (k_a_rest, 5, .inr (.inr (.inr (.inr (rows_of 5 R_a_rest)))))), (a_left, .inl (k_a_left, 5, .inr (.inr (.inr (.inr (rows_of 5 R_a_left))))))]) (f := f16) mrw29.1
          have qkk31 := hkk31
          rw [hgk30] at qkk31
          refine va_iald hx hb hK hP kk31 7 qkk31 rfl (vq_in 3 4 (by decide)) dX0_place_120 ?_
          refine lv_topi (fun x32 ex32 => ?_)
          refine lv_aload_n hx hb dX0_place_121 rfl (lv_at hl 4 rfl) ?_
          refine va_get (D := (dC, dI)) (ci := 0) (v := .ref a_felt) (C := RX0) (T := TX0) (N := 11) hx hb hts iw_X0_place_X0 hown hK hP 3 rfl rfl 2 (by decide) (hts _ kk_X0_place_12) (fun _ h9 => h9) rfl dX0_place_122 ?_
          refine lv_iload hx hb dX0_place_125 (lv_at hl 2 rfl) ?_
          refine va_iald hx hb hK hP 4 1 rfl rfl (vq_in v4 21 (by omega)) dX0_place_127 ?_
          refine lv_topi (fun x33 ex33 => ?_)
          refine lv_imul hx hb dX0_place_128 ?_
          refine lv_topi (fun x34 ex34 => ?_)
          refine lv_isub hx hb dX0_place_129 ?_
          refine lv_topi (fun x35 ex35 => ?_)
          obtain ⟨gk36, hgk36⟩ := pok_5 (hf16) mrw24
          obtain ⟨kk37, hkk37⟩ := va_pl_get (X := [(a_chosen, .inl (k_a_chosen, 4, .inl f6)), (a_tried, .inl (k_a_tried, 4, .inl f14)), (a_own, .inl (k_a_own, 4, .inl f_a_own)), (o, .inr (0, [.ref a_chosen, .int v7, .ref a_felt, .ref a_own, .ref a_share, .ref a_rest, .ref a_left, .ref a_tried, .int v_signs, .int v_lines, .int v_most])), (a_felt, .inl (k_a_felt, 21, .inl f_a_felt)), (a_share, .inl (k_a_share, 5, .inr (.inr (.inr (.inr (rows_of 5 R_a_share)))))), (a_rest, .inl (k_a_rest, 5, .inr (.inr (.inr (.inr (rows_of 5 R_a_rest)))))), (a_left, .inl (k_a_left, 5, .inr (.inr (.inr (.inr (rows_of 5 R_a_left))))))]) (f := f16) mrw24.1
          have qkk37 := hkk37
          rw [hgk36] at qkk37
          have hDo := hD
          refine va_iast hx hb hK hP hD hS kk37 7 qkk37 rfl (vq_in v15 5 (by omega)) dX0_place_130 (fun H locs hP hD hS => ?_)
          rw [va_pl_set hDo mrw24.1 hkk37] at hP hD
          have hfp38 := pok_up5 hf16 mrw24 (Int32.toNatClampNeg v15) x35 gk36
          generalize va_up f16 rw24 _ = fp38 at hP hD hfp38
          have hP : va_P (dC, dI) vwCl ([(a_chosen, .inl (k_a_chosen, 4, .inl f6)), (a_tried, .inl (k_a_tried, 4, .inl f14)), (a_own, .inl (k_a_own, 4, .inl f_a_own)), (o, .inr (0, [.ref a_chosen, .int v7, .ref a_felt, .ref a_own, .ref a_share, .ref a_rest, .ref a_left, .ref a_tried, .int v_signs, .int v_lines, .int v_most])), (a_felt, .inl (k_a_felt, 21, .inl f_a_felt)), (a_share, .inl (k_a_share, 5, .inr (.inr (.inr (.inr (rows_of 5 R_a_share)))))), (a_rest, .inl (k_a_rest, 5, .inr (.inr (.inr (.inr (rows_of 5 R_a_rest)))))), (a_left, .inl (k_a_left, 5, .inr (.inr (.inr (.inr (rows_of 5 R_a_left))))))] ++ va_pl LP fp38) H := hP
          have hD : va_D A ([(a_chosen, .inl (k_a_chosen, 4, .inl f6)), (a_tried, .inl (k_a_tried, 4, .inl f14)), (a_own, .inl (k_a_own, 4, .inl f_a_own)), (o, .inr (0, [.ref a_chosen, .int v7, .ref a_felt, .ref a_own, .ref a_share, .ref a_rest, .ref a_left, .ref a_tried, .int v_signs, .int v_lines, .int v_most])), (a_felt, .inl (k_a_felt, 21, .inl f_a_felt)), (a_share, .inl (k_a_share, 5, .inr (.inr (.inr (.inr (rows_of 5 R_a_share)))))), (a_rest, .inl (k_a_rest, 5, .inr (.inr (.inr (.inr (rows_of 5 R_a_rest)))))), (a_left, .inl (k_a_left, 5, .inr (.inr (.inr (.inr (rows_of 5 R_a_left))))))] ++ va_pl LP fp38) := hD
          obtain ⟨x39, ex39⟩ : ∃ z : Int32, v15 + Int32.ofInt 1 = z := ⟨_, rfl⟩
          have tx39 := i32_inc ex39 rfl (by decide) (by omega) (by omega)
          refine lv_iinc (v := x39) (lv' := [(6, .int x39), (5, .int x12), (4, .int v4), (3, .int r2), (0, .ref o), (1, .int 3), (2, .int p1)]) hx hb dX0_place_131 hl (k := 0) rfl ex39 (by decide) rfl (fun ls hl => ?_)
          refine lv_goto (tgt := 84) hx hb dX0_place_134 (by decide) ?_
          exact ih84 _ _ _ _ (by omega) ⟨x39, fp38, rfl, (iv.m (by omega)), hfp38, hP, hD, hS, lv_sub hl [0, 1, 2, 3, 4, 5, 6] rfl⟩
      · have c139 := i32_nlt c13 rfl rfl
        have hP9 := hP.part (cx := [(o, .inr (0, [.ref a_chosen, .int v7, .ref a_felt, .ref a_own, .ref a_share, .ref a_rest, .ref a_left, .ref a_tried, .int v_signs, .int v_lines, .int v_most])), (a_chosen, .inl (k_a_chosen, 4, .inl f6)), (a_felt, .inl (k_a_felt, 21, .inl f_a_felt)), (a_own, .inl (k_a_own, 4, .inl f_a_own)), (a_share, .inl (k_a_share, 5, .inr (.inr (.inr (.inr (rows_of 5 R_a_share)))))), (a_rest, .inl (k_a_rest, 5, .inr (.inr (.inr (.inr (rows_of 5 R_a_rest)))))), (a_left, .inl (k_a_left, 5, .inr (.inr (.inr (.inr (rows_of 5 R_a_left)))))), (a_tried, .inl (k_a_tried, 4, .inl f5))]) [3, 0, 4, 2, 5, 6, 7, 1] rfl
        have hD9 := hD.part (cx := [(o, .inr (0, [.ref a_chosen, .int v7, .ref a_felt, .ref a_own, .ref a_share, .ref a_rest, .ref a_left, .ref a_tried, .int v_signs, .int v_lines, .int v_most])), (a_chosen, .inl (k_a_chosen, 4, .inl f6)), (a_felt, .inl (k_a_felt, 21, .inl f_a_felt)), (a_own, .inl (k_a_own, 4, .inl f_a_own)), (a_share, .inl (k_a_share, 5, .inr (.inr (.inr (.inr (rows_of 5 R_a_share)))))), (a_rest, .inl (k_a_rest, 5, .inr (.inr (.inr (.inr (rows_of 5 R_a_rest)))))), (a_left, .inl (k_a_left, 5, .inr (.inr (.inr (.inr (rows_of 5 R_a_left)))))), (a_tried, .inl (k_a_tried, 4, .inl f5))]) [3, 0, 4, 2, 5, 6, 7, 1] (by decide) rfl
        exact W.vret hx hb hr (fun t ht hW => ⟨⟨(), rfl, trivial, v7, f6, f5, f8, hf8, by rw [ht]; exact hP9, hD9⟩, hS.F ht⟩) hS.2.2 dX0_place_72
  · have c19 := i32_nlt c1 (show (3 : Int32).toInt = 3 by decide) rfl
    refine lv_aload_n hx hb dX0_place_8 rfl (lv_at hl 0 rfl) ?_
    refine lv_iload_n hx hb dX0_place_9 rfl (lv_at hl 2 rfl) ?_
    refine va_put (D := (dC, dI)) (ci := 0) (v := .int p1) (ty := .int) (C := RX0) (T := TX0) (N := 11) hx hb hts iw_X0_place_X0 tyX0 tyX0_ok nmX0 hown hK hP hD hS 0 rfl rfl 1 (by decide) (hts _ kk_X0_place_2) (fun _ h9 => h9) rfl (by decide +kernel) rfl rfl (Nat.le_of_ble_eq_true rfl) dX0_place_10 (fun H locs hP hD hS => ?_)
    have hP : va_P (dC, dI) vwCl ([(o, .inr (0, [.ref a_chosen, .int p1, .ref a_felt, .ref a_own, .ref a_share, .ref a_rest, .ref a_left, .ref a_tried, .int v_signs, .int v_lines, .int v_most])), (a_chosen, .inl (k_a_chosen, 4, .inl f_a_chosen)), (a_felt, .inl (k_a_felt, 21, .inl f_a_felt)), (a_own, .inl (k_a_own, 4, .inl f_a_own)), (a_share, .inl (k_a_share, 5, .inr (.inr (.inr (.inr (rows_of 5 R_a_share)))))), (a_rest, .inl (k_a_rest, 5, .inr (.inr (.inr (.inr (rows_of 5 R_a_rest)))))), (a_left, .inl (k_a_left, 5, .inr (.inr (.inr (.inr (rows_of 5 R_a_left)))))), (a_tried, .inl (k_a_tried, 4, .inl f_a_tried))] ++ va_pl LP fp) H := hP
    have hD : va_D A ([(o, .inr (0, [.ref a_chosen, .int p1, .ref a_felt, .ref a_own, .ref a_share, .ref a_rest, .ref a_left, .ref a_tried, .int v_signs, .int v_lines, .int v_most])), (a_chosen, .inl (k_a_chosen, 4, .inl f_a_chosen)), (a_felt, .inl (k_a_felt, 21, .inl f_a_felt)), (a_own, .inl (k_a_own, 4, .inl f_a_own)), (a_share, .inl (k_a_share, 5, .inr (.inr (.inr (.inr (rows_of 5 R_a_share)))))), (a_rest, .inl (k_a_rest, 5, .inr (.inr (.inr (.inr (rows_of 5 R_a_rest)))))), (a_left, .inl (k_a_left, 5, .inr (.inr (.inr (.inr (rows_of 5 R_a_left)))))), (a_tried, .inl (k_a_tried, 4, .inl f_a_tried))] ++ va_pl LP fp) := hD
    refine lv_aload_n hx hb dX0_place_13 rfl (lv_at hl 0 rfl) ?_
    refine va_get (D := (dC, dI)) (ci := 0) (v := .ref a_tried) (C := RX0) (T := TX0) (N := 11) hx hb hts iw_X0_place_X0 hown hK hP 0 rfl rfl 7 (by decide) (hts _ kk_X0_place_3) (fun _ h9 => h9) rfl dX0_place_14 ?_
    refine lv_iconst (v := 0) hx hb dX0_place_17 (by decide) ?_
    refine lv_aload_n hx hb dX0_place_18 rfl (lv_at hl 0 rfl) ?_
    refine va_get (D := (dC, dI)) (ci := 0) (v := .ref a_chosen) (C := RX0) (T := TX0) (N := 11) hx hb hts iw_X0_place_X0 hown hK hP 0 rfl rfl 0 (by decide) (hts _ kk_X0_place_5) (fun _ h9 => h9) rfl dX0_place_19 ?_
    refine lv_iconst (v := 0) hx hb dX0_place_22 (by decide) ?_
    refine lv_aload_n hx hb dX0_place_23 rfl (lv_at hl 0 rfl) ?_
    refine va_get (D := (dC, dI)) (ci := 0) (v := .int v_signs) (C := RX0) (T := TX0) (N := 11) hx hb hts iw_X0_place_X0 hown hK hP 0 rfl rfl 8 (by decide) (hts _ kk_X0_place_0) (fun _ h9 => h9) rfl dX0_place_24 ?_
    have hcl : Int32.toNatClampNeg v_signs ≤ 4 := i32_cl v_signs (by omega)
    refine va_copyi hx hb (by rw [hml]; exact hl.1.symm) hown (hts _ kk_X0_place_6) (hts _ kk_X0_place_7) (hts _ kk_X0_place_8) (hts _ kk_X0_place_9) hK hP hD hS 7 1 6 0 rfl rfl rfl rfl rfl (by decide) (by decide) (i32_nn (by omega)) (by rw [show Int32.toNatClampNeg 0 = 0 by decide]; omega) (by rw [show Int32.toNatClampNeg 0 = 0 by decide]; omega) (fun _ _ => rfl) (Nat.le_of_ble_eq_true rfl) (Nat.le_of_ble_eq_true rfl) dX0_place_27 (fun H locs hP hD hS => ?_)
    have hP : va_P (dC, dI) vwCl ([(o, .inr (0, [.ref a_chosen, .int p1, .ref a_felt, .ref a_own, .ref a_share, .ref a_rest, .ref a_left, .ref a_tried, .int v_signs, .int v_lines, .int v_most])), (a_chosen, .inl (k_a_chosen, 4, .inl (va_cpy f_a_tried f_a_chosen (Int32.toNatClampNeg 0) (Int32.toNatClampNeg 0) (Int32.toNatClampNeg v_signs)))), (a_felt, .inl (k_a_felt, 21, .inl f_a_felt)), (a_own, .inl (k_a_own, 4, .inl f_a_own)), (a_share, .inl (k_a_share, 5, .inr (.inr (.inr (.inr (rows_of 5 R_a_share)))))), (a_rest, .inl (k_a_rest, 5, .inr (.inr (.inr (.inr (rows_of 5 R_a_rest)))))), (a_left, .inl (k_a_left, 5, .inr (.inr (.inr (.inr (rows_of 5 R_a_left)))))), (a_tried, .inl (k_a_tried, 4, .inl f_a_tried))] ++ va_pl LP fp) H := hP
    have hD : va_D A ([(o, .inr (0, [.ref a_chosen, .int p1, .ref a_felt, .ref a_own, .ref a_share, .ref a_rest, .ref a_left, .ref a_tried, .int v_signs, .int v_lines, .int v_most])), (a_chosen, .inl (k_a_chosen, 4, .inl (va_cpy f_a_tried f_a_chosen (Int32.toNatClampNeg 0) (Int32.toNatClampNeg 0) (Int32.toNatClampNeg v_signs)))), (a_felt, .inl (k_a_felt, 21, .inl f_a_felt)), (a_own, .inl (k_a_own, 4, .inl f_a_own)), (a_share, .inl (k_a_share, 5, .inr (.inr (.inr (.inr (rows_of 5 R_a_share)))))), (a_rest, .inl (k_a_rest, 5, .inr (.inr (.inr (.inr (rows_of 5 R_a_rest)))))), (a_left, .inl (k_a_left, 5, .inr (.inr (.inr (.inr (rows_of 5 R_a_left)))))), (a_tried, .inl (k_a_tried, 4, .inl f_a_tried))] ++ va_pl LP fp) := hD
    generalize va_cpy f_a_tried f_a_chosen (Int32.toNatClampNeg 0) (Int32.toNatClampNeg 0) (Int32.toNatClampNeg v_signs) = f40 at hP hD
    have hP : va_P (dC, dI) vwCl ([(o, .inr (0, [.ref a_chosen, .int p1, .ref a_felt, .ref a_own, .ref a_share, .ref a_rest, .ref a_left, .ref a_tried, .int v_signs, .int v_lines, .int v_most])), (a_chosen, .inl (k_a_chosen, 4, .inl f40)), (a_felt, .inl (k_a_felt, 21, .inl f_a_felt)), (a_own, .inl (k_a_own, 4, .inl f_a_own)), (a_share, .inl (k_a_share, 5, .inr (.inr (.inr (.inr (rows_of 5 R_a_share)))))), (a_rest, .inl (k_a_rest, 5, .inr (.inr (.inr (.inr (rows_of 5 R_a_rest)))))), (a_left, .inl (k_a_left, 5, .inr (.inr (.inr (.inr (rows_of 5 R_a_left)))))), (a_tried, .inl (k_a_tried, 4, .inl f_a_tried))] ++ va_pl LP fp) H := hP
    have hD : va_D A ([(o, .inr (0, [.ref a_chosen, .int p1, .ref a_felt, .ref a_own, .ref a_share, .ref a_rest, .ref a_left, .ref a_tried, .int v_signs, .int v_lines, .int v_most])), (a_chosen, .inl (k_a_chosen, 4, .inl f40)), (a_felt, .inl (k_a_felt, 21, .inl f_a_felt)), (a_own, .inl (k_a_own, 4, .inl f_a_own)), (a_share, .inl (k_a_share, 5, .inr (.inr (.inr (.inr (rows_of 5 R_a_share)))))), (a_rest, .inl (k_a_rest, 5, .inr (.inr (.inr (.inr (rows_of 5 R_a_rest)))))), (a_left, .inl (k_a_left, 5, .inr (.inr (.inr (.inr (rows_of 5 R_a_left)))))), (a_tried, .inl (k_a_tried, 4, .inl f_a_tried))] ++ va_pl LP fp) := hD
    have hP9 := hP.part (cx := [(o, .inr (0, [.ref a_chosen, .int p1, .ref a_felt, .ref a_own, .ref a_share, .ref a_rest, .ref a_left, .ref a_tried, .int v_signs, .int v_lines, .int v_most])), (a_chosen, .inl (k_a_chosen, 4, .inl f40)), (a_felt, .inl (k_a_felt, 21, .inl f_a_felt)), (a_own, .inl (k_a_own, 4, .inl f_a_own)), (a_share, .inl (k_a_share, 5, .inr (.inr (.inr (.inr (rows_of 5 R_a_share)))))), (a_rest, .inl (k_a_rest, 5, .inr (.inr (.inr (.inr (rows_of 5 R_a_rest)))))), (a_left, .inl (k_a_left, 5, .inr (.inr (.inr (.inr (rows_of 5 R_a_left)))))), (a_tried, .inl (k_a_tried, 4, .inl f_a_tried))]) [0, 1, 2, 3, 4, 5, 6, 7] rfl
    have hD9 := hD.part (cx := [(o, .inr (0, [.ref a_chosen, .int p1, .ref a_felt, .ref a_own, .ref a_share, .ref a_rest, .ref a_left, .ref a_tried, .int v_signs, .int v_lines, .int v_most])), (a_chosen, .inl (k_a_chosen, 4, .inl f40)), (a_felt, .inl (k_a_felt, 21, .inl f_a_felt)), (a_own, .inl (k_a_own, 4, .inl f_a_own)), (a_share, .inl (k_a_share, 5, .inr (.inr (.inr (.inr (rows_of 5 R_a_share)))))), (a_rest, .inl (k_a_rest, 5, .inr (.inr (.inr (.inr (rows_of 5 R_a_rest)))))), (a_left, .inl (k_a_left, 5, .inr (.inr (.inr (.inr (rows_of 5 R_a_left)))))), (a_tried, .inl (k_a_tried, 4, .inl f_a_tried))]) [0, 1, 2, 3, 4, 5, 6, 7] (by decide) rfl
    exact W.vret hx hb hr (fun t ht hW => ⟨⟨(), rfl, trivial, p1, f40, f_a_tried, fp, hfp, by rw [ht]; exact hP9, hD9⟩, hS.F ht⟩) hS.2.2 dX0_place_30

set_option maxHeartbeats 4000000 in
set_option maxRecDepth 100000 in
theorem ct_X0_place_L2 (l : Launch) (dC : Nat → ClassId) (dI : Nat → Nat → Nat) (o : Nat) (p1 : Int32) (a_chosen : Nat) (v_bestCost : Int32) (a_felt : Nat) (a_own : Nat) (a_share : Nat) (a_rest : Nat) (a_left : Nat) (a_tried : Nat) (v_signs : Int32) (v_lines : Int32) (v_most : Int32) (k_a_chosen : ClassId) (f_a_chosen : Nat → Int32) (k_a_felt : ClassId) (f_a_felt : Nat → Int32) (k_a_own : ClassId) (f_a_own : Nat → Int32) (k_a_share : ClassId) (R_a_share : Nat → Nat) (k_a_rest : ClassId) (R_a_rest : Nat → Nat) (k_a_left : ClassId) (R_a_left : Nat → Nat) (k_a_tried : ClassId) (f_a_tried : Nat → Int32) (LP : List Nat) (sh : Nat → Nat) (fp : Nat → va_E) (cI : ClassId) (cJ : ClassId) (hv_signs : iv v_signs 0 4) (hv_lines : iv v_lines 0 5) (hv_most : iv v_most 0 20) (hfp : pok cI cJ LP sh fp) (hRR_a_share : ∀ i : Nat, i < 5 → R_a_share i ∈ LP ∧ sh (R_a_share i) = 4) (hRR_a_rest : ∀ i : Nat, i < 5 → R_a_rest i ∈ LP ∧ sh (R_a_rest i) = 5) (hRR_a_left : ∀ i : Nat, i < 5 → R_a_left i ∈ LP ∧ sh (R_a_left i) = 5) (sz : Nat) : Met l yX0_place wsX0_place ({ frames := 3, cells := 0, slots := 0, locals := 112 }) (va_Pc [.ref o, .int 2, .int p1] (fun U => U.heap.size = sz ∧ va_P (dC, dI) vwCl ([(o, .inr (0, [.ref a_chosen, .int v_bestCost, .ref a_felt, .ref a_own, .ref a_share, .ref a_rest, .ref a_left, .ref a_tried, .int v_signs, .int v_lines, .int v_most])), (a_chosen, .inl (k_a_chosen, 4, .inl f_a_chosen)), (a_felt, .inl (k_a_felt, 21, .inl f_a_felt)), (a_own, .inl (k_a_own, 4, .inl f_a_own)), (a_share, .inl (k_a_share, 5, .inr (.inr (.inr (.inr (rows_of 5 R_a_share)))))), (a_rest, .inl (k_a_rest, 5, .inr (.inr (.inr (.inr (rows_of 5 R_a_rest)))))), (a_left, .inl (k_a_left, 5, .inr (.inr (.inr (.inr (rows_of 5 R_a_left)))))), (a_tried, .inl (k_a_tried, 4, .inl f_a_tried))] ++ va_pl LP fp) U.heap ∧ va_K (dC, dI) vwCl [(k_a_chosen, .int), (k_a_felt, .int), (k_a_own, .int), (k_a_share, (.array .int)), (k_a_rest, (.array .int)), (k_a_left, (.array .int)), (k_a_tried, .int), (cI, .int), (cJ, .long)] U ∧ va_D (fun _ => True) ([(o, .inr (0, [.ref a_chosen, .int v_bestCost, .ref a_felt, .ref a_own, .ref a_share, .ref a_rest, .ref a_left, .ref a_tried, .int v_signs, .int v_lines, .int v_most])), (a_chosen, .inl (k_a_chosen, 4, .inl f_a_chosen)), (a_felt, .inl (k_a_felt, 21, .inl f_a_felt)), (a_own, .inl (k_a_own, 4, .inl f_a_own)), (a_share, .inl (k_a_share, 5, .inr (.inr (.inr (.inr (rows_of 5 R_a_share)))))), (a_rest, .inl (k_a_rest, 5, .inr (.inr (.inr (.inr (rows_of 5 R_a_rest)))))), (a_left, .inl (k_a_left, 5, .inr (.inr (.inr (.inr (rows_of 5 R_a_left)))))), (a_tried, .inl (k_a_tried, 4, .inl f_a_tried))] ++ va_pl LP fp))) (va_Qv (fun _ : Unit => True) (fun _ t => ∃ (e_v_bestCost : Int32) (e_f_a_chosen : Nat → Int32) (e_f_a_tried : Nat → Int32) (e_fp : Nat → va_E), pok cI cJ LP sh e_fp ∧ va_P (dC, dI) vwCl ([(o, .inr (0, [.ref a_chosen, .int e_v_bestCost, .ref a_felt, .ref a_own, .ref a_share, .ref a_rest, .ref a_left, .ref a_tried, .int v_signs, .int v_lines, .int v_most])), (a_chosen, .inl (k_a_chosen, 4, .inl e_f_a_chosen)), (a_felt, .inl (k_a_felt, 21, .inl f_a_felt)), (a_own, .inl (k_a_own, 4, .inl f_a_own)), (a_share, .inl (k_a_share, 5, .inr (.inr (.inr (.inr (rows_of 5 R_a_share)))))), (a_rest, .inl (k_a_rest, 5, .inr (.inr (.inr (.inr (rows_of 5 R_a_rest)))))), (a_left, .inl (k_a_left, 5, .inr (.inr (.inr (.inr (rows_of 5 R_a_left)))))), (a_tried, .inl (k_a_tried, 4, .inl e_f_a_tried))] ++ va_pl LP e_fp) t.heap ∧ va_D (va_A ([(o, .inr (0, [.ref a_chosen, .int v_bestCost, .ref a_felt, .ref a_own, .ref a_share, .ref a_rest, .ref a_left, .ref a_tried, .int v_signs, .int v_lines, .int v_most])), (a_chosen, .inl (k_a_chosen, 4, .inl f_a_chosen)), (a_felt, .inl (k_a_felt, 21, .inl f_a_felt)), (a_own, .inl (k_a_own, 4, .inl f_a_own)), (a_share, .inl (k_a_share, 5, .inr (.inr (.inr (.inr (rows_of 5 R_a_share)))))), (a_rest, .inl (k_a_rest, 5, .inr (.inr (.inr (.inr (rows_of 5 R_a_rest)))))), (a_left, .inl (k_a_left, 5, .inr (.inr (.inr (.inr (rows_of 5 R_a_left)))))), (a_tried, .inl (k_a_tried, 4, .inl f_a_tried))] ++ va_pl LP fp) sz) ([(o, .inr (0, [.ref a_chosen, .int e_v_bestCost, .ref a_felt, .ref a_own, .ref a_share, .ref a_rest, .ref a_left, .ref a_tried, .int v_signs, .int v_lines, .int v_most])), (a_chosen, .inl (k_a_chosen, 4, .inl e_f_a_chosen)), (a_felt, .inl (k_a_felt, 21, .inl f_a_felt)), (a_own, .inl (k_a_own, 4, .inl f_a_own)), (a_share, .inl (k_a_share, 5, .inr (.inr (.inr (.inr (rows_of 5 R_a_share)))))), (a_rest, .inl (k_a_rest, 5, .inr (.inr (.inr (.inr (rows_of 5 R_a_rest)))))), (a_left, .inl (k_a_left, 5, .inr (.inr (.inr (.inr (rows_of 5 R_a_left)))))), (a_tried, .inl (k_a_tried, 4, .inl e_f_a_tried))] ++ va_pl LP e_fp)) (va_A ([(o, .inr (0, [.ref a_chosen, .int v_bestCost, .ref a_felt, .ref a_own, .ref a_share, .ref a_rest, .ref a_left, .ref a_tried, .int v_signs, .int v_lines, .int v_most])), (a_chosen, .inl (k_a_chosen, 4, .inl f_a_chosen)), (a_felt, .inl (k_a_felt, 21, .inl f_a_felt)), (a_own, .inl (k_a_own, 4, .inl f_a_own)), (a_share, .inl (k_a_share, 5, .inr (.inr (.inr (.inr (rows_of 5 R_a_share)))))), (a_rest, .inl (k_a_rest, 5, .inr (.inr (.inr (.inr (rows_of 5 R_a_rest)))))), (a_left, .inl (k_a_left, 5, .inr (.inr (.inr (.inr (rows_of 5 R_a_left)))))), (a_tried, .inl (k_a_tried, 4, .inl f_a_tried))] ++ va_pl LP fp) sz)) 0 0 (va_A ([(o, .inr (0, [.ref a_chosen, .int v_bestCost, .ref a_felt, .ref a_own, .ref a_share, .ref a_rest, .ref a_left, .ref a_tried, .int v_signs, .int v_lines, .int v_most])), (a_chosen, .inl (k_a_chosen, 4, .inl f_a_chosen)), (a_felt, .inl (k_a_felt, 21, .inl f_a_felt)), (a_own, .inl (k_a_own, 4, .inl f_a_own)), (a_share, .inl (k_a_share, 5, .inr (.inr (.inr (.inr (rows_of 5 R_a_share)))))), (a_rest, .inl (k_a_rest, 5, .inr (.inr (.inr (.inr (rows_of 5 R_a_rest)))))), (a_left, .inl (k_a_left, 5, .inr (.inr (.inr (.inr (rows_of 5 R_a_left)))))), (a_tried, .inl (k_a_tried, 4, .inl f_a_tried))] ++ va_pl LP fp) sz) := by
  refine Met.ofW (cc := cX0_place) (maxL := 7) (ret := none) (by decide) rfl ?_
  intro p e s m args below meth c s₁ B hml hv
  obtain ⟨rfl, hsz, hP, hK, hD0⟩ := hv
  have hx := B.exec
  have hb := B.bytes
  have hr := B.returns
  have hts := atoms_spec (ws := wsX0_place) B.pre
  have hown : s.vm.findClass RX0 = some m.cls := findClass_of_methodNamed B.named
  have hlocks := B.notSynchronized
  subst hsz
  have hD := hD0.self (sz := s.heap.size)
  generalize hAe : va_A ([(o, .inr (0, [.ref a_chosen, .int v_bestCost, .ref a_felt, .ref a_own, .ref a_share, .ref a_rest, .ref a_left, .ref a_tried, .int v_signs, .int v_lines, .int v_most])), (a_chosen, .inl (k_a_chosen, 4, .inl f_a_chosen)), (a_felt, .inl (k_a_felt, 21, .inl f_a_felt)), (a_own, .inl (k_a_own, 4, .inl f_a_own)), (a_share, .inl (k_a_share, 5, .inr (.inr (.inr (.inr (rows_of 5 R_a_share)))))), (a_rest, .inl (k_a_rest, 5, .inr (.inr (.inr (.inr (rows_of 5 R_a_rest)))))), (a_left, .inl (k_a_left, 5, .inr (.inr (.inr (.inr (rows_of 5 R_a_left)))))), (a_tried, .inl (k_a_tried, 4, .inl f_a_tried))] ++ va_pl LP fp) s.heap.size = A at hD ⊢
  have hA : ∀ q : Nat, s.heap.size ≤ q → A q := fun q h => by rw [← hAe]; exact Or.inr h
  have hS : va_S A s.heap s.heap [] := va_S.rf
  have hP : va_P (dC, dI) vwCl ([(o, .inr (0, [.ref a_chosen, .int v_bestCost, .ref a_felt, .ref a_own, .ref a_share, .ref a_rest, .ref a_left, .ref a_tried, .int v_signs, .int v_lines, .int v_most])), (a_chosen, .inl (k_a_chosen, 4, .inl f_a_chosen)), (a_felt, .inl (k_a_felt, 21, .inl f_a_felt)), (a_own, .inl (k_a_own, 4, .inl f_a_own)), (a_share, .inl (k_a_share, 5, .inr (.inr (.inr (.inr (rows_of 5 R_a_share)))))), (a_rest, .inl (k_a_rest, 5, .inr (.inr (.inr (.inr (rows_of 5 R_a_rest)))))), (a_left, .inl (k_a_left, 5, .inr (.inr (.inr (.inr (rows_of 5 R_a_left)))))), (a_tried, .inl (k_a_tried, 4, .inl f_a_tried))] ++ va_pl LP fp) s.heap := hP
  have hl := lv_entry ([.ref o, .int 2, .int p1]) (n := 7) (Nat.le_of_ble_eq_true rfl)
  rw [lg_entry_eq]
  generalize (lg_sl ([.ref o, .int 2, .int p1]) ++ List.replicate (7 - (lg_sl ([.ref o, .int 2, .int p1])).length) Slot.unset).toArray = ls at hl ⊢
  have hl : lv_has ls 7 [(0, .ref o), (1, .int 2), (2, .int p1)] := hl
  refine lv_iload_n hx hb dX0_place_0 rfl (lv_at hl 1 rfl) ?_
  refine lv_aload_n hx hb dX0_place_1 rfl (lv_at hl 0 rfl) ?_
  refine va_get (D := (dC, dI)) (ci := 0) (v := .int v_signs) (C := RX0) (T := TX0) (N := 11) hx hb hts iw_X0_place_X0 hown hK hP 0 rfl rfl 8 (by decide) (hts _ kk_X0_place_0) (fun _ h9 => h9) rfl dX0_place_2 ?_
  have bv_signs := hv_signs.u
  refine lv_icmp_lt (tgt := 31) hx hb dX0_place_5 (by decide) (fun c1 => ?_) (fun c1 => ?_)
  · have c19 := i32_lt c1 (show (2 : Int32).toInt = 2 by decide) rfl
    refine lv_aload_n hx hb dX0_place_31 rfl (lv_at hl 0 rfl) ?_
    refine lv_iload_n hx hb dX0_place_32 rfl (lv_at hl 1 rfl) ?_
    have hPc := hP.part (cx := [(o, .inr (0, [.ref a_chosen, .int v_bestCost, .ref a_felt, .ref a_own, .ref a_share, .ref a_rest, .ref a_left, .ref a_tried, .int v_signs, .int v_lines, .int v_most])), (a_felt, .inl (k_a_felt, 21, .inl f_a_felt)), (a_own, .inl (k_a_own, 4, .inl f_a_own)), (a_share, .inl (k_a_share, 5, .inr (.inr (.inr (.inr (rows_of 5 R_a_share)))))), (a_rest, .inl (k_a_rest, 5, .inr (.inr (.inr (.inr (rows_of 5 R_a_rest)))))), (a_left, .inl (k_a_left, 5, .inr (.inr (.inr (.inr (rows_of 5 R_a_left))))))]) [0, 2, 3, 4, 5, 6] rfl
    have hDc := hD.part (cx := [(o, .inr (0, [.ref a_chosen, .int v_bestCost, .ref a_felt, .ref a_own, .ref a_share, .ref a_rest, .ref a_left, .ref a_tried, .int v_signs, .int v_lines, .int v_most])), (a_felt, .inl (k_a_felt, 21, .inl f_a_felt)), (a_own, .inl (k_a_own, 4, .inl f_a_own)), (a_share, .inl (k_a_share, 5, .inr (.inr (.inr (.inr (rows_of 5 R_a_share)))))), (a_rest, .inl (k_a_rest, 5, .inr (.inr (.inr (.inr (rows_of 5 R_a_rest)))))), (a_left, .inl (k_a_left, 5, .inr (.inr (.inr (.inr (rows_of 5 R_a_left))))))]) [0, 2, 3, 4, 5, 6] (by decide) rfl
    have hKc := hK.sub (tys' := [(k_a_felt, .int), (k_a_own, .int), (k_a_share, (.array .int)), (k_a_rest, (.array .int)), (k_a_left, (.array .int)), (cI, .int), (cJ, .long)]) [1, 2, 3, 4, 5, 7, 8] rfl
    have hFc := va_freeP (cx := [(o, .inr (0, [.ref a_chosen, .int v_bestCost, .ref a_felt, .ref a_own, .ref a_share, .ref a_rest, .ref a_left, .ref a_tried, .int v_signs, .int v_lines, .int v_most])), (a_felt, .inl (k_a_felt, 21, .inl f_a_felt)), (a_own, .inl (k_a_own, 4, .inl f_a_own)), (a_share, .inl (k_a_share, 5, .inr (.inr (.inr (.inr (rows_of 5 R_a_share)))))), (a_rest, .inl (k_a_rest, 5, .inr (.inr (.inr (.inr (rows_of 5 R_a_rest)))))), (a_left, .inl (k_a_left, 5, .inr (.inr (.inr (.inr (rows_of 5 R_a_left))))))]) hD hS hA [0, 2, 3, 4, 5, 6] rfl
    refine va_calli (va_runV (As := [.int 2]) (rest := []) ⟨hx, hb, hml, hown, hts⟩ (ct_X0_lastCoin l dC dI o 2 a_chosen v_bestCost a_felt a_own a_share a_rest a_left a_tried v_signs v_lines v_most k_a_felt f_a_felt k_a_own f_a_own k_a_share R_a_share k_a_rest R_a_rest k_a_left R_a_left LP sh fp cI cJ (iv.m (by decide)) hv_lines hv_most hfp hRR_a_share hRR_a_rest hRR_a_left s.heap.size) (cwV 1 hts gX0_place_X0_lastCoin rfl rfl rfl (by decide +kernel) ⟨Nat.le_of_ble_eq_true rfl, Nat.le_of_ble_eq_true rfl⟩) ⟨fun a U g mk q => by obtain ⟨q0, q1, qP, qK, qD⟩ := q; exact ⟨q0, q1, qP, va_K.moved (u := U) (U := U.calling g mk a) (Vm.Alike.refl U.vm) qK, qD⟩, va_recv hKc hPc (ci := 0) (q0 := 0) rfl rfl, fun U hU hW => ⟨rfl, by rw [hU], by rw [hU]; exact hPc, va_K.moved hW.alike hKc, hDc.weaken (fun _ _ _ _ => trivial)⟩⟩ rfl rfl hl.1 rfl (lv_room (Nat.le_of_ble_eq_true rfl)) dX0_place_33 ⟨Nat.le_of_ble_eq_true rfl, Nat.le_of_ble_eq_true rfl⟩) hS (fun q _ h => hFc q h) hFc (fun r2 u t H1 locs ht hvm hw hB hz1 hk1 hS => ?_)
    have hw : r2 = u := hw.symm
    subst hw
    obtain ⟨hr2, hP1, hD1⟩ := hB
    rw [ht] at hP1
    obtain ⟨hP, hD⟩ := va_joinP (X := [(o, .inr (0, [.ref a_chosen, .int v_bestCost, .ref a_felt, .ref a_own, .ref a_share, .ref a_rest, .ref a_left, .ref a_tried, .int v_signs, .int v_lines, .int v_most])), (a_chosen, .inl (k_a_chosen, 4, .inl f_a_chosen)), (a_felt, .inl (k_a_felt, 21, .inl f_a_felt)), (a_own, .inl (k_a_own, 4, .inl f_a_own)), (a_share, .inl (k_a_share, 5, .inr (.inr (.inr (.inr (rows_of 5 R_a_share)))))), (a_rest, .inl (k_a_rest, 5, .inr (.inr (.inr (.inr (rows_of 5 R_a_rest)))))), (a_left, .inl (k_a_left, 5, .inr (.inr (.inr (.inr (rows_of 5 R_a_left)))))), (a_tried, .inl (k_a_tried, 4, .inl f_a_tried))]) (cx := [(o, .inr (0, [.ref a_chosen, .int v_bestCost, .ref a_felt, .ref a_own, .ref a_share, .ref a_rest, .ref a_left, .ref a_tried, .int v_signs, .int v_lines, .int v_most])), (a_felt, .inl (k_a_felt, 21, .inl f_a_felt)), (a_own, .inl (k_a_own, 4, .inl f_a_own)), (a_share, .inl (k_a_share, 5, .inr (.inr (.inr (.inr (rows_of 5 R_a_share)))))), (a_rest, .inl (k_a_rest, 5, .inr (.inr (.inr (.inr (rows_of 5 R_a_rest)))))), (a_left, .inl (k_a_left, 5, .inr (.inr (.inr (.inr (rows_of 5 R_a_left))))))]) (wr := [(a_chosen, .inl (k_a_chosen, 4, .inl f_a_chosen)), (a_tried, .inl (k_a_tried, 4, .inl f_a_tried))]) (rx := [(o, .inr (0, [.ref a_chosen, .int v_bestCost, .ref a_felt, .ref a_own, .ref a_share, .ref a_rest, .ref a_left, .ref a_tried, .int v_signs, .int v_lines, .int v_most])), (a_felt, .inl (k_a_felt, 21, .inl f_a_felt)), (a_own, .inl (k_a_own, 4, .inl f_a_own)), (a_share, .inl (k_a_share, 5, .inr (.inr (.inr (.inr (rows_of 5 R_a_share)))))), (a_rest, .inl (k_a_rest, 5, .inr (.inr (.inr (.inr (rows_of 5 R_a_rest)))))), (a_left, .inl (k_a_left, 5, .inr (.inr (.inr (.inr (rows_of 5 R_a_left))))))]) hP hD [0, 2, 3, 4, 5, 6] [1, 7] rfl rfl (by decide) (by decide) hk1 hFc hP1 hD1
    clear hPc hDc hKc hFc hP1 hD1 hk1 hz1
    generalize H1 = H at hP hS ⊢
    have hP : va_P (dC, dI) vwCl ([(a_chosen, .inl (k_a_chosen, 4, .inl f_a_chosen)), (a_tried, .inl (k_a_tried, 4, .inl f_a_tried)), (o, .inr (0, [.ref a_chosen, .int v_bestCost, .ref a_felt, .ref a_own, .ref a_share, .ref a_rest, .ref a_left, .ref a_tried, .int v_signs, .int v_lines, .int v_most])), (a_felt, .inl (k_a_felt, 21, .inl f_a_felt)), (a_own, .inl (k_a_own, 4, .inl f_a_own)), (a_share, .inl (k_a_share, 5, .inr (.inr (.inr (.inr (rows_of 5 R_a_share)))))), (a_rest, .inl (k_a_rest, 5, .inr (.inr (.inr (.inr (rows_of 5 R_a_rest)))))), (a_left, .inl (k_a_left, 5, .inr (.inr (.inr (.inr (rows_of 5 R_a_left))))))] ++ va_pl LP fp) H := hP
    have hD : va_D A ([(a_chosen, .inl (k_a_chosen, 4, .inl f_a_chosen)), (a_tried, .inl (k_a_tried, 4, .inl f_a_tried)), (o, .inr (0, [.ref a_chosen, .int v_bestCost, .ref a_felt, .ref a_own, .ref a_share, .ref a_rest, .ref a_left, .ref a_tried, .int v_signs, .int v_lines, .int v_most])), (a_felt, .inl (k_a_felt, 21, .inl f_a_felt)), (a_own, .inl (k_a_own, 4, .inl f_a_own)), (a_share, .inl (k_a_share, 5, .inr (.inr (.inr (.inr (rows_of 5 R_a_share)))))), (a_rest, .inl (k_a_rest, 5, .inr (.inr (.inr (.inr (rows_of 5 R_a_rest)))))), (a_left, .inl (k_a_left, 5, .inr (.inr (.inr (.inr (rows_of 5 R_a_left))))))] ++ va_pl LP fp) := hD
    refine W.widen (k := 0) (n := 0) (by decide) (by decide) ?_
    refine lv_istore_n (lv' := [(3, .int r2), (0, .ref o), (1, .int 2), (2, .int p1)]) hx hb dX0_place_36 rfl hl (by decide) rfl (fun ls hl => ?_)
    refine lv_aload_n hx hb dX0_place_37 rfl (lv_at hl 1 rfl) ?_
    refine lv_iload_n hx hb dX0_place_38 rfl (lv_at hl 2 rfl) ?_
    have hPc := hP.part (cx := [(o, .inr (0, [.ref a_chosen, .int v_bestCost, .ref a_felt, .ref a_own, .ref a_share, .ref a_rest, .ref a_left, .ref a_tried, .int v_signs, .int v_lines, .int v_most])), (a_felt, .inl (k_a_felt, 21, .inl f_a_felt)), (a_share, .inl (k_a_share, 5, .inr (.inr (.inr (.inr (rows_of 5 R_a_share)))))), (a_rest, .inl (k_a_rest, 5, .inr (.inr (.inr (.inr (rows_of 5 R_a_rest)))))), (a_left, .inl (k_a_left, 5, .inr (.inr (.inr (.inr (rows_of 5 R_a_left))))))]) [2, 3, 5, 6, 7] rfl
    have hDc := hD.part (cx := [(o, .inr (0, [.ref a_chosen, .int v_bestCost, .ref a_felt, .ref a_own, .ref a_share, .ref a_rest, .ref a_left, .ref a_tried, .int v_signs, .int v_lines, .int v_most])), (a_felt, .inl (k_a_felt, 21, .inl f_a_felt)), (a_share, .inl (k_a_share, 5, .inr (.inr (.inr (.inr (rows_of 5 R_a_share)))))), (a_rest, .inl (k_a_rest, 5, .inr (.inr (.inr (.inr (rows_of 5 R_a_rest)))))), (a_left, .inl (k_a_left, 5, .inr (.inr (.inr (.inr (rows_of 5 R_a_left))))))]) [2, 3, 5, 6, 7] (by decide) rfl
    have hKc := hK.sub (tys' := [(k_a_felt, .int), (k_a_share, (.array .int)), (k_a_rest, (.array .int)), (k_a_left, (.array .int)), (cI, .int), (cJ, .long)]) [1, 3, 4, 5, 7, 8] rfl
    have hFc := va_freeP (cx := [(o, .inr (0, [.ref a_chosen, .int v_bestCost, .ref a_felt, .ref a_own, .ref a_share, .ref a_rest, .ref a_left, .ref a_tried, .int v_signs, .int v_lines, .int v_most])), (a_felt, .inl (k_a_felt, 21, .inl f_a_felt)), (a_share, .inl (k_a_share, 5, .inr (.inr (.inr (.inr (rows_of 5 R_a_share)))))), (a_rest, .inl (k_a_rest, 5, .inr (.inr (.inr (.inr (rows_of 5 R_a_rest)))))), (a_left, .inl (k_a_left, 5, .inr (.inr (.inr (.inr (rows_of 5 R_a_left))))))]) hD hS hA [2, 3, 5, 6, 7] rfl
    refine va_calli (va_runV (As := [.int 2]) (rest := []) ⟨hx, hb, hml, hown, hts⟩ (ct_X0_firstCoin l dC dI o 2 a_chosen v_bestCost a_felt a_own a_share a_rest a_left a_tried v_signs v_lines v_most k_a_felt f_a_felt k_a_share R_a_share k_a_rest R_a_rest k_a_left R_a_left LP sh fp cI cJ (iv.m (by decide)) hv_lines hv_most hfp hRR_a_share hRR_a_rest hRR_a_left H.size) (cwV 1 hts gX0_place_X0_firstCoin rfl rfl rfl (by decide +kernel) ⟨Nat.le_of_ble_eq_true rfl, Nat.le_of_ble_eq_true rfl⟩) ⟨fun a U g mk q => by obtain ⟨q0, q1, qP, qK, qD⟩ := q; exact ⟨q0, q1, qP, va_K.moved (u := U) (U := U.calling g mk a) (Vm.Alike.refl U.vm) qK, qD⟩, va_recv hKc hPc (ci := 0) (q0 := 0) rfl rfl, fun U hU hW => ⟨rfl, by rw [hU], by rw [hU]; exact hPc, va_K.moved hW.alike hKc, hDc.weaken (fun _ _ _ _ => trivial)⟩⟩ rfl rfl hl.1 rfl (lv_room (Nat.le_of_ble_eq_true rfl)) dX0_place_39 ⟨Nat.le_of_ble_eq_true rfl, Nat.le_of_ble_eq_true rfl⟩) hS (fun q _ h => hFc q h) hFc (fun r3 u t H1 locs ht hvm hw hB hz1 hk1 hS => ?_)
    have hw : r3 = u := hw.symm
    subst hw
    obtain ⟨hr3, hP1, hD1⟩ := hB
    rw [ht] at hP1
    obtain ⟨hP, hD⟩ := va_joinP (X := [(a_chosen, .inl (k_a_chosen, 4, .inl f_a_chosen)), (a_tried, .inl (k_a_tried, 4, .inl f_a_tried)), (o, .inr (0, [.ref a_chosen, .int v_bestCost, .ref a_felt, .ref a_own, .ref a_share, .ref a_rest, .ref a_left, .ref a_tried, .int v_signs, .int v_lines, .int v_most])), (a_felt, .inl (k_a_felt, 21, .inl f_a_felt)), (a_own, .inl (k_a_own, 4, .inl f_a_own)), (a_share, .inl (k_a_share, 5, .inr (.inr (.inr (.inr (rows_of 5 R_a_share)))))), (a_rest, .inl (k_a_rest, 5, .inr (.inr (.inr (.inr (rows_of 5 R_a_rest)))))), (a_left, .inl (k_a_left, 5, .inr (.inr (.inr (.inr (rows_of 5 R_a_left))))))]) (cx := [(o, .inr (0, [.ref a_chosen, .int v_bestCost, .ref a_felt, .ref a_own, .ref a_share, .ref a_rest, .ref a_left, .ref a_tried, .int v_signs, .int v_lines, .int v_most])), (a_felt, .inl (k_a_felt, 21, .inl f_a_felt)), (a_share, .inl (k_a_share, 5, .inr (.inr (.inr (.inr (rows_of 5 R_a_share)))))), (a_rest, .inl (k_a_rest, 5, .inr (.inr (.inr (.inr (rows_of 5 R_a_rest)))))), (a_left, .inl (k_a_left, 5, .inr (.inr (.inr (.inr (rows_of 5 R_a_left))))))]) (wr := [(a_chosen, .inl (k_a_chosen, 4, .inl f_a_chosen)), (a_tried, .inl (k_a_tried, 4, .inl f_a_tried)), (a_own, .inl (k_a_own, 4, .inl f_a_own))]) (rx := [(o, .inr (0, [.ref a_chosen, .int v_bestCost, .ref a_felt, .ref a_own, .ref a_share, .ref a_rest, .ref a_left, .ref a_tried, .int v_signs, .int v_lines, .int v_most])), (a_felt, .inl (k_a_felt, 21, .inl f_a_felt)), (a_share, .inl (k_a_share, 5, .inr (.inr (.inr (.inr (rows_of 5 R_a_share)))))), (a_rest, .inl (k_a_rest, 5, .inr (.inr (.inr (.inr (rows_of 5 R_a_rest)))))), (a_left, .inl (k_a_left, 5, .inr (.inr (.inr (.inr (rows_of 5 R_a_left))))))]) hP hD [2, 3, 5, 6, 7] [0, 1, 4] rfl rfl (by decide) (by decide) hk1 hFc hP1 hD1
    clear hPc hDc hKc hFc hP1 hD1 hk1 hz1
    generalize H1 = H at hP hS ⊢
    have hP : va_P (dC, dI) vwCl ([(a_chosen, .inl (k_a_chosen, 4, .inl f_a_chosen)), (a_tried, .inl (k_a_tried, 4, .inl f_a_tried)), (a_own, .inl (k_a_own, 4, .inl f_a_own)), (o, .inr (0, [.ref a_chosen, .int v_bestCost, .ref a_felt, .ref a_own, .ref a_share, .ref a_rest, .ref a_left, .ref a_tried, .int v_signs, .int v_lines, .int v_most])), (a_felt, .inl (k_a_felt, 21, .inl f_a_felt)), (a_share, .inl (k_a_share, 5, .inr (.inr (.inr (.inr (rows_of 5 R_a_share)))))), (a_rest, .inl (k_a_rest, 5, .inr (.inr (.inr (.inr (rows_of 5 R_a_rest)))))), (a_left, .inl (k_a_left, 5, .inr (.inr (.inr (.inr (rows_of 5 R_a_left))))))] ++ va_pl LP fp) H := hP
    have hD : va_D A ([(a_chosen, .inl (k_a_chosen, 4, .inl f_a_chosen)), (a_tried, .inl (k_a_tried, 4, .inl f_a_tried)), (a_own, .inl (k_a_own, 4, .inl f_a_own)), (o, .inr (0, [.ref a_chosen, .int v_bestCost, .ref a_felt, .ref a_own, .ref a_share, .ref a_rest, .ref a_left, .ref a_tried, .int v_signs, .int v_lines, .int v_most])), (a_felt, .inl (k_a_felt, 21, .inl f_a_felt)), (a_share, .inl (k_a_share, 5, .inr (.inr (.inr (.inr (rows_of 5 R_a_share)))))), (a_rest, .inl (k_a_rest, 5, .inr (.inr (.inr (.inr (rows_of 5 R_a_rest)))))), (a_left, .inl (k_a_left, 5, .inr (.inr (.inr (.inr (rows_of 5 R_a_left))))))] ++ va_pl LP fp) := hD
    refine W.widen (k := 0) (n := 0) (by decide) (by decide) ?_
    refine lv_istore (lv' := [(4, .int r3), (3, .int r2), (0, .ref o), (1, .int 2), (2, .int p1)]) hx hb dX0_place_42 hl (by decide) rfl (fun ls hl => ?_)
    refine tl_loop (I := fun nn H locs ls => ∃ (v4 : Int32) (f5 : Nat → Int32) (f6 : Nat → Int32) (v7 : Int32) (f8 : Nat → va_E), nn = (21 - v4.toInt).toNat ∧ iv v4 0 21 ∧ pok cI cJ LP sh f8 ∧  va_P (dC, dI) vwCl ([(a_chosen, .inl (k_a_chosen, 4, .inl f6)), (a_tried, .inl (k_a_tried, 4, .inl f5)), (a_own, .inl (k_a_own, 4, .inl f_a_own)), (o, .inr (0, [.ref a_chosen, .int v7, .ref a_felt, .ref a_own, .ref a_share, .ref a_rest, .ref a_left, .ref a_tried, .int v_signs, .int v_lines, .int v_most])), (a_felt, .inl (k_a_felt, 21, .inl f_a_felt)), (a_share, .inl (k_a_share, 5, .inr (.inr (.inr (.inr (rows_of 5 R_a_share)))))), (a_rest, .inl (k_a_rest, 5, .inr (.inr (.inr (.inr (rows_of 5 R_a_rest)))))), (a_left, .inl (k_a_left, 5, .inr (.inr (.inr (.inr (rows_of 5 R_a_left))))))] ++ va_pl LP f8) H ∧ va_D A ([(a_chosen, .inl (k_a_chosen, 4, .inl f6)), (a_tried, .inl (k_a_tried, 4, .inl f5)), (a_own, .inl (k_a_own, 4, .inl f_a_own)), (o, .inr (0, [.ref a_chosen, .int v7, .ref a_felt, .ref a_own, .ref a_share, .ref a_rest, .ref a_left, .ref a_tried, .int v_signs, .int v_lines, .int v_most])), (a_felt, .inl (k_a_felt, 21, .inl f_a_felt)), (a_share, .inl (k_a_share, 5, .inr (.inr (.inr (.inr (rows_of 5 R_a_share)))))), (a_rest, .inl (k_a_rest, 5, .inr (.inr (.inr (.inr (rows_of 5 R_a_rest)))))), (a_left, .inl (k_a_left, 5, .inr (.inr (.inr (.inr (rows_of 5 R_a_left))))))] ++ va_pl LP f8) ∧ va_S A s.heap H locs ∧ lv_has ls 7 [(4, .int v4), (3, .int r2), (0, .ref o), (1, .int 2), (2, .int p1)]) ?_ ⟨r3, f_a_tried, f_a_chosen, v_bestCost, fp, rfl, hr3, hfp, hP, hD, hS, lv_sub hl [0, 1, 2, 3, 4] rfl⟩
    clear hP hD hS hl
    intro nn44 H locs ls hI ih44
    obtain ⟨v4, f5, f6, v7, f8, hn44, hv4, hf8, hP, hD, hS, hl⟩ := hI
    have bv4 := hv4.u
    refine lv_iload hx hb dX0_place_44 (lv_at hl 0 rfl) ?_
    refine lv_iload_n hx hb dX0_place_46 rfl (lv_at hl 1 rfl) ?_
    have br2 := hr2.u
    refine lv_icmp_gt (tgt := 164) hx hb dX0_place_47 (by decide) (fun c9 => ?_) (fun c9 => ?_)
    · have c99 := i32_lt c9 rfl rfl
      have hP9 := hP.part (cx := [(o, .inr (0, [.ref a_chosen, .int v7, .ref a_felt, .ref a_own, .ref a_share, .ref a_rest, .ref a_left, .ref a_tried, .int v_signs, .int v_lines, .int v_most])), (a_chosen, .inl (k_a_chosen, 4, .inl f6)), (a_felt, .inl (k_a_felt, 21, .inl f_a_felt)), (a_own, .inl (k_a_own, 4, .inl f_a_own)), (a_share, .inl (k_a_share, 5, .inr (.inr (.inr (.inr (rows_of 5 R_a_share)))))), (a_rest, .inl (k_a_rest, 5, .inr (.inr (.inr (.inr (rows_of 5 R_a_rest)))))), (a_left, .inl (k_a_left, 5, .inr (.inr (.inr (.inr (rows_of 5 R_a_left)))))), (a_tried, .inl (k_a_tried, 4, .inl f5))]) [3, 0, 4, 2, 5, 6, 7, 1] rfl
      have hD9 := hD.part (cx := [(o, .inr (0, [.ref a_chosen, .int v7, .ref a_felt, .ref a_own, .ref a_share, .ref a_rest, .ref a_left, .ref a_tried, .int v_signs, .int v_lines, .int v_most])), (a_chosen, .inl (k_a_chosen, 4, .inl f6)), (a_felt, .inl (k_a_felt, 21, .inl f_a_felt)), (a_own, .inl (k_a_own, 4, .inl f_a_own)), (a_share, .inl (k_a_share, 5, .inr (.inr (.inr (.inr (rows_of 5 R_a_share)))))), (a_rest, .inl (k_a_rest, 5, .inr (.inr (.inr (.inr (rows_of 5 R_a_rest)))))), (a_left, .inl (k_a_left, 5, .inr (.inr (.inr (.inr (rows_of 5 R_a_left)))))), (a_tried, .inl (k_a_tried, 4, .inl f5))]) [3, 0, 4, 2, 5, 6, 7, 1] (by decide) rfl
      exact W.vret hx hb hr (fun t ht hW => ⟨⟨(), rfl, trivial, v7, f6, f5, f8, hf8, by rw [ht]; exact hP9, hD9⟩, hS.F ht⟩) hS.2.2 dX0_place_164
    · have c99 := i32_nlt c9 rfl rfl
      refine lv_iload_n hx hb dX0_place_50 rfl (lv_at hl 4 rfl) ?_
      refine lv_aload_n hx hb dX0_place_51 rfl (lv_at hl 2 rfl) ?_
      refine va_get (D := (dC, dI)) (ci := 0) (v := .ref a_own) (C := RX0) (T := TX0) (N := 11) hx hb hts iw_X0_place_X0 hown hK hP 3 rfl rfl 3 (by decide) (hts _ kk_X0_place_1) (fun _ h9 => h9) rfl dX0_place_52 ?_
      refine lv_iload_n hx hb dX0_place_55 rfl (lv_at hl 3 rfl) ?_
      refine va_iald hx hb hK hP 2 2 rfl rfl (vq_in 2 4 (by decide)) dX0_place_56 ?_
      refine lv_topi (fun x10 ex10 => ?_)
      refine lv_iload hx hb dX0_place_57 (lv_at hl 0 rfl) ?_
      refine lv_imul hx hb dX0_place_59 ?_
      refine lv_topi (fun x11 ex11 => ?_)
      refine lv_iadd hx hb dX0_place_60 ?_
      refine lv_topi (fun x12 ex12 => ?_)
      refine lv_istore (lv' := [(5, .int x12), (4, .int v4), (3, .int r2), (0, .ref o), (1, .int 2), (2, .int p1)]) hx hb dX0_place_61 hl (by decide) rfl (fun ls hl => ?_)
      refine lv_iload hx hb dX0_place_63 (lv_at hl 0 rfl) ?_
      refine lv_aload_n hx hb dX0_place_65 rfl (lv_at hl 3 rfl) ?_
      refine va_get (D := (dC, dI)) (ci := 0) (v := .int v7) (C := RX0) (T := TX0) (N := 11) hx hb hts iw_X0_place_X0 hown hK hP 3 rfl rfl 1 (by decide) (hts _ kk_X0_place_2) (fun _ h9 => h9) rfl dX0_place_66 ?_
      have bx12 := i32_rng x12
      have bv7 := i32_rng v7
      refine lv_icmp_lt (tgt := 73) hx hb dX0_place_69 (by decide) (fun c13 => ?_) (fun c13 => ?_)
      · have c139 := i32_lt c13 rfl rfl
        refine lv_aload_n hx hb dX0_place_73 rfl (lv_at hl 3 rfl) ?_
        refine va_get (D := (dC, dI)) (ci := 0) (v := .ref a_tried) (C := RX0) (T := TX0) (N := 11) hx hb hts iw_X0_place_X0 hown hK hP 3 rfl rfl 7 (by decide) (hts _ kk_X0_place_3) (fun _ h9 => h9) rfl dX0_place_74 ?_
        refine lv_iload_n hx hb dX0_place_77 rfl (lv_at hl 4 rfl) ?_
        refine lv_iload hx hb dX0_place_78 (lv_at hl 1 rfl) ?_
        refine va_iast hx hb hK hP hD hS 1 6 rfl rfl (vq_in 2 4 (by decide)) dX0_place_80 (fun H locs hP hD hS => ?_)
        have hP : va_P (dC, dI) vwCl ([(a_chosen, .inl (k_a_chosen, 4, .inl f6)), (a_tried, .inl (k_a_tried, 4, .inl (upd f5 (Int32.toNatClampNeg 2) v4))), (a_own, .inl (k_a_own, 4, .inl f_a_own)), (o, .inr (0, [.ref a_chosen, .int v7, .ref a_felt, .ref a_own, .ref a_share, .ref a_rest, .ref a_left, .ref a_tried, .int v_signs, .int v_lines, .int v_most])), (a_felt, .inl (k_a_felt, 21, .inl f_a_felt)), (a_share, .inl (k_a_share, 5, .inr (.inr (.inr (.inr (rows_of 5 R_a_share)))))), (a_rest, .inl (k_a_rest, 5, .inr (.inr (.inr (.inr (rows_of 5 R_a_rest)))))), (a_left, .inl (k_a_left, 5, .inr (.inr (.inr (.inr (rows_of 5 R_a_left))))))] ++ va_pl LP f8) H := hP
        have hD : va_D A ([(a_chosen, .inl (k_a_chosen, 4, .inl f6)), (a_tried, .inl (k_a_tried, 4, .inl (upd f5 (Int32.toNatClampNeg 2) v4))), (a_own, .inl (k_a_own, 4, .inl f_a_own)), (o, .inr (0, [.ref a_chosen, .int v7, .ref a_felt, .ref a_own, .ref a_share, .ref a_rest, .ref a_left, .ref a_tried, .int v_signs, .int v_lines, .int v_most])), (a_felt, .inl (k_a_felt, 21, .inl f_a_felt)), (a_share, .inl (k_a_share, 5, .inr (.inr (.inr (.inr (rows_of 5 R_a_share)))))), (a_rest, .inl (k_a_rest, 5, .inr (.inr (.inr (.inr (rows_of 5 R_a_rest)))))), (a_left, .inl (k_a_left, 5, .inr (.inr (.inr (.inr (rows_of 5 R_a_left))))))] ++ va_pl LP f8) := hD
        have wf14 : (upd f5 (Int32.toNatClampNeg 2) v4) (Int32.toNatClampNeg 2) = v4 := pk_us
        generalize upd f5 (Int32.toNatClampNeg 2) v4 = f14 at hP hD wf14
        have hP : va_P (dC, dI) vwCl ([(a_chosen, .inl (k_a_chosen, 4, .inl f6)), (a_tried, .inl (k_a_tried, 4, .inl f14)), (a_own, .inl (k_a_own, 4, .inl f_a_own)), (o, .inr (0, [.ref a_chosen, .int v7, .ref a_felt, .ref a_own, .ref a_share, .ref a_rest, .ref a_left, .ref a_tried, .int v_signs, .int v_lines, .int v_most])), (a_felt, .inl (k_a_felt, 21, .inl f_a_felt)), (a_share, .inl (k_a_share, 5, .inr (.inr (.inr (.inr (rows_of 5 R_a_share)))))), (a_rest, .inl (k_a_rest, 5, .inr (.inr (.inr (.inr (rows_of 5 R_a_rest)))))), (a_left, .inl (k_a_left, 5, .inr (.inr (.inr (.inr (rows_of 5 R_a_left))))))] ++ va_pl LP f8) H := hP
        have hD : va_D A ([(a_chosen, .inl (k_a_chosen, 4, .inl f6)), (a_tried, .inl (k_a_tried, 4, .inl f14)), (a_own, .inl (k_a_own, 4, .inl f_a_own)), (o, .inr (0, [.ref a_chosen, .int v7, .ref a_felt, .ref a_own, .ref a_share, .ref a_rest, .ref a_left, .ref a_tried, .int v_signs, .int v_lines, .int v_most])), (a_felt, .inl (k_a_felt, 21, .inl f_a_felt)), (a_share, .inl (k_a_share, 5, .inr (.inr (.inr (.inr (rows_of 5 R_a_share)))))), (a_rest, .inl (k_a_rest, 5, .inr (.inr (.inr (.inr (rows_of 5 R_a_rest)))))), (a_left, .inl (k_a_left, 5, .inr (.inr (.inr (.inr (rows_of 5 R_a_left))))))] ++ va_pl LP f8) := hD
        refine lv_iconst (v := 0) hx hb dX0_place_81 (by decide) ?_
        refine lv_istore (lv' := [(6, .int 0), (5, .int x12), (4, .int v4), (3, .int r2), (0, .ref o), (1, .int 2), (2, .int p1)]) hx hb dX0_place_82 hl (by decide) rfl (fun ls hl => ?_)
        refine tl_loop (I := fun nn H locs ls => ∃ (v15 : Int32) (f16 : Nat → va_E), nn = (5 - v15.toInt).toNat ∧ iv v15 0 5 ∧ pok cI cJ LP sh f16 ∧  va_P (dC, dI) vwCl ([(a_chosen, .inl (k_a_chosen, 4, .inl f6)), (a_tried, .inl (k_a_tried, 4, .inl f14)), (a_own, .inl (k_a_own, 4, .inl f_a_own)), (o, .inr (0, [.ref a_chosen, .int v7, .ref a_felt, .ref a_own, .ref a_share, .ref a_rest, .ref a_left, .ref a_tried, .int v_signs, .int v_lines, .int v_most])), (a_felt, .inl (k_a_felt, 21, .inl f_a_felt)), (a_share, .inl (k_a_share, 5, .inr (.inr (.inr (.inr (rows_of 5 R_a_share)))))), (a_rest, .inl (k_a_rest, 5, .inr (.inr (.inr (.inr (rows_of 5 R_a_rest)))))), (a_left, .inl (k_a_left, 5, .inr (.inr (.inr (.inr (rows_of 5 R_a_left))))))] ++ va_pl LP f16) H ∧ va_D A ([(a_chosen, .inl (k_a_chosen, 4, .inl f6)), (a_tried, .inl (k_a_tried, 4, .inl f14)), (a_own, .inl (k_a_own, 4, .inl f_a_own)), (o, .inr (0, [.ref a_chosen, .int v7, .ref a_felt, .ref a_own, .ref a_share, .ref a_rest, .ref a_left, .ref a_tried, .int v_signs, .int v_lines, .int v_most])), (a_felt, .inl (k_a_felt, 21, .inl f_a_felt)), (a_share, .inl (k_a_share, 5, .inr (.inr (.inr (.inr (rows_of 5 R_a_share)))))), (a_rest, .inl (k_a_rest, 5, .inr (.inr (.inr (.inr (rows_of 5 R_a_rest)))))), (a_left, .inl (k_a_left, 5, .inr (.inr (.inr (.inr (rows_of 5 R_a_left))))))] ++ va_pl LP f16) ∧ va_S A s.heap H locs ∧ lv_has ls 7 [(6, .int v15), (5, .int x12), (4, .int v4), (3, .int r2), (0, .ref o), (1, .int 2), (2, .int p1)]) ?_ ⟨0, f8, rfl, (iv.m (by decide)), hf8, hP, hD, hS, lv_sub hl [0, 1, 2, 3, 4, 5, 6] rfl⟩
        clear hP hD hS hl
        intro nn84 H locs ls hI ih84
        obtain ⟨v15, f16, hn84, hv15, hf16, hP, hD, hS, hl⟩ := hI
        have bv15 := hv15.u
        refine lv_iload hx hb dX0_place_84 (lv_at hl 0 rfl) ?_
        refine lv_aload_n hx hb dX0_place_86 rfl (lv_at hl 4 rfl) ?_
        refine va_get (D := (dC, dI)) (ci := 0) (v := .int v_lines) (C := RX0) (T := TX0) (N := 11) hx hb hts iw_X0_place_X0 hown hK hP 3 rfl rfl 9 (by decide) (hts _ kk_X0_place_4) (fun _ h9 => h9) rfl dX0_place_87 ?_
        have bv_lines := hv_lines.u
        refine lv_icmp_ge (tgt := 137) hx hb dX0_place_90 (by decide) (fun c17 => ?_) (fun c17 => ?_)
        · have c179 := i32_le c17 rfl rfl
          refine lv_aload_n hx hb dX0_place_137 rfl (lv_at hl 4 rfl) ?_
          refine lv_iload_n hx hb dX0_place_138 rfl (lv_at hl 5 rfl) ?_
          refine lv_iconst (v := 1) hx hb dX0_place_139 (by decide) ?_
          refine lv_iadd hx hb dX0_place_140 ?_
          refine px_i (v := 3) (by decide) ?_
          refine lv_iload hx hb dX0_place_141 (lv_at hl 1 rfl) ?_
          have hPc := hP.part (cx := [(o, .inr (0, [.ref a_chosen, .int v7, .ref a_felt, .ref a_own, .ref a_share, .ref a_rest, .ref a_left, .ref a_tried, .int v_signs, .int v_lines, .int v_most])), (a_felt, .inl (k_a_felt, 21, .inl f_a_felt)), (a_own, .inl (k_a_own, 4, .inl f_a_own)), (a_share, .inl (k_a_share, 5, .inr (.inr (.inr (.inr (rows_of 5 R_a_share)))))), (a_left, .inl (k_a_left, 5, .inr (.inr (.inr (.inr (rows_of 5 R_a_left))))))]) [3, 4, 2, 5, 7] rfl
          have hDc := hD.part (cx := [(o, .inr (0, [.ref a_chosen, .int v7, .ref a_felt, .ref a_own, .ref a_share, .ref a_rest, .ref a_left, .ref a_tried, .int v_signs, .int v_lines, .int v_most])), (a_felt, .inl (k_a_felt, 21, .inl f_a_felt)), (a_own, .inl (k_a_own, 4, .inl f_a_own)), (a_share, .inl (k_a_share, 5, .inr (.inr (.inr (.inr (rows_of 5 R_a_share)))))), (a_left, .inl (k_a_left, 5, .inr (.inr (.inr (.inr (rows_of 5 R_a_left))))))]) [3, 4, 2, 5, 7] (by decide) rfl
          have hKc := hK.sub (tys' := [(k_a_felt, .int), (k_a_own, .int), (k_a_share, (.array .int)), (k_a_left, (.array .int)), (cI, .int), (cJ, .long)]) [1, 2, 3, 5, 7, 8] rfl
          have hFc := va_freeP (cx := [(o, .inr (0, [.ref a_chosen, .int v7, .ref a_felt, .ref a_own, .ref a_share, .ref a_rest, .ref a_left, .ref a_tried, .int v_signs, .int v_lines, .int v_most])), (a_felt, .inl (k_a_felt, 21, .inl f_a_felt)), (a_own, .inl (k_a_own, 4, .inl f_a_own)), (a_share, .inl (k_a_share, 5, .inr (.inr (.inr (.inr (rows_of 5 R_a_share)))))), (a_left, .inl (k_a_left, 5, .inr (.inr (.inr (.inr (rows_of 5 R_a_left))))))]) hD hS hA [3, 4, 2, 5, 7] rfl
          refine va_calli (va_runV (As := [.int 3, .int x12]) (rest := []) ⟨hx, hb, hml, hown, hts⟩ (ct_X0_canBeCheaper l dC dI o 3 x12 a_chosen v7 a_felt a_own a_share a_rest a_left a_tried v_signs v_lines v_most k_a_felt f_a_felt k_a_own f_a_own k_a_share R_a_share k_a_left R_a_left LP sh f16 cI cJ (iv.m (by decide)) (iv.m (by omega)) hv_lines hf16 hRR_a_share hRR_a_left H.size) (cwV 2 hts gX0_place_X0_canBeCheaper rfl rfl rfl (by decide +kernel) ⟨Nat.le_of_ble_eq_true rfl, Nat.le_of_ble_eq_true rfl⟩) ⟨fun a U g mk q => by obtain ⟨q0, q1, qP, qK, qD⟩ := q; exact ⟨q0, q1, qP, va_K.moved (u := U) (U := U.calling g mk a) (Vm.Alike.refl U.vm) qK, qD⟩, va_recv hKc hPc (ci := 0) (q0 := 0) rfl rfl, fun U hU hW => ⟨rfl, by rw [hU], by rw [hU]; exact hPc, va_K.moved hW.alike hKc, hDc.weaken (fun _ _ _ _ => trivial)⟩⟩ rfl rfl hl.1 rfl (lv_room (Nat.le_of_ble_eq_true rfl)) dX0_place_143 ⟨Nat.le_of_ble_eq_true rfl, Nat.le_of_ble_eq_true rfl⟩) hS (fun q _ h => hFc q h) hFc (fun r18 u t H1 locs ht hvm hw hB hz1 hk1 hS => ?_)
          have hw : r18 = u := hw.symm
          subst hw
          obtain ⟨w19, hP1, hD1⟩ := hB
          rw [ht] at hP1
          obtain ⟨hP, hD⟩ := va_joinP (X := [(a_chosen, .inl (k_a_chosen, 4, .inl f6)), (a_tried, .inl (k_a_tried, 4, .inl f14)), (a_own, .inl (k_a_own, 4, .inl f_a_own)), (o, .inr (0, [.ref a_chosen, .int v7, .ref a_felt, .ref a_own, .ref a_share, .ref a_rest, .ref a_left, .ref a_tried, .int v_signs, .int v_lines, .int v_most])), (a_felt, .inl (k_a_felt, 21, .inl f_a_felt)), (a_share, .inl (k_a_share, 5, .inr (.inr (.inr (.inr (rows_of 5 R_a_share)))))), (a_rest, .inl (k_a_rest, 5, .inr (.inr (.inr (.inr (rows_of 5 R_a_rest)))))), (a_left, .inl (k_a_left, 5, .inr (.inr (.inr (.inr (rows_of 5 R_a_left))))))]) (cx := [(o, .inr (0, [.ref a_chosen, .int v7, .ref a_felt, .ref a_own, .ref a_share, .ref a_rest, .ref a_left, .ref a_tried, .int v_signs, .int v_lines, .int v_most])), (a_felt, .inl (k_a_felt, 21, .inl f_a_felt)), (a_own, .inl (k_a_own, 4, .inl f_a_own)), (a_share, .inl (k_a_share, 5, .inr (.inr (.inr (.inr (rows_of 5 R_a_share)))))), (a_left, .inl (k_a_left, 5, .inr (.inr (.inr (.inr (rows_of 5 R_a_left))))))]) (wr := [(a_chosen, .inl (k_a_chosen, 4, .inl f6)), (a_tried, .inl (k_a_tried, 4, .inl f14)), (a_rest, .inl (k_a_rest, 5, .inr (.inr (.inr (.inr (rows_of 5 R_a_rest))))))]) (rx := [(o, .inr (0, [.ref a_chosen, .int v7, .ref a_felt, .ref a_own, .ref a_share, .ref a_rest, .ref a_left, .ref a_tried, .int v_signs, .int v_lines, .int v_most])), (a_felt, .inl (k_a_felt, 21, .inl f_a_felt)), (a_own, .inl (k_a_own, 4, .inl f_a_own)), (a_share, .inl (k_a_share, 5, .inr (.inr (.inr (.inr (rows_of 5 R_a_share)))))), (a_left, .inl (k_a_left, 5, .inr (.inr (.inr (.inr (rows_of 5 R_a_left))))))]) hP hD [3, 4, 2, 5, 7] [0, 1, 6] rfl rfl (by decide) (by decide) hk1 hFc hP1 hD1
          clear hPc hDc hKc hFc hP1 hD1 hk1 hz1
          generalize H1 = H at hP hS ⊢
          have hP : va_P (dC, dI) vwCl ([(a_chosen, .inl (k_a_chosen, 4, .inl f6)), (a_tried, .inl (k_a_tried, 4, .inl f14)), (a_rest, .inl (k_a_rest, 5, .inr (.inr (.inr (.inr (rows_of 5 R_a_rest)))))), (o, .inr (0, [.ref a_chosen, .int v7, .ref a_felt, .ref a_own, .ref a_share, .ref a_rest, .ref a_left, .ref a_tried, .int v_signs, .int v_lines, .int v_most])), (a_felt, .inl (k_a_felt, 21, .inl f_a_felt)), (a_own, .inl (k_a_own, 4, .inl f_a_own)), (a_share, .inl (k_a_share, 5, .inr (.inr (.inr (.inr (rows_of 5 R_a_share)))))), (a_left, .inl (k_a_left, 5, .inr (.inr (.inr (.inr (rows_of 5 R_a_left))))))] ++ va_pl LP f16) H := hP
          have hD : va_D A ([(a_chosen, .inl (k_a_chosen, 4, .inl f6)), (a_tried, .inl (k_a_tried, 4, .inl f14)), (a_rest, .inl (k_a_rest, 5, .inr (.inr (.inr (.inr (rows_of 5 R_a_rest)))))), (o, .inr (0, [.ref a_chosen, .int v7, .ref a_felt, .ref a_own, .ref a_share, .ref a_rest, .ref a_left, .ref a_tried, .int v_signs, .int v_lines, .int v_most])), (a_felt, .inl (k_a_felt, 21, .inl f_a_felt)), (a_own, .inl (k_a_own, 4, .inl f_a_own)), (a_share, .inl (k_a_share, 5, .inr (.inr (.inr (.inr (rows_of 5 R_a_share)))))), (a_left, .inl (k_a_left, 5, .inr (.inr (.inr (.inr (rows_of 5 R_a_left))))))] ++ va_pl LP f16) := hD
          refine W.widen (k := 0) (n := 0) (by decide) (by decide) ?_
          have hq143_0 : (3 : Int32).toInt = 3 := (by decide)
          rcases w19 with hr9 | hr9
          · subst hr9
            refine lv_if_eq (tgt := 158) hx hb dX0_place_146 (by decide) (fun _ => ?_) (fun cz => absurd cz (by decide))
            obtain ⟨x20, ex20⟩ : ∃ z : Int32, v4 + Int32.ofInt 1 = z := ⟨_, rfl⟩
            have tx20 := i32_inc ex20 rfl (by decide) (by omega) (by omega)
            refine lv_iinc (v := x20) (lv' := [(4, .int x20), (6, .int v15), (5, .int x12), (3, .int r2), (0, .ref o), (1, .int 2), (2, .int p1)]) hx hb dX0_place_158 hl (k := 2) rfl ex20 (by decide) rfl (fun ls hl => ?_)
            refine lv_goto (tgt := 44) hx hb dX0_place_161 (by decide) ?_
            exact ih44 _ _ _ _ (by omega) ⟨x20, f14, f6, v7, f16, rfl, (iv.m (by omega)), hf16, hP.part [0, 1, 5, 3, 4, 6, 2, 7] rfl, hD.part [0, 1, 5, 3, 4, 6, 2, 7] (by decide) rfl, hS, lv_sub hl [0, 3, 4, 5, 6] rfl⟩
          · subst hr9
            refine lv_if_eq (tgt := 158) hx hb dX0_place_146 (by decide) (fun cz => absurd cz (by decide)) (fun _ => ?_)
            refine lv_aload_n hx hb dX0_place_149 rfl (lv_at hl 4 rfl) ?_
            refine lv_iload_n hx hb dX0_place_150 rfl (lv_at hl 5 rfl) ?_
            refine lv_iconst (v := 1) hx hb dX0_place_151 (by decide) ?_
            refine lv_iadd hx hb dX0_place_152 ?_
            refine px_i (v := 3) (by decide) ?_
            refine lv_iload hx hb dX0_place_153 (lv_at hl 1 rfl) ?_
            have hPc := hP.part (cx := [(o, .inr (0, [.ref a_chosen, .int v7, .ref a_felt, .ref a_own, .ref a_share, .ref a_rest, .ref a_left, .ref a_tried, .int v_signs, .int v_lines, .int v_most])), (a_chosen, .inl (k_a_chosen, 4, .inl f6)), (a_felt, .inl (k_a_felt, 21, .inl f_a_felt)), (a_own, .inl (k_a_own, 4, .inl f_a_own)), (a_share, .inl (k_a_share, 5, .inr (.inr (.inr (.inr (rows_of 5 R_a_share)))))), (a_rest, .inl (k_a_rest, 5, .inr (.inr (.inr (.inr (rows_of 5 R_a_rest)))))), (a_left, .inl (k_a_left, 5, .inr (.inr (.inr (.inr (rows_of 5 R_a_left)))))), (a_tried, .inl (k_a_tried, 4, .inl f14))]) [3, 0, 4, 5, 6, 2, 7, 1] rfl
            have hDc := hD.part (cx := [(o, .inr (0, [.ref a_chosen, .int v7, .ref a_felt, .ref a_own, .ref a_share, .ref a_rest, .ref a_left, .ref a_tried, .int v_signs, .int v_lines, .int v_most])), (a_chosen, .inl (k_a_chosen, 4, .inl f6)), (a_felt, .inl (k_a_felt, 21, .inl f_a_felt)), (a_own, .inl (k_a_own, 4, .inl f_a_own)), (a_share, .inl (k_a_share, 5, .inr (.inr (.inr (.inr (rows_of 5 R_a_share)))))), (a_rest, .inl (k_a_rest, 5, .inr (.inr (.inr (.inr (rows_of 5 R_a_rest)))))), (a_left, .inl (k_a_left, 5, .inr (.inr (.inr (.inr (rows_of 5 R_a_left)))))), (a_tried, .inl (k_a_tried, 4, .inl f14))]) [3, 0, 4, 5, 6, 2, 7, 1] (by decide) rfl
            have hKc := hK.sub (tys' := [(k_a_chosen, .int), (k_a_felt, .int), (k_a_own, .int), (k_a_share, (.array .int)), (k_a_rest, (.array .int)), (k_a_left, (.array .int)), (k_a_tried, .int), (cI, .int), (cJ, .long)]) [0, 1, 2, 3, 4, 5, 6, 7, 8] rfl
            have hFc := va_freeP (cx := [(o, .inr (0, [.ref a_chosen, .int v7, .ref a_felt, .ref a_own, .ref a_share, .ref a_rest, .ref a_left, .ref a_tried, .int v_signs, .int v_lines, .int v_most])), (a_chosen, .inl (k_a_chosen, 4, .inl f6)), (a_felt, .inl (k_a_felt, 21, .inl f_a_felt)), (a_own, .inl (k_a_own, 4, .inl f_a_own)), (a_share, .inl (k_a_share, 5, .inr (.inr (.inr (.inr (rows_of 5 R_a_share)))))), (a_rest, .inl (k_a_rest, 5, .inr (.inr (.inr (.inr (rows_of 5 R_a_rest)))))), (a_left, .inl (k_a_left, 5, .inr (.inr (.inr (.inr (rows_of 5 R_a_left)))))), (a_tried, .inl (k_a_tried, 4, .inl f14))]) hD hS hA [3, 0, 4, 5, 6, 2, 7, 1] rfl
            refine va_callv (va_runV (As := [.int 3, .int x12]) (rest := []) ⟨hx, hb, hml, hown, hts⟩ (ct_X0_place_L3 l dC dI o x12 a_chosen v7 a_felt a_own a_share a_rest a_left a_tried v_signs v_lines v_most k_a_chosen f6 k_a_felt f_a_felt k_a_own f_a_own k_a_share R_a_share k_a_rest R_a_rest k_a_left R_a_left k_a_tried f14 LP sh f16 cI cJ (iv.m (by omega)) hv_lines hv_most hf16 hRR_a_share hRR_a_rest hRR_a_left H.size) (cwV 2 hts gX0_place_X0_place rfl rfl rfl (by decide +kernel) ⟨Nat.le_of_ble_eq_true rfl, Nat.le_of_ble_eq_true rfl⟩) ⟨fun a U g mk q => by obtain ⟨q0, q1, qP, qK, qD⟩ := q; exact ⟨q0, q1, qP, va_K.moved (u := U) (U := U.calling g mk a) (Vm.Alike.refl U.vm) qK, qD⟩, va_recv hKc hPc (ci := 0) (q0 := 0) rfl rfl, fun U hU hW => ⟨rfl, by rw [hU], by rw [hU]; exact hPc, va_K.moved hW.alike hKc, hDc.weaken (fun _ _ _ _ => trivial)⟩⟩ rfl rfl hl.1 rfl (lv_room (Nat.le_of_ble_eq_true rfl)) dX0_place_155 ⟨Nat.le_of_ble_eq_true rfl, Nat.le_of_ble_eq_true rfl⟩) hS (fun q _ h => hFc q h) hFc (fun u t H1 locs ht hvm hw hB hz1 hk1 hS => ?_)
            obtain ⟨v22, f23, f24, fp25, hfp25, hP1, hD1⟩ := hB
            rw [ht] at hP1
            obtain ⟨hP, hD⟩ := va_joinP (X := [(a_chosen, .inl (k_a_chosen, 4, .inl f6)), (a_tried, .inl (k_a_tried, 4, .inl f14)), (a_rest, .inl (k_a_rest, 5, .inr (.inr (.inr (.inr (rows_of 5 R_a_rest)))))), (o, .inr (0, [.ref a_chosen, .int v7, .ref a_felt, .ref a_own, .ref a_share, .ref a_rest, .ref a_left, .ref a_tried, .int v_signs, .int v_lines, .int v_most])), (a_felt, .inl (k_a_felt, 21, .inl f_a_felt)), (a_own, .inl (k_a_own, 4, .inl f_a_own)), (a_share, .inl (k_a_share, 5, .inr (.inr (.inr (.inr (rows_of 5 R_a_share)))))), (a_left, .inl (k_a_left, 5, .inr (.inr (.inr (.inr (rows_of 5 R_a_left))))))]) (cx := [(o, .inr (0, [.ref a_chosen, .int v7, .ref a_felt, .ref a_own, .ref a_share, .ref a_rest, .ref a_left, .ref a_tried, .int v_signs, .int v_lines, .int v_most])), (a_chosen, .inl (k_a_chosen, 4, .inl f6)), (a_felt, .inl (k_a_felt, 21, .inl f_a_felt)), (a_own, .inl (k_a_own, 4, .inl f_a_own)), (a_share, .inl (k_a_share, 5, .inr (.inr (.inr (.inr (rows_of 5 R_a_share)))))), (a_rest, .inl (k_a_rest, 5, .inr (.inr (.inr (.inr (rows_of 5 R_a_rest)))))), (a_left, .inl (k_a_left, 5, .inr (.inr (.inr (.inr (rows_of 5 R_a_left)))))), (a_tried, .inl (k_a_tried, 4, .inl f14))]) (wr := []) (rx := [(o, .inr (0, [.ref a_chosen, .int v22, .ref a_felt, .ref a_own, .ref a_share, .ref a_rest, .ref a_left, .ref a_tried, .int v_signs, .int v_lines, .int v_most])), (a_chosen, .inl (k_a_chosen, 4, .inl f23)), (a_felt, .inl (k_a_felt, 21, .inl f_a_felt)), (a_own, .inl (k_a_own, 4, .inl f_a_own)), (a_share, .inl (k_a_share, 5, .inr (.inr (.inr (.inr (rows_of 5 R_a_share)))))), (a_rest, .inl (k_a_rest, 5, .inr (.inr (.inr (.inr (rows_of 5 R_a_rest)))))), (a_left, .inl (k_a_left, 5, .inr (.inr (.inr (.inr (rows_of 5 R_a_left)))))), (a_tried, .inl (k_a_tried, 4, .inl f24))]) hP hD [3, 0, 4, 5, 6, 2, 7, 1] [] rfl rfl (by decide) (by decide) hk1 hFc hP1 hD1
            clear hPc hDc hKc hFc hP1 hD1 hk1 hz1
            generalize H1 = H at hP hS ⊢
            have hP : va_P (dC, dI) vwCl ([(o, .inr (0, [.ref a_chosen, .int v22, .ref a_felt, .ref a_own, .ref a_share, .ref a_rest, .ref a_left, .ref a_tried, .int v_signs, .int v_lines, .int v_most])), (a_chosen, .inl (k_a_chosen, 4, .inl f23)), (a_felt, .inl (k_a_felt, 21, .inl f_a_felt)), (a_own, .inl (k_a_own, 4, .inl f_a_own)), (a_share, .inl (k_a_share, 5, .inr (.inr (.inr (.inr (rows_of 5 R_a_share)))))), (a_rest, .inl (k_a_rest, 5, .inr (.inr (.inr (.inr (rows_of 5 R_a_rest)))))), (a_left, .inl (k_a_left, 5, .inr (.inr (.inr (.inr (rows_of 5 R_a_left)))))), (a_tried, .inl (k_a_tried, 4, .inl f24))] ++ va_pl LP fp25) H := hP
            have hD : va_D A ([(o, .inr (0, [.ref a_chosen, .int v22, .ref a_felt, .ref a_own, .ref a_share, .ref a_rest, .ref a_left, .ref a_tried, .int v_signs, .int v_lines, .int v_most])), (a_chosen, .inl (k_a_chosen, 4, .inl f23)), (a_felt, .inl (k_a_felt, 21, .inl f_a_felt)), (a_own, .inl (k_a_own, 4, .inl f_a_own)), (a_share, .inl (k_a_share, 5, .inr (.inr (.inr (.inr (rows_of 5 R_a_share)))))), (a_rest, .inl (k_a_rest, 5, .inr (.inr (.inr (.inr (rows_of 5 R_a_rest)))))), (a_left, .inl (k_a_left, 5, .inr (.inr (.inr (.inr (rows_of 5 R_a_left)))))), (a_tried, .inl (k_a_tried, 4, .inl f24))] ++ va_pl LP fp25) := hD
            refine W.widen (k := 0) (n := 0) (by decide) (by decide) ?_
            obtain ⟨x26, ex26⟩ : ∃ z : Int32, v4 + Int32.ofInt 1 = z := ⟨_, rfl⟩
            have tx26 := i32_inc ex26 rfl (by decide) (by omega) (by omega)
            refine lv_iinc (v := x26) (lv' := [(4, .int x26), (6, .int v15), (5, .int x12), (3, .int r2), (0, .ref o), (1, .int 2), (2, .int p1)]) hx hb dX0_place_158 hl (k := 2) rfl ex26 (by decide) rfl (fun ls hl => ?_)
            refine lv_goto (tgt := 44) hx hb dX0_place_161 (by decide) ?_
            have bv22 := i32_rng v22
            exact ih44 _ _ _ _ (by omega) ⟨x26, f24, f23, v22, fp25, rfl, (iv.m (by omega)), hfp25, hP.part [1, 7, 3, 0, 2, 4, 5, 6] rfl, hD.part [1, 7, 3, 0, 2, 4, 5, 6] (by decide) rfl, hS, lv_sub hl [0, 3, 4, 5, 6] rfl⟩
        · have c179 := i32_nle c17 rfl rfl
          refine lv_aload_n hx hb dX0_place_93 rfl (lv_at hl 4 rfl) ?_
          refine va_get (D := (dC, dI)) (ci := 0) (v := .ref a_left) (C := RX0) (T := TX0) (N := 11) hx hb hts iw_X0_place_X0 hown hK hP 3 rfl rfl 6 (by decide) (hts _ kk_X0_place_10) (fun _ h9 => h9) rfl dX0_place_94 ?_
          refine lv_iload_n hx hb dX0_place_97 rfl (lv_at hl 5 rfl) ?_
          refine lv_iconst (v := 1) hx hb dX0_place_98 (by decide) ?_
          refine lv_iadd hx hb dX0_place_99 ?_
          refine px_i (v := 3) (by decide) ?_
          have hinrw27 : vp_in 3 5 := (vq_in 3 5 (by decide))
          refine va_aldA hx hb hK hP 7 5 rfl rfl hinrw27 dX0_place_100 ?_
          refine px_v (row_sel hinrw27) ?_
          obtain ⟨rw27, erw27⟩ : ∃ z : Nat, z = R_a_left (Int32.toNatClampNeg 3) := ⟨_, rfl⟩
          rw [← erw27]
          have mrw27 : rw27 ∈ LP ∧ sh rw27 = 5 := by rw [erw27]; exact hRR_a_left _ (vin_lt hinrw27)
          refine lv_iload hx hb dX0_place_101 (lv_at hl 0 rfl) ?_
          refine lv_aload_n hx hb dX0_place_103 rfl (lv_at hl 4 rfl) ?_
          refine va_get (D := (dC, dI)) (ci := 0) (v := .ref a_left) (C := RX0) (T := TX0) (N := 11) hx hb hts iw_X0_place_X0 hown hK hP 3 rfl rfl 6 (by decide) (hts _ kk_X0_place_10) (fun _ h9 => h9) rfl dX0_place_104 ?_
          refine lv_iload_n hx hb dX0_place_107 rfl (lv_at hl 5 rfl) ?_
          have hinrw28 : vp_in 2 5 := (vq_in 2 5 (by decide))
          refine va_aldA hx hb hK hP 7 5 rfl rfl hinrw28 dX0_place_108 ?_
          refine px_v (row_sel hinrw28) ?_
          obtain ⟨rw28, erw28⟩ : ∃ z : Nat, z = R_a_left (Int32.toNatClampNeg 2) := ⟨_, rfl⟩
          rw [← erw28]
          have mrw28 : rw28 ∈ LP ∧ sh rw28 = 5 := by rw [erw28]; exact hRR_a_left _ (vin_lt hinrw28)
          refine lv_iload hx hb dX0_place_109 (lv_at hl 0 rfl) ?_
          obtain ⟨gk29, hgk29⟩ := pok_5 (hf16) mrw28
          obtain ⟨kk30, hkk30⟩ := va_pl_get (X := [(a_chosen, .inl (k_a_chosen, 4, .inl f6)), (a_tried, .inl (k_a_tried, 4, .inl f14)), (a_own, .inl (k_a_own, 4, .inl f_a_own)), (o, .inr (0, [.ref a_chosen, .int v7, .ref a_felt, .ref a_own, .ref a_share, .ref a_rest, .ref a_left, .ref a_tried, .int v_signs, .int v_lines, .int v_most])), (a_felt, .inl (k_a_felt, 21, .inl f_a_felt)), (a_share, .inl (k_a_share, 5, .inr (.inr (.inr (.inr (rows_of 5 R_a_share)))))), (a_rest, .inl (k_a_rest, 5, .inr (.inr (.inr (.inr (rows_of 5 R_a_rest)))))), (a_left, .inl (k_a_left, 5, .inr (.inr (.inr (.inr (rows_of 5 R_a_left))))))]) (f := f16) mrw28.1
          have qkk30 := hkk30
          rw [hgk29] at qkk30
          refine va_iald hx hb hK hP kk30 7 qkk30 rfl (vq_in v15 5 (by omega)) dX0_place_111 ?_
          refine lv_topi (fun x31 ex31 => ?_)
          refine lv_aload_n hx hb dX0_place_112 rfl (lv_at hl 4 rfl) ?_
          refine va_get (D := (dC, dI)) (ci := 0) (v := .ref a_share) (C := RX0) (T := TX0) (N := 11) hx hb hts iw_X0_place_X0 hown hK hP 3 rfl rfl 4 (by decide) (hts _ kk_X0_place_11) (fun _ h9 => h9) rfl dX0_place_113 ?_
          refine lv_iload hx hb dX0_place_116 (lv_at hl 0 rfl) ?_
          have hinrw32 : vp_in v15 5 := (vq_in v15 5 (by omega))
          refine va_aldA hx hb hK hP 5 3 rfl rfl hinrw32 dX0_place_118 ?_
          refine px_v (row_sel hinrw32) ?_
          obtain ⟨rw32, erw32⟩ : ∃ z : Nat, z = R_a_share (Int32.toNatClampNeg v15) := ⟨_, rfl⟩
          rw [← erw32]
          have mrw32 : rw32 ∈ LP ∧ sh rw32 = 4 := by rw [erw32]; exact hRR_a_share _ (vin_lt hinrw32)
          refine lv_iload_n hx hb dX0_place_119 rfl (lv_at hl 5 rfl) ?_
          obtain ⟨gk33, hgk33⟩ := pok_4 (hf16) mrw32
          obtain ⟨kk34, hkk34⟩ := va_pl_get (X := [(a_chosen, .inl (k_a_chosen, 4, .inl f6)), (a_tried, .inl (k_a_tried, 4, .inl f14)), (a_own, .inl (k_a_own, 4, .inl f_a_own)), (o, .inr (0, [.ref a_chosen, .int v7, .ref a_felt, .ref a_own, .ref a_share, .ref a_rest, .ref a_left, .ref a_tried, .int v_signs, .int v_lines, .int v_most])), (a_felt, .inl (k_a_felt, 21, .inl f_a_felt)), (a_share, .inl (k_a_share, 5, .inr (.inr (.inr (.inr (rows_of 5 R_a_share)))))), (a_rest, .inl (k_a_rest, 5, .inr (.inr (.inr (.inr (rows_of 5 R_a_rest)))))), (a_left, .inl (k_a_left, 5, .inr (.inr (.inr (.inr (rows_of 5 R_a_left))))))]) (f := f16) mrw32.1
          have qkk34 := hkk34
          rw [hgk33] at qkk34
          refine va_iald hx hb hK hP kk34 7 qkk34 rfl (vq_in 2 4 (by decide)) dX0_place_120 ?_
          refine lv_topi (fun x35 ex35 => ?_)
          refine lv_aload_n hx hb dX0_place_121 rfl (lv_at hl 4 rfl) ?_
          refine va_get (D := (dC, dI)) (ci := 0) (v := .ref a_felt) (C := RX0) (T := TX0) (N := 11) hx hb hts iw_X0_place_X0 hown hK hP 3 rfl rfl 2 (by decide) (hts _ kk_X0_place_12) (fun _ h9 => h9) rfl dX0_place_122 ?_
          refine lv_iload hx hb dX0_place_125 (lv_at hl 2 rfl) ?_
          refine va_iald hx hb hK hP 4 1 rfl rfl (vq_in v4 21 (by omega)) dX0_place_127 ?_
          refine lv_topi (fun x36 ex36 => ?_)
          refine lv_imul hx hb dX0_place_128 ?_
          refine lv_topi (fun x37 ex37 => ?_)
          refine lv_isub hx hb dX0_place_129 ?_
          refine lv_topi (fun x38 ex38 => ?_)
          obtain ⟨gk39, hgk39⟩ := pok_5 (hf16) mrw27
          obtain ⟨kk40, hkk40⟩ := va_pl_get (X := [(a_chosen, .inl (k_a_chosen, 4, .inl f6)), (a_tried, .inl (k_a_tried, 4, .inl f14)), (a_own, .inl (k_a_own, 4, .inl f_a_own)), (o, .inr (0, [.ref a_chosen, .int v7, .ref a_felt, .ref a_own, .ref a_share, .ref a_rest, .ref a_left, .ref a_tried, .int v_signs, .int v_lines, .int v_most])), (a_felt, .inl (k_a_felt, 21, .inl f_a_felt)), (a_share, .inl (k_a_share, 5, .inr (.inr (.inr (.inr (rows_of 5 R_a_share)))))), (a_rest, .inl (k_a_rest, 5, .inr (.inr (.inr (.inr (rows_of 5 R_a_rest)))))), (a_left, .inl (k_a_left, 5, .inr (.inr (.inr (.inr (rows_of 5 R_a_left))))))]) (f := f16) mrw27.1
          have qkk40 := hkk40
          rw [hgk39] at qkk40
          have hDo := hD
          refine va_iast hx hb hK hP hD hS kk40 7 qkk40 rfl (vq_in v15 5 (by omega)) dX0_place_130 (fun H locs hP hD hS => ?_)
          rw [va_pl_set hDo mrw27.1 hkk40] at hP hD
          have hfp41 := pok_up5 hf16 mrw27 (Int32.toNatClampNeg v15) x38 gk39
          generalize va_up f16 rw27 _ = fp41 at hP hD hfp41
          have hP : va_P (dC, dI) vwCl ([(a_chosen, .inl (k_a_chosen, 4, .inl f6)), (a_tried, .inl (k_a_tried, 4, .inl f14)), (a_own, .inl (k_a_own, 4, .inl f_a_own)), (o, .inr (0, [.ref a_chosen, .int v7, .ref a_felt, .ref a_own, .ref a_share, .ref a_rest, .ref a_left, .ref a_tried, .int v_signs, .int v_lines, .int v_most])), (a_felt, .inl (k_a_felt, 21, .inl f_a_felt)), (a_share, .inl (k_a_share, 5, .inr (.inr (.inr (.inr (rows_of 5 R_a_share)))))), (a_rest, .inl (k_a_rest, 5, .inr (.inr (.inr (.inr (rows_of 5 R_a_rest)))))), (a_left, .inl (k_a_left, 5, .inr (.inr (.inr (.inr (rows_of 5 R_a_left))))))] ++ va_pl LP fp41) H := hP
          have hD : va_D A ([(a_chosen, .inl (k_a_chosen, 4, .inl f6)), (a_tried, .inl (k_a_tried, 4, .inl f14)), (a_own, .inl (k_a_own, 4, .inl f_a_own)), (o, .inr (0, [.ref a_chosen, .int v7, .ref a_felt, .ref a_own, .ref a_share, .ref a_rest, .ref a_left, .ref a_tried, .int v_signs, .int v_lines, .int v_most])), (a_felt, .inl (k_a_felt, 21, .inl f_a_felt)), (a_share, .inl (k_a_share, 5, .inr (.inr (.inr (.inr (rows_of 5 R_a_share)))))), (a_rest, .inl (k_a_rest, 5, .inr (.inr (.inr (.inr (rows_of 5 R_a_rest)))))), (a_left, .inl (k_a_left, 5, .inr (.inr (.inr (.inr (rows_of 5 R_a_left))))))] ++ va_pl LP fp41) := hD
          obtain ⟨x42, ex42⟩ : ∃ z : Int32, v15 + Int32.ofInt 1 = z := ⟨_, rfl⟩
          have tx42 := i32_inc ex42 rfl (by decide) (by omega) (by omega)
          refine lv_iinc (v := x42) (lv' := [(6, .int x42), (5, .int x12), (4, .int v4), (3, .int r2), (0, .ref o), (1, .int 2), (2, .int p1)]) hx hb dX0_place_131 hl (k := 0) rfl ex42 (by decide) rfl (fun ls hl => ?_)
          refine lv_goto (tgt := 84) hx hb dX0_place_134 (by decide) ?_
          exact ih84 _ _ _ _ (by omega) ⟨x42, fp41, rfl, (iv.m (by omega)), hfp41, hP, hD, hS, lv_sub hl [0, 1, 2, 3, 4, 5, 6] rfl⟩
      · have c139 := i32_nlt c13 rfl rfl
        have hP9 := hP.part (cx := [(o, .inr (0, [.ref a_chosen, .int v7, .ref a_felt, .ref a_own, .ref a_share, .ref a_rest, .ref a_left, .ref a_tried, .int v_signs, .int v_lines, .int v_most])), (a_chosen, .inl (k_a_chosen, 4, .inl f6)), (a_felt, .inl (k_a_felt, 21, .inl f_a_felt)), (a_own, .inl (k_a_own, 4, .inl f_a_own)), (a_share, .inl (k_a_share, 5, .inr (.inr (.inr (.inr (rows_of 5 R_a_share)))))), (a_rest, .inl (k_a_rest, 5, .inr (.inr (.inr (.inr (rows_of 5 R_a_rest)))))), (a_left, .inl (k_a_left, 5, .inr (.inr (.inr (.inr (rows_of 5 R_a_left)))))), (a_tried, .inl (k_a_tried, 4, .inl f5))]) [3, 0, 4, 2, 5, 6, 7, 1] rfl
        have hD9 := hD.part (cx := [(o, .inr (0, [.ref a_chosen, .int v7, .ref a_felt, .ref a_own, .ref a_share, .ref a_rest, .ref a_left, .ref a_tried, .int v_signs, .int v_lines, .int v_most])), (a_chosen, .inl (k_a_chosen, 4, .inl f6)), (a_felt, .inl (k_a_felt, 21, .inl f_a_felt)), (a_own, .inl (k_a_own, 4, .inl f_a_own)), (a_share, .inl (k_a_share, 5, .inr (.inr (.inr (.inr (rows_of 5 R_a_share)))))), (a_rest, .inl (k_a_rest, 5, .inr (.inr (.inr (.inr (rows_of 5 R_a_rest)))))), (a_left, .inl (k_a_left, 5, .inr (.inr (.inr (.inr (rows_of 5 R_a_left)))))), (a_tried, .inl (k_a_tried, 4, .inl f5))]) [3, 0, 4, 2, 5, 6, 7, 1] (by decide) rfl
        exact W.vret hx hb hr (fun t ht hW => ⟨⟨(), rfl, trivial, v7, f6, f5, f8, hf8, by rw [ht]; exact hP9, hD9⟩, hS.F ht⟩) hS.2.2 dX0_place_72
  · have c19 := i32_nlt c1 (show (2 : Int32).toInt = 2 by decide) rfl
    refine lv_aload_n hx hb dX0_place_8 rfl (lv_at hl 0 rfl) ?_
    refine lv_iload_n hx hb dX0_place_9 rfl (lv_at hl 2 rfl) ?_
    refine va_put (D := (dC, dI)) (ci := 0) (v := .int p1) (ty := .int) (C := RX0) (T := TX0) (N := 11) hx hb hts iw_X0_place_X0 tyX0 tyX0_ok nmX0 hown hK hP hD hS 0 rfl rfl 1 (by decide) (hts _ kk_X0_place_2) (fun _ h9 => h9) rfl (by decide +kernel) rfl rfl (Nat.le_of_ble_eq_true rfl) dX0_place_10 (fun H locs hP hD hS => ?_)
    have hP : va_P (dC, dI) vwCl ([(o, .inr (0, [.ref a_chosen, .int p1, .ref a_felt, .ref a_own, .ref a_share, .ref a_rest, .ref a_left, .ref a_tried, .int v_signs, .int v_lines, .int v_most])), (a_chosen, .inl (k_a_chosen, 4, .inl f_a_chosen)), (a_felt, .inl (k_a_felt, 21, .inl f_a_felt)), (a_own, .inl (k_a_own, 4, .inl f_a_own)), (a_share, .inl (k_a_share, 5, .inr (.inr (.inr (.inr (rows_of 5 R_a_share)))))), (a_rest, .inl (k_a_rest, 5, .inr (.inr (.inr (.inr (rows_of 5 R_a_rest)))))), (a_left, .inl (k_a_left, 5, .inr (.inr (.inr (.inr (rows_of 5 R_a_left)))))), (a_tried, .inl (k_a_tried, 4, .inl f_a_tried))] ++ va_pl LP fp) H := hP
    have hD : va_D A ([(o, .inr (0, [.ref a_chosen, .int p1, .ref a_felt, .ref a_own, .ref a_share, .ref a_rest, .ref a_left, .ref a_tried, .int v_signs, .int v_lines, .int v_most])), (a_chosen, .inl (k_a_chosen, 4, .inl f_a_chosen)), (a_felt, .inl (k_a_felt, 21, .inl f_a_felt)), (a_own, .inl (k_a_own, 4, .inl f_a_own)), (a_share, .inl (k_a_share, 5, .inr (.inr (.inr (.inr (rows_of 5 R_a_share)))))), (a_rest, .inl (k_a_rest, 5, .inr (.inr (.inr (.inr (rows_of 5 R_a_rest)))))), (a_left, .inl (k_a_left, 5, .inr (.inr (.inr (.inr (rows_of 5 R_a_left)))))), (a_tried, .inl (k_a_tried, 4, .inl f_a_tried))] ++ va_pl LP fp) := hD
    refine lv_aload_n hx hb dX0_place_13 rfl (lv_at hl 0 rfl) ?_
    refine va_get (D := (dC, dI)) (ci := 0) (v := .ref a_tried) (C := RX0) (T := TX0) (N := 11) hx hb hts iw_X0_place_X0 hown hK hP 0 rfl rfl 7 (by decide) (hts _ kk_X0_place_3) (fun _ h9 => h9) rfl dX0_place_14 ?_
    refine lv_iconst (v := 0) hx hb dX0_place_17 (by decide) ?_
    refine lv_aload_n hx hb dX0_place_18 rfl (lv_at hl 0 rfl) ?_
    refine va_get (D := (dC, dI)) (ci := 0) (v := .ref a_chosen) (C := RX0) (T := TX0) (N := 11) hx hb hts iw_X0_place_X0 hown hK hP 0 rfl rfl 0 (by decide) (hts _ kk_X0_place_5) (fun _ h9 => h9) rfl dX0_place_19 ?_
    refine lv_iconst (v := 0) hx hb dX0_place_22 (by decide) ?_
    refine lv_aload_n hx hb dX0_place_23 rfl (lv_at hl 0 rfl) ?_
    refine va_get (D := (dC, dI)) (ci := 0) (v := .int v_signs) (C := RX0) (T := TX0) (N := 11) hx hb hts iw_X0_place_X0 hown hK hP 0 rfl rfl 8 (by decide) (hts _ kk_X0_place_0) (fun _ h9 => h9) rfl dX0_place_24 ?_
    have hcl : Int32.toNatClampNeg v_signs ≤ 4 := i32_cl v_signs (by omega)
    refine va_copyi hx hb (by rw [hml]; exact hl.1.symm) hown (hts _ kk_X0_place_6) (hts _ kk_X0_place_7) (hts _ kk_X0_place_8) (hts _ kk_X0_place_9) hK hP hD hS 7 1 6 0 rfl rfl rfl rfl rfl (by decide) (by decide) (i32_nn (by omega)) (by rw [show Int32.toNatClampNeg 0 = 0 by decide]; omega) (by rw [show Int32.toNatClampNeg 0 = 0 by decide]; omega) (fun _ _ => rfl) (Nat.le_of_ble_eq_true rfl) (Nat.le_of_ble_eq_true rfl) dX0_place_27 (fun H locs hP hD hS => ?_)
    have hP : va_P (dC, dI) vwCl ([(o, .inr (0, [.ref a_chosen, .int p1, .ref a_felt, .ref a_own, .ref a_share, .ref a_rest, .ref a_left, .ref a_tried, .int v_signs, .int v_lines, .int v_most])), (a_chosen, .inl (k_a_chosen, 4, .inl (va_cpy f_a_tried f_a_chosen (Int32.toNatClampNeg 0) (Int32.toNatClampNeg 0) (Int32.toNatClampNeg v_signs)))), (a_felt, .inl (k_a_felt, 21, .inl f_a_felt)), (a_own, .inl (k_a_own, 4, .inl f_a_own)), (a_share, .inl (k_a_share, 5, .inr (.inr (.inr (.inr (rows_of 5 R_a_share)))))), (a_rest, .inl (k_a_rest, 5, .inr (.inr (.inr (.inr (rows_of 5 R_a_rest)))))), (a_left, .inl (k_a_left, 5, .inr (.inr (.inr (.inr (rows_of 5 R_a_left)))))), (a_tried, .inl (k_a_tried, 4, .inl f_a_tried))] ++ va_pl LP fp) H := hP
    have hD : va_D A ([(o, .inr (0, [.ref a_chosen, .int p1, .ref a_felt, .ref a_own, .ref a_share, .ref a_rest, .ref a_left, .ref a_tried, .int v_signs, .int v_lines, .int v_most])), (a_chosen, .inl (k_a_chosen, 4, .inl (va_cpy f_a_tried f_a_chosen (Int32.toNatClampNeg 0) (Int32.toNatClampNeg 0) (Int32.toNatClampNeg v_signs)))), (a_felt, .inl (k_a_felt, 21, .inl f_a_felt)), (a_own, .inl (k_a_own, 4, .inl f_a_own)), (a_share, .inl (k_a_share, 5, .inr (.inr (.inr (.inr (rows_of 5 R_a_share)))))), (a_rest, .inl (k_a_rest, 5, .inr (.inr (.inr (.inr (rows_of 5 R_a_rest)))))), (a_left, .inl (k_a_left, 5, .inr (.inr (.inr (.inr (rows_of 5 R_a_left)))))), (a_tried, .inl (k_a_tried, 4, .inl f_a_tried))] ++ va_pl LP fp) := hD
    generalize va_cpy f_a_tried f_a_chosen (Int32.toNatClampNeg 0) (Int32.toNatClampNeg 0) (Int32.toNatClampNeg v_signs) = f43 at hP hD
    have hP : va_P (dC, dI) vwCl ([(o, .inr (0, [.ref a_chosen, .int p1, .ref a_felt, .ref a_own, .ref a_share, .ref a_rest, .ref a_left, .ref a_tried, .int v_signs, .int v_lines, .int v_most])), (a_chosen, .inl (k_a_chosen, 4, .inl f43)), (a_felt, .inl (k_a_felt, 21, .inl f_a_felt)), (a_own, .inl (k_a_own, 4, .inl f_a_own)), (a_share, .inl (k_a_share, 5, .inr (.inr (.inr (.inr (rows_of 5 R_a_share)))))), (a_rest, .inl (k_a_rest, 5, .inr (.inr (.inr (.inr (rows_of 5 R_a_rest)))))), (a_left, .inl (k_a_left, 5, .inr (.inr (.inr (.inr (rows_of 5 R_a_left)))))), (a_tried, .inl (k_a_tried, 4, .inl f_a_tried))] ++ va_pl LP fp) H := hP
    have hD : va_D A ([(o, .inr (0, [.ref a_chosen, .int p1, .ref a_felt, .ref a_own, .ref a_share, .ref a_rest, .ref a_left, .ref a_tried, .int v_signs, .int v_lines, .int v_most])), (a_chosen, .inl (k_a_chosen, 4, .inl f43)), (a_felt, .inl (k_a_felt, 21, .inl f_a_felt)), (a_own, .inl (k_a_own, 4, .inl f_a_own)), (a_share, .inl (k_a_share, 5, .inr (.inr (.inr (.inr (rows_of 5 R_a_share)))))), (a_rest, .inl (k_a_rest, 5, .inr (.inr (.inr (.inr (rows_of 5 R_a_rest)))))), (a_left, .inl (k_a_left, 5, .inr (.inr (.inr (.inr (rows_of 5 R_a_left)))))), (a_tried, .inl (k_a_tried, 4, .inl f_a_tried))] ++ va_pl LP fp) := hD
    have hP9 := hP.part (cx := [(o, .inr (0, [.ref a_chosen, .int p1, .ref a_felt, .ref a_own, .ref a_share, .ref a_rest, .ref a_left, .ref a_tried, .int v_signs, .int v_lines, .int v_most])), (a_chosen, .inl (k_a_chosen, 4, .inl f43)), (a_felt, .inl (k_a_felt, 21, .inl f_a_felt)), (a_own, .inl (k_a_own, 4, .inl f_a_own)), (a_share, .inl (k_a_share, 5, .inr (.inr (.inr (.inr (rows_of 5 R_a_share)))))), (a_rest, .inl (k_a_rest, 5, .inr (.inr (.inr (.inr (rows_of 5 R_a_rest)))))), (a_left, .inl (k_a_left, 5, .inr (.inr (.inr (.inr (rows_of 5 R_a_left)))))), (a_tried, .inl (k_a_tried, 4, .inl f_a_tried))]) [0, 1, 2, 3, 4, 5, 6, 7] rfl
    have hD9 := hD.part (cx := [(o, .inr (0, [.ref a_chosen, .int p1, .ref a_felt, .ref a_own, .ref a_share, .ref a_rest, .ref a_left, .ref a_tried, .int v_signs, .int v_lines, .int v_most])), (a_chosen, .inl (k_a_chosen, 4, .inl f43)), (a_felt, .inl (k_a_felt, 21, .inl f_a_felt)), (a_own, .inl (k_a_own, 4, .inl f_a_own)), (a_share, .inl (k_a_share, 5, .inr (.inr (.inr (.inr (rows_of 5 R_a_share)))))), (a_rest, .inl (k_a_rest, 5, .inr (.inr (.inr (.inr (rows_of 5 R_a_rest)))))), (a_left, .inl (k_a_left, 5, .inr (.inr (.inr (.inr (rows_of 5 R_a_left)))))), (a_tried, .inl (k_a_tried, 4, .inl f_a_tried))]) [0, 1, 2, 3, 4, 5, 6, 7] (by decide) rfl
    exact W.vret hx hb hr (fun t ht hW => ⟨⟨(), rfl, trivial, p1, f43, f_a_tried, fp, hfp, by rw [ht]; exact hP9, hD9⟩, hS.F ht⟩) hS.2.2 dX0_place_30

set_option maxHeartbeats 4000000 in
set_option maxRecDepth 100000 in
theorem ct_X0_place_L1 (l : Launch) (dC : Nat → ClassId) (dI : Nat → Nat → Nat) (o : Nat) (p1 : Int32) (a_chosen : Nat) (v_bestCost : Int32) (a_felt : Nat) (a_own : Nat) (a_share : Nat) (a_rest : Nat) (a_left : Nat) (a_tried : Nat) (v_signs : Int32) (v_lines : Int32) (v_most : Int32) (k_a_chosen : ClassId) (f_a_chosen : Nat → Int32) (k_a_felt : ClassId) (f_a_felt : Nat → Int32) (k_a_own : ClassId) (f_a_own : Nat → Int32) (k_a_share : ClassId) (R_a_share : Nat → Nat) (k_a_rest : ClassId) (R_a_rest : Nat → Nat) (k_a_left : ClassId) (R_a_left : Nat → Nat) (k_a_tried : ClassId) (f_a_tried : Nat → Int32) (LP : List Nat) (sh : Nat → Nat) (fp : Nat → va_E) (cI : ClassId) (cJ : ClassId) (hv_signs : iv v_signs 0 4) (hv_lines : iv v_lines 0 5) (hv_most : iv v_most 0 20) (hfp : pok cI cJ LP sh fp) (hRR_a_share : ∀ i : Nat, i < 5 → R_a_share i ∈ LP ∧ sh (R_a_share i) = 4) (hRR_a_rest : ∀ i : Nat, i < 5 → R_a_rest i ∈ LP ∧ sh (R_a_rest i) = 5) (hRR_a_left : ∀ i : Nat, i < 5 → R_a_left i ∈ LP ∧ sh (R_a_left i) = 5) (sz : Nat) : Met l yX0_place wsX0_place ({ frames := 4, cells := 0, slots := 0, locals := 138 }) (va_Pc [.ref o, .int 1, .int p1] (fun U => U.heap.size = sz ∧ va_P (dC, dI) vwCl ([(o, .inr (0, [.ref a_chosen, .int v_bestCost, .ref a_felt, .ref a_own, .ref a_share, .ref a_rest, .ref a_left, .ref a_tried, .int v_signs, .int v_lines, .int v_most])), (a_chosen, .inl (k_a_chosen, 4, .inl f_a_chosen)), (a_felt, .inl (k_a_felt, 21, .inl f_a_felt)), (a_own, .inl (k_a_own, 4, .inl f_a_own)), (a_share, .inl (k_a_share, 5, .inr (.inr (.inr (.inr (rows_of 5 R_a_share)))))), (a_rest, .inl (k_a_rest, 5, .inr (.inr (.inr (.inr (rows_of 5 R_a_rest)))))), (a_left, .inl (k_a_left, 5, .inr (.inr (.inr (.inr (rows_of 5 R_a_left)))))), (a_tried, .inl (k_a_tried, 4, .inl f_a_tried))] ++ va_pl LP fp) U.heap ∧ va_K (dC, dI) vwCl [(k_a_chosen, .int), (k_a_felt, .int), (k_a_own, .int), (k_a_share, (.array .int)), (k_a_rest, (.array .int)), (k_a_left, (.array .int)), (k_a_tried, .int), (cI, .int), (cJ, .long)] U ∧ va_D (fun _ => True) ([(o, .inr (0, [.ref a_chosen, .int v_bestCost, .ref a_felt, .ref a_own, .ref a_share, .ref a_rest, .ref a_left, .ref a_tried, .int v_signs, .int v_lines, .int v_most])), (a_chosen, .inl (k_a_chosen, 4, .inl f_a_chosen)), (a_felt, .inl (k_a_felt, 21, .inl f_a_felt)), (a_own, .inl (k_a_own, 4, .inl f_a_own)), (a_share, .inl (k_a_share, 5, .inr (.inr (.inr (.inr (rows_of 5 R_a_share)))))), (a_rest, .inl (k_a_rest, 5, .inr (.inr (.inr (.inr (rows_of 5 R_a_rest)))))), (a_left, .inl (k_a_left, 5, .inr (.inr (.inr (.inr (rows_of 5 R_a_left)))))), (a_tried, .inl (k_a_tried, 4, .inl f_a_tried))] ++ va_pl LP fp))) (va_Qv (fun _ : Unit => True) (fun _ t => ∃ (e_v_bestCost : Int32) (e_f_a_chosen : Nat → Int32) (e_f_a_tried : Nat → Int32) (e_fp : Nat → va_E), pok cI cJ LP sh e_fp ∧ va_P (dC, dI) vwCl ([(o, .inr (0, [.ref a_chosen, .int e_v_bestCost, .ref a_felt, .ref a_own, .ref a_share, .ref a_rest, .ref a_left, .ref a_tried, .int v_signs, .int v_lines, .int v_most])), (a_chosen, .inl (k_a_chosen, 4, .inl e_f_a_chosen)), (a_felt, .inl (k_a_felt, 21, .inl f_a_felt)), (a_own, .inl (k_a_own, 4, .inl f_a_own)), (a_share, .inl (k_a_share, 5, .inr (.inr (.inr (.inr (rows_of 5 R_a_share)))))), (a_rest, .inl (k_a_rest, 5, .inr (.inr (.inr (.inr (rows_of 5 R_a_rest)))))), (a_left, .inl (k_a_left, 5, .inr (.inr (.inr (.inr (rows_of 5 R_a_left)))))), (a_tried, .inl (k_a_tried, 4, .inl e_f_a_tried))] ++ va_pl LP e_fp) t.heap ∧ va_D (va_A ([(o, .inr (0, [.ref a_chosen, .int v_bestCost, .ref a_felt, .ref a_own, .ref a_share, .ref a_rest, .ref a_left, .ref a_tried, .int v_signs, .int v_lines, .int v_most])), (a_chosen, .inl (k_a_chosen, 4, .inl f_a_chosen)), (a_felt, .inl (k_a_felt, 21, .inl f_a_felt)), (a_own, .inl (k_a_own, 4, .inl f_a_own)), (a_share, .inl (k_a_share, 5, .inr (.inr (.inr (.inr (rows_of 5 R_a_share)))))), (a_rest, .inl (k_a_rest, 5, .inr (.inr (.inr (.inr (rows_of 5 R_a_rest)))))), (a_left, .inl (k_a_left, 5, .inr (.inr (.inr (.inr (rows_of 5 R_a_left)))))), (a_tried, .inl (k_a_tried, 4, .inl f_a_tried))] ++ va_pl LP fp) sz) ([(o, .inr (0, [.ref a_chosen, .int e_v_bestCost, .ref a_felt, .ref a_own, .ref a_share, .ref a_rest, .ref a_left, .ref a_tried, .int v_signs, .int v_lines, .int v_most])), (a_chosen, .inl (k_a_chosen, 4, .inl e_f_a_chosen)), (a_felt, .inl (k_a_felt, 21, .inl f_a_felt)), (a_own, .inl (k_a_own, 4, .inl f_a_own)), (a_share, .inl (k_a_share, 5, .inr (.inr (.inr (.inr (rows_of 5 R_a_share)))))), (a_rest, .inl (k_a_rest, 5, .inr (.inr (.inr (.inr (rows_of 5 R_a_rest)))))), (a_left, .inl (k_a_left, 5, .inr (.inr (.inr (.inr (rows_of 5 R_a_left)))))), (a_tried, .inl (k_a_tried, 4, .inl e_f_a_tried))] ++ va_pl LP e_fp)) (va_A ([(o, .inr (0, [.ref a_chosen, .int v_bestCost, .ref a_felt, .ref a_own, .ref a_share, .ref a_rest, .ref a_left, .ref a_tried, .int v_signs, .int v_lines, .int v_most])), (a_chosen, .inl (k_a_chosen, 4, .inl f_a_chosen)), (a_felt, .inl (k_a_felt, 21, .inl f_a_felt)), (a_own, .inl (k_a_own, 4, .inl f_a_own)), (a_share, .inl (k_a_share, 5, .inr (.inr (.inr (.inr (rows_of 5 R_a_share)))))), (a_rest, .inl (k_a_rest, 5, .inr (.inr (.inr (.inr (rows_of 5 R_a_rest)))))), (a_left, .inl (k_a_left, 5, .inr (.inr (.inr (.inr (rows_of 5 R_a_left)))))), (a_tried, .inl (k_a_tried, 4, .inl f_a_tried))] ++ va_pl LP fp) sz)) 0 0 (va_A ([(o, .inr (0, [.ref a_chosen, .int v_bestCost, .ref a_felt, .ref a_own, .ref a_share, .ref a_rest, .ref a_left, .ref a_tried, .int v_signs, .int v_lines, .int v_most])), (a_chosen, .inl (k_a_chosen, 4, .inl f_a_chosen)), (a_felt, .inl (k_a_felt, 21, .inl f_a_felt)), (a_own, .inl (k_a_own, 4, .inl f_a_own)), (a_share, .inl (k_a_share, 5, .inr (.inr (.inr (.inr (rows_of 5 R_a_share)))))), (a_rest, .inl (k_a_rest, 5, .inr (.inr (.inr (.inr (rows_of 5 R_a_rest)))))), (a_left, .inl (k_a_left, 5, .inr (.inr (.inr (.inr (rows_of 5 R_a_left)))))), (a_tried, .inl (k_a_tried, 4, .inl f_a_tried))] ++ va_pl LP fp) sz) := by
  refine Met.ofW (cc := cX0_place) (maxL := 7) (ret := none) (by decide) rfl ?_
  intro p e s m args below meth c s₁ B hml hv
  obtain ⟨rfl, hsz, hP, hK, hD0⟩ := hv
  have hx := B.exec
  have hb := B.bytes
  have hr := B.returns
  have hts := atoms_spec (ws := wsX0_place) B.pre
  have hown : s.vm.findClass RX0 = some m.cls := findClass_of_methodNamed B.named
  have hlocks := B.notSynchronized
  subst hsz
  have hD := hD0.self (sz := s.heap.size)
  generalize hAe : va_A ([(o, .inr (0, [.ref a_chosen, .int v_bestCost, .ref a_felt, .ref a_own, .ref a_share, .ref a_rest, .ref a_left, .ref a_tried, .int v_signs, .int v_lines, .int v_most])), (a_chosen, .inl (k_a_chosen, 4, .inl f_a_chosen)), (a_felt, .inl (k_a_felt, 21, .inl f_a_felt)), (a_own, .inl (k_a_own, 4, .inl f_a_own)), (a_share, .inl (k_a_share, 5, .inr (.inr (.inr (.inr (rows_of 5 R_a_share)))))), (a_rest, .inl (k_a_rest, 5, .inr (.inr (.inr (.inr (rows_of 5 R_a_rest)))))), (a_left, .inl (k_a_left, 5, .inr (.inr (.inr (.inr (rows_of 5 R_a_left)))))), (a_tried, .inl (k_a_tried, 4, .inl f_a_tried))] ++ va_pl LP fp) s.heap.size = A at hD ⊢
  have hA : ∀ q : Nat, s.heap.size ≤ q → A q := fun q h => by rw [← hAe]; exact Or.inr h
  have hS : va_S A s.heap s.heap [] := va_S.rf
  have hP : va_P (dC, dI) vwCl ([(o, .inr (0, [.ref a_chosen, .int v_bestCost, .ref a_felt, .ref a_own, .ref a_share, .ref a_rest, .ref a_left, .ref a_tried, .int v_signs, .int v_lines, .int v_most])), (a_chosen, .inl (k_a_chosen, 4, .inl f_a_chosen)), (a_felt, .inl (k_a_felt, 21, .inl f_a_felt)), (a_own, .inl (k_a_own, 4, .inl f_a_own)), (a_share, .inl (k_a_share, 5, .inr (.inr (.inr (.inr (rows_of 5 R_a_share)))))), (a_rest, .inl (k_a_rest, 5, .inr (.inr (.inr (.inr (rows_of 5 R_a_rest)))))), (a_left, .inl (k_a_left, 5, .inr (.inr (.inr (.inr (rows_of 5 R_a_left)))))), (a_tried, .inl (k_a_tried, 4, .inl f_a_tried))] ++ va_pl LP fp) s.heap := hP
  have hl := lv_entry ([.ref o, .int 1, .int p1]) (n := 7) (Nat.le_of_ble_eq_true rfl)
  rw [lg_entry_eq]
  generalize (lg_sl ([.ref o, .int 1, .int p1]) ++ List.replicate (7 - (lg_sl ([.ref o, .int 1, .int p1])).length) Slot.unset).toArray = ls at hl ⊢
  have hl : lv_has ls 7 [(0, .ref o), (1, .int 1), (2, .int p1)] := hl
  refine lv_iload_n hx hb dX0_place_0 rfl (lv_at hl 1 rfl) ?_
  refine lv_aload_n hx hb dX0_place_1 rfl (lv_at hl 0 rfl) ?_
  refine va_get (D := (dC, dI)) (ci := 0) (v := .int v_signs) (C := RX0) (T := TX0) (N := 11) hx hb hts iw_X0_place_X0 hown hK hP 0 rfl rfl 8 (by decide) (hts _ kk_X0_place_0) (fun _ h9 => h9) rfl dX0_place_2 ?_
  have bv_signs := hv_signs.u
  refine lv_icmp_lt (tgt := 31) hx hb dX0_place_5 (by decide) (fun c1 => ?_) (fun c1 => ?_)
  · have c19 := i32_lt c1 (show (1 : Int32).toInt = 1 by decide) rfl
    refine lv_aload_n hx hb dX0_place_31 rfl (lv_at hl 0 rfl) ?_
    refine lv_iload_n hx hb dX0_place_32 rfl (lv_at hl 1 rfl) ?_
    have hPc := hP.part (cx := [(o, .inr (0, [.ref a_chosen, .int v_bestCost, .ref a_felt, .ref a_own, .ref a_share, .ref a_rest, .ref a_left, .ref a_tried, .int v_signs, .int v_lines, .int v_most])), (a_felt, .inl (k_a_felt, 21, .inl f_a_felt)), (a_own, .inl (k_a_own, 4, .inl f_a_own)), (a_share, .inl (k_a_share, 5, .inr (.inr (.inr (.inr (rows_of 5 R_a_share)))))), (a_rest, .inl (k_a_rest, 5, .inr (.inr (.inr (.inr (rows_of 5 R_a_rest)))))), (a_left, .inl (k_a_left, 5, .inr (.inr (.inr (.inr (rows_of 5 R_a_left))))))]) [0, 2, 3, 4, 5, 6] rfl
    have hDc := hD.part (cx := [(o, .inr (0, [.ref a_chosen, .int v_bestCost, .ref a_felt, .ref a_own, .ref a_share, .ref a_rest, .ref a_left, .ref a_tried, .int v_signs, .int v_lines, .int v_most])), (a_felt, .inl (k_a_felt, 21, .inl f_a_felt)), (a_own, .inl (k_a_own, 4, .inl f_a_own)), (a_share, .inl (k_a_share, 5, .inr (.inr (.inr (.inr (rows_of 5 R_a_share)))))), (a_rest, .inl (k_a_rest, 5, .inr (.inr (.inr (.inr (rows_of 5 R_a_rest)))))), (a_left, .inl (k_a_left, 5, .inr (.inr (.inr (.inr (rows_of 5 R_a_left))))))]) [0, 2, 3, 4, 5, 6] (by decide) rfl
    have hKc := hK.sub (tys' := [(k_a_felt, .int), (k_a_own, .int), (k_a_share, (.array .int)), (k_a_rest, (.array .int)), (k_a_left, (.array .int)), (cI, .int), (cJ, .long)]) [1, 2, 3, 4, 5, 7, 8] rfl
    have hFc := va_freeP (cx := [(o, .inr (0, [.ref a_chosen, .int v_bestCost, .ref a_felt, .ref a_own, .ref a_share, .ref a_rest, .ref a_left, .ref a_tried, .int v_signs, .int v_lines, .int v_most])), (a_felt, .inl (k_a_felt, 21, .inl f_a_felt)), (a_own, .inl (k_a_own, 4, .inl f_a_own)), (a_share, .inl (k_a_share, 5, .inr (.inr (.inr (.inr (rows_of 5 R_a_share)))))), (a_rest, .inl (k_a_rest, 5, .inr (.inr (.inr (.inr (rows_of 5 R_a_rest)))))), (a_left, .inl (k_a_left, 5, .inr (.inr (.inr (.inr (rows_of 5 R_a_left))))))]) hD hS hA [0, 2, 3, 4, 5, 6] rfl
    refine va_calli (va_runV (As := [.int 1]) (rest := []) ⟨hx, hb, hml, hown, hts⟩ (ct_X0_lastCoin l dC dI o 1 a_chosen v_bestCost a_felt a_own a_share a_rest a_left a_tried v_signs v_lines v_most k_a_felt f_a_felt k_a_own f_a_own k_a_share R_a_share k_a_rest R_a_rest k_a_left R_a_left LP sh fp cI cJ (iv.m (by decide)) hv_lines hv_most hfp hRR_a_share hRR_a_rest hRR_a_left s.heap.size) (cwV 1 hts gX0_place_X0_lastCoin rfl rfl rfl (by decide +kernel) ⟨Nat.le_of_ble_eq_true rfl, Nat.le_of_ble_eq_true rfl⟩) ⟨fun a U g mk q => by obtain ⟨q0, q1, qP, qK, qD⟩ := q; exact ⟨q0, q1, qP, va_K.moved (u := U) (U := U.calling g mk a) (Vm.Alike.refl U.vm) qK, qD⟩, va_recv hKc hPc (ci := 0) (q0 := 0) rfl rfl, fun U hU hW => ⟨rfl, by rw [hU], by rw [hU]; exact hPc, va_K.moved hW.alike hKc, hDc.weaken (fun _ _ _ _ => trivial)⟩⟩ rfl rfl hl.1 rfl (lv_room (Nat.le_of_ble_eq_true rfl)) dX0_place_33 ⟨Nat.le_of_ble_eq_true rfl, Nat.le_of_ble_eq_true rfl⟩) hS (fun q _ h => hFc q h) hFc (fun r2 u t H1 locs ht hvm hw hB hz1 hk1 hS => ?_)
    have hw : r2 = u := hw.symm
    subst hw
    obtain ⟨hr2, hP1, hD1⟩ := hB
    rw [ht] at hP1
    obtain ⟨hP, hD⟩ := va_joinP (X := [(o, .inr (0, [.ref a_chosen, .int v_bestCost, .ref a_felt, .ref a_own, .ref a_share, .ref a_rest, .ref a_left, .ref a_tried, .int v_signs, .int v_lines, .int v_most])), (a_chosen, .inl (k_a_chosen, 4, .inl f_a_chosen)), (a_felt, .inl (k_a_felt, 21, .inl f_a_felt)), (a_own, .inl (k_a_own, 4, .inl f_a_own)), (a_share, .inl (k_a_share, 5, .inr (.inr (.inr (.inr (rows_of 5 R_a_share)))))), (a_rest, .inl (k_a_rest, 5, .inr (.inr (.inr (.inr (rows_of 5 R_a_rest)))))), (a_left, .inl (k_a_left, 5, .inr (.inr (.inr (.inr (rows_of 5 R_a_left)))))), (a_tried, .inl (k_a_tried, 4, .inl f_a_tried))]) (cx := [(o, .inr (0, [.ref a_chosen, .int v_bestCost, .ref a_felt, .ref a_own, .ref a_share, .ref a_rest, .ref a_left, .ref a_tried, .int v_signs, .int v_lines, .int v_most])), (a_felt, .inl (k_a_felt, 21, .inl f_a_felt)), (a_own, .inl (k_a_own, 4, .inl f_a_own)), (a_share, .inl (k_a_share, 5, .inr (.inr (.inr (.inr (rows_of 5 R_a_share)))))), (a_rest, .inl (k_a_rest, 5, .inr (.inr (.inr (.inr (rows_of 5 R_a_rest)))))), (a_left, .inl (k_a_left, 5, .inr (.inr (.inr (.inr (rows_of 5 R_a_left))))))]) (wr := [(a_chosen, .inl (k_a_chosen, 4, .inl f_a_chosen)), (a_tried, .inl (k_a_tried, 4, .inl f_a_tried))]) (rx := [(o, .inr (0, [.ref a_chosen, .int v_bestCost, .ref a_felt, .ref a_own, .ref a_share, .ref a_rest, .ref a_left, .ref a_tried, .int v_signs, .int v_lines, .int v_most])), (a_felt, .inl (k_a_felt, 21, .inl f_a_felt)), (a_own, .inl (k_a_own, 4, .inl f_a_own)), (a_share, .inl (k_a_share, 5, .inr (.inr (.inr (.inr (rows_of 5 R_a_share)))))), (a_rest, .inl (k_a_rest, 5, .inr (.inr (.inr (.inr (rows_of 5 R_a_rest)))))), (a_left, .inl (k_a_left, 5, .inr (.inr (.inr (.inr (rows_of 5 R_a_left))))))]) hP hD [0, 2, 3, 4, 5, 6] [1, 7] rfl rfl (by decide) (by decide) hk1 hFc hP1 hD1
    clear hPc hDc hKc hFc hP1 hD1 hk1 hz1
    generalize H1 = H at hP hS ⊢
    have hP : va_P (dC, dI) vwCl ([(a_chosen, .inl (k_a_chosen, 4, .inl f_a_chosen)), (a_tried, .inl (k_a_tried, 4, .inl f_a_tried)), (o, .inr (0, [.ref a_chosen, .int v_bestCost, .ref a_felt, .ref a_own, .ref a_share, .ref a_rest, .ref a_left, .ref a_tried, .int v_signs, .int v_lines, .int v_most])), (a_felt, .inl (k_a_felt, 21, .inl f_a_felt)), (a_own, .inl (k_a_own, 4, .inl f_a_own)), (a_share, .inl (k_a_share, 5, .inr (.inr (.inr (.inr (rows_of 5 R_a_share)))))), (a_rest, .inl (k_a_rest, 5, .inr (.inr (.inr (.inr (rows_of 5 R_a_rest)))))), (a_left, .inl (k_a_left, 5, .inr (.inr (.inr (.inr (rows_of 5 R_a_left))))))] ++ va_pl LP fp) H := hP
    have hD : va_D A ([(a_chosen, .inl (k_a_chosen, 4, .inl f_a_chosen)), (a_tried, .inl (k_a_tried, 4, .inl f_a_tried)), (o, .inr (0, [.ref a_chosen, .int v_bestCost, .ref a_felt, .ref a_own, .ref a_share, .ref a_rest, .ref a_left, .ref a_tried, .int v_signs, .int v_lines, .int v_most])), (a_felt, .inl (k_a_felt, 21, .inl f_a_felt)), (a_own, .inl (k_a_own, 4, .inl f_a_own)), (a_share, .inl (k_a_share, 5, .inr (.inr (.inr (.inr (rows_of 5 R_a_share)))))), (a_rest, .inl (k_a_rest, 5, .inr (.inr (.inr (.inr (rows_of 5 R_a_rest)))))), (a_left, .inl (k_a_left, 5, .inr (.inr (.inr (.inr (rows_of 5 R_a_left))))))] ++ va_pl LP fp) := hD
    refine W.widen (k := 0) (n := 0) (by decide) (by decide) ?_
    refine lv_istore_n (lv' := [(3, .int r2), (0, .ref o), (1, .int 1), (2, .int p1)]) hx hb dX0_place_36 rfl hl (by decide) rfl (fun ls hl => ?_)
    refine lv_aload_n hx hb dX0_place_37 rfl (lv_at hl 1 rfl) ?_
    refine lv_iload_n hx hb dX0_place_38 rfl (lv_at hl 2 rfl) ?_
    have hPc := hP.part (cx := [(o, .inr (0, [.ref a_chosen, .int v_bestCost, .ref a_felt, .ref a_own, .ref a_share, .ref a_rest, .ref a_left, .ref a_tried, .int v_signs, .int v_lines, .int v_most])), (a_felt, .inl (k_a_felt, 21, .inl f_a_felt)), (a_share, .inl (k_a_share, 5, .inr (.inr (.inr (.inr (rows_of 5 R_a_share)))))), (a_rest, .inl (k_a_rest, 5, .inr (.inr (.inr (.inr (rows_of 5 R_a_rest)))))), (a_left, .inl (k_a_left, 5, .inr (.inr (.inr (.inr (rows_of 5 R_a_left))))))]) [2, 3, 5, 6, 7] rfl
    have hDc := hD.part (cx := [(o, .inr (0, [.ref a_chosen, .int v_bestCost, .ref a_felt, .ref a_own, .ref a_share, .ref a_rest, .ref a_left, .ref a_tried, .int v_signs, .int v_lines, .int v_most])), (a_felt, .inl (k_a_felt, 21, .inl f_a_felt)), (a_share, .inl (k_a_share, 5, .inr (.inr (.inr (.inr (rows_of 5 R_a_share)))))), (a_rest, .inl (k_a_rest, 5, .inr (.inr (.inr (.inr (rows_of 5 R_a_rest)))))), (a_left, .inl (k_a_left, 5, .inr (.inr (.inr (.inr (rows_of 5 R_a_left))))))]) [2, 3, 5, 6, 7] (by decide) rfl
    have hKc := hK.sub (tys' := [(k_a_felt, .int), (k_a_share, (.array .int)), (k_a_rest, (.array .int)), (k_a_left, (.array .int)), (cI, .int), (cJ, .long)]) [1, 3, 4, 5, 7, 8] rfl
    have hFc := va_freeP (cx := [(o, .inr (0, [.ref a_chosen, .int v_bestCost, .ref a_felt, .ref a_own, .ref a_share, .ref a_rest, .ref a_left, .ref a_tried, .int v_signs, .int v_lines, .int v_most])), (a_felt, .inl (k_a_felt, 21, .inl f_a_felt)), (a_share, .inl (k_a_share, 5, .inr (.inr (.inr (.inr (rows_of 5 R_a_share)))))), (a_rest, .inl (k_a_rest, 5, .inr (.inr (.inr (.inr (rows_of 5 R_a_rest)))))), (a_left, .inl (k_a_left, 5, .inr (.inr (.inr (.inr (rows_of 5 R_a_left))))))]) hD hS hA [2, 3, 5, 6, 7] rfl
    refine va_calli (va_runV (As := [.int 1]) (rest := []) ⟨hx, hb, hml, hown, hts⟩ (ct_X0_firstCoin l dC dI o 1 a_chosen v_bestCost a_felt a_own a_share a_rest a_left a_tried v_signs v_lines v_most k_a_felt f_a_felt k_a_share R_a_share k_a_rest R_a_rest k_a_left R_a_left LP sh fp cI cJ (iv.m (by decide)) hv_lines hv_most hfp hRR_a_share hRR_a_rest hRR_a_left H.size) (cwV 1 hts gX0_place_X0_firstCoin rfl rfl rfl (by decide +kernel) ⟨Nat.le_of_ble_eq_true rfl, Nat.le_of_ble_eq_true rfl⟩) ⟨fun a U g mk q => by obtain ⟨q0, q1, qP, qK, qD⟩ := q; exact ⟨q0, q1, qP, va_K.moved (u := U) (U := U.calling g mk a) (Vm.Alike.refl U.vm) qK, qD⟩, va_recv hKc hPc (ci := 0) (q0 := 0) rfl rfl, fun U hU hW => ⟨rfl, by rw [hU], by rw [hU]; exact hPc, va_K.moved hW.alike hKc, hDc.weaken (fun _ _ _ _ => trivial)⟩⟩ rfl rfl hl.1 rfl (lv_room (Nat.le_of_ble_eq_true rfl)) dX0_place_39 ⟨Nat.le_of_ble_eq_true rfl, Nat.le_of_ble_eq_true rfl⟩) hS (fun q _ h => hFc q h) hFc (fun r3 u t H1 locs ht hvm hw hB hz1 hk1 hS => ?_)
    have hw : r3 = u := hw.symm
    subst hw
    obtain ⟨hr3, hP1, hD1⟩ := hB
    rw [ht] at hP1
    obtain ⟨hP, hD⟩ := va_joinP (X := [(a_chosen, .inl (k_a_chosen, 4, .inl f_a_chosen)), (a_tried, .inl (k_a_tried, 4, .inl f_a_tried)), (o, .inr (0, [.ref a_chosen, .int v_bestCost, .ref a_felt, .ref a_own, .ref a_share, .ref a_rest, .ref a_left, .ref a_tried, .int v_signs, .int v_lines, .int v_most])), (a_felt, .inl (k_a_felt, 21, .inl f_a_felt)), (a_own, .inl (k_a_own, 4, .inl f_a_own)), (a_share, .inl (k_a_share, 5, .inr (.inr (.inr (.inr (rows_of 5 R_a_share)))))), (a_rest, .inl (k_a_rest, 5, .inr (.inr (.inr (.inr (rows_of 5 R_a_rest)))))), (a_left, .inl (k_a_left, 5, .inr (.inr (.inr (.inr (rows_of 5 R_a_left))))))]) (cx := [(o, .inr (0, [.ref a_chosen, .int v_bestCost, .ref a_felt, .ref a_own, .ref a_share, .ref a_rest, .ref a_left, .ref a_tried, .int v_signs, .int v_lines, .int v_most])), (a_felt, .inl (k_a_felt, 21, .inl f_a_felt)), (a_share, .inl (k_a_share, 5, .inr (.inr (.inr (.inr (rows_of 5 R_a_share)))))), (a_rest, .inl (k_a_rest, 5, .inr (.inr (.inr (.inr (rows_of 5 R_a_rest)))))), (a_left, .inl (k_a_left, 5, .inr (.inr (.inr (.inr (rows_of 5 R_a_left))))))]) (wr := [(a_chosen, .inl (k_a_chosen, 4, .inl f_a_chosen)), (a_tried, .inl (k_a_tried, 4, .inl f_a_tried)), (a_own, .inl (k_a_own, 4, .inl f_a_own))]) (rx := [(o, .inr (0, [.ref a_chosen, .int v_bestCost, .ref a_felt, .ref a_own, .ref a_share, .ref a_rest, .ref a_left, .ref a_tried, .int v_signs, .int v_lines, .int v_most])), (a_felt, .inl (k_a_felt, 21, .inl f_a_felt)), (a_share, .inl (k_a_share, 5, .inr (.inr (.inr (.inr (rows_of 5 R_a_share)))))), (a_rest, .inl (k_a_rest, 5, .inr (.inr (.inr (.inr (rows_of 5 R_a_rest)))))), (a_left, .inl (k_a_left, 5, .inr (.inr (.inr (.inr (rows_of 5 R_a_left))))))]) hP hD [2, 3, 5, 6, 7] [0, 1, 4] rfl rfl (by decide) (by decide) hk1 hFc hP1 hD1
    clear hPc hDc hKc hFc hP1 hD1 hk1 hz1
    generalize H1 = H at hP hS ⊢
    have hP : va_P (dC, dI) vwCl ([(a_chosen, .inl (k_a_chosen, 4, .inl f_a_chosen)), (a_tried, .inl (k_a_tried, 4, .inl f_a_tried)), (a_own, .inl (k_a_own, 4, .inl f_a_own)), (o, .inr (0, [.ref a_chosen, .int v_bestCost, .ref a_felt, .ref a_own, .ref a_share, .ref a_rest, .ref a_left, .ref a_tried, .int v_signs, .int v_lines, .int v_most])), (a_felt, .inl (k_a_felt, 21, .inl f_a_felt)), (a_share, .inl (k_a_share, 5, .inr (.inr (.inr (.inr (rows_of 5 R_a_share)))))), (a_rest, .inl (k_a_rest, 5, .inr (.inr (.inr (.inr (rows_of 5 R_a_rest)))))), (a_left, .inl (k_a_left, 5, .inr (.inr (.inr (.inr (rows_of 5 R_a_left))))))] ++ va_pl LP fp) H := hP
    have hD : va_D A ([(a_chosen, .inl (k_a_chosen, 4, .inl f_a_chosen)), (a_tried, .inl (k_a_tried, 4, .inl f_a_tried)), (a_own, .inl (k_a_own, 4, .inl f_a_own)), (o, .inr (0, [.ref a_chosen, .int v_bestCost, .ref a_felt, .ref a_own, .ref a_share, .ref a_rest, .ref a_left, .ref a_tried, .int v_signs, .int v_lines, .int v_most])), (a_felt, .inl (k_a_felt, 21, .inl f_a_felt)), (a_share, .inl (k_a_share, 5, .inr (.inr (.inr (.inr (rows_of 5 R_a_share)))))), (a_rest, .inl (k_a_rest, 5, .inr (.inr (.inr (.inr (rows_of 5 R_a_rest)))))), (a_left, .inl (k_a_left, 5, .inr (.inr (.inr (.inr (rows_of 5 R_a_left))))))] ++ va_pl LP fp) := hD
    refine W.widen (k := 0) (n := 0) (by decide) (by decide) ?_
    refine lv_istore (lv' := [(4, .int r3), (3, .int r2), (0, .ref o), (1, .int 1), (2, .int p1)]) hx hb dX0_place_42 hl (by decide) rfl (fun ls hl => ?_)
    refine tl_loop (I := fun nn H locs ls => ∃ (v4 : Int32) (f5 : Nat → Int32) (f6 : Nat → Int32) (v7 : Int32) (f8 : Nat → va_E), nn = (21 - v4.toInt).toNat ∧ iv v4 0 21 ∧ pok cI cJ LP sh f8 ∧  va_P (dC, dI) vwCl ([(a_chosen, .inl (k_a_chosen, 4, .inl f6)), (a_tried, .inl (k_a_tried, 4, .inl f5)), (a_own, .inl (k_a_own, 4, .inl f_a_own)), (o, .inr (0, [.ref a_chosen, .int v7, .ref a_felt, .ref a_own, .ref a_share, .ref a_rest, .ref a_left, .ref a_tried, .int v_signs, .int v_lines, .int v_most])), (a_felt, .inl (k_a_felt, 21, .inl f_a_felt)), (a_share, .inl (k_a_share, 5, .inr (.inr (.inr (.inr (rows_of 5 R_a_share)))))), (a_rest, .inl (k_a_rest, 5, .inr (.inr (.inr (.inr (rows_of 5 R_a_rest)))))), (a_left, .inl (k_a_left, 5, .inr (.inr (.inr (.inr (rows_of 5 R_a_left))))))] ++ va_pl LP f8) H ∧ va_D A ([(a_chosen, .inl (k_a_chosen, 4, .inl f6)), (a_tried, .inl (k_a_tried, 4, .inl f5)), (a_own, .inl (k_a_own, 4, .inl f_a_own)), (o, .inr (0, [.ref a_chosen, .int v7, .ref a_felt, .ref a_own, .ref a_share, .ref a_rest, .ref a_left, .ref a_tried, .int v_signs, .int v_lines, .int v_most])), (a_felt, .inl (k_a_felt, 21, .inl f_a_felt)), (a_share, .inl (k_a_share, 5, .inr (.inr (.inr (.inr (rows_of 5 R_a_share)))))), (a_rest, .inl (k_a_rest, 5, .inr (.inr (.inr (.inr (rows_of 5 R_a_rest)))))), (a_left, .inl (k_a_left, 5, .inr (.inr (.inr (.inr (rows_of 5 R_a_left))))))] ++ va_pl LP f8) ∧ va_S A s.heap H locs ∧ lv_has ls 7 [(4, .int v4), (3, .int r2), (0, .ref o), (1, .int 1), (2, .int p1)]) ?_ ⟨r3, f_a_tried, f_a_chosen, v_bestCost, fp, rfl, hr3, hfp, hP, hD, hS, lv_sub hl [0, 1, 2, 3, 4] rfl⟩
    clear hP hD hS hl
    intro nn44 H locs ls hI ih44
    obtain ⟨v4, f5, f6, v7, f8, hn44, hv4, hf8, hP, hD, hS, hl⟩ := hI
    have bv4 := hv4.u
    refine lv_iload hx hb dX0_place_44 (lv_at hl 0 rfl) ?_
    refine lv_iload_n hx hb dX0_place_46 rfl (lv_at hl 1 rfl) ?_
    have br2 := hr2.u
    refine lv_icmp_gt (tgt := 164) hx hb dX0_place_47 (by decide) (fun c9 => ?_) (fun c9 => ?_)
    · have c99 := i32_lt c9 rfl rfl
      have hP9 := hP.part (cx := [(o, .inr (0, [.ref a_chosen, .int v7, .ref a_felt, .ref a_own, .ref a_share, .ref a_rest, .ref a_left, .ref a_tried, .int v_signs, .int v_lines, .int v_most])), (a_chosen, .inl (k_a_chosen, 4, .inl f6)), (a_felt, .inl (k_a_felt, 21, .inl f_a_felt)), (a_own, .inl (k_a_own, 4, .inl f_a_own)), (a_share, .inl (k_a_share, 5, .inr (.inr (.inr (.inr (rows_of 5 R_a_share)))))), (a_rest, .inl (k_a_rest, 5, .inr (.inr (.inr (.inr (rows_of 5 R_a_rest)))))), (a_left, .inl (k_a_left, 5, .inr (.inr (.inr (.inr (rows_of 5 R_a_left)))))), (a_tried, .inl (k_a_tried, 4, .inl f5))]) [3, 0, 4, 2, 5, 6, 7, 1] rfl
      have hD9 := hD.part (cx := [(o, .inr (0, [.ref a_chosen, .int v7, .ref a_felt, .ref a_own, .ref a_share, .ref a_rest, .ref a_left, .ref a_tried, .int v_signs, .int v_lines, .int v_most])), (a_chosen, .inl (k_a_chosen, 4, .inl f6)), (a_felt, .inl (k_a_felt, 21, .inl f_a_felt)), (a_own, .inl (k_a_own, 4, .inl f_a_own)), (a_share, .inl (k_a_share, 5, .inr (.inr (.inr (.inr (rows_of 5 R_a_share)))))), (a_rest, .inl (k_a_rest, 5, .inr (.inr (.inr (.inr (rows_of 5 R_a_rest)))))), (a_left, .inl (k_a_left, 5, .inr (.inr (.inr (.inr (rows_of 5 R_a_left)))))), (a_tried, .inl (k_a_tried, 4, .inl f5))]) [3, 0, 4, 2, 5, 6, 7, 1] (by decide) rfl
      exact W.vret hx hb hr (fun t ht hW => ⟨⟨(), rfl, trivial, v7, f6, f5, f8, hf8, by rw [ht]; exact hP9, hD9⟩, hS.F ht⟩) hS.2.2 dX0_place_164
    · have c99 := i32_nlt c9 rfl rfl
      refine lv_iload_n hx hb dX0_place_50 rfl (lv_at hl 4 rfl) ?_
      refine lv_aload_n hx hb dX0_place_51 rfl (lv_at hl 2 rfl) ?_
      refine va_get (D := (dC, dI)) (ci := 0) (v := .ref a_own) (C := RX0) (T := TX0) (N := 11) hx hb hts iw_X0_place_X0 hown hK hP 3 rfl rfl 3 (by decide) (hts _ kk_X0_place_1) (fun _ h9 => h9) rfl dX0_place_52 ?_
      refine lv_iload_n hx hb dX0_place_55 rfl (lv_at hl 3 rfl) ?_
      refine va_iald hx hb hK hP 2 2 rfl rfl (vq_in 1 4 (by decide)) dX0_place_56 ?_
      refine lv_topi (fun x10 ex10 => ?_)
      refine lv_iload hx hb dX0_place_57 (lv_at hl 0 rfl) ?_
      refine lv_imul hx hb dX0_place_59 ?_
      refine lv_topi (fun x11 ex11 => ?_)
      refine lv_iadd hx hb dX0_place_60 ?_
      refine lv_topi (fun x12 ex12 => ?_)
      refine lv_istore (lv' := [(5, .int x12), (4, .int v4), (3, .int r2), (0, .ref o), (1, .int 1), (2, .int p1)]) hx hb dX0_place_61 hl (by decide) rfl (fun ls hl => ?_)
      refine lv_iload hx hb dX0_place_63 (lv_at hl 0 rfl) ?_
      refine lv_aload_n hx hb dX0_place_65 rfl (lv_at hl 3 rfl) ?_
      refine va_get (D := (dC, dI)) (ci := 0) (v := .int v7) (C := RX0) (T := TX0) (N := 11) hx hb hts iw_X0_place_X0 hown hK hP 3 rfl rfl 1 (by decide) (hts _ kk_X0_place_2) (fun _ h9 => h9) rfl dX0_place_66 ?_
      have bx12 := i32_rng x12
      have bv7 := i32_rng v7
      refine lv_icmp_lt (tgt := 73) hx hb dX0_place_69 (by decide) (fun c13 => ?_) (fun c13 => ?_)
      · have c139 := i32_lt c13 rfl rfl
        refine lv_aload_n hx hb dX0_place_73 rfl (lv_at hl 3 rfl) ?_
        refine va_get (D := (dC, dI)) (ci := 0) (v := .ref a_tried) (C := RX0) (T := TX0) (N := 11) hx hb hts iw_X0_place_X0 hown hK hP 3 rfl rfl 7 (by decide) (hts _ kk_X0_place_3) (fun _ h9 => h9) rfl dX0_place_74 ?_
        refine lv_iload_n hx hb dX0_place_77 rfl (lv_at hl 4 rfl) ?_
        refine lv_iload hx hb dX0_place_78 (lv_at hl 1 rfl) ?_
        refine va_iast hx hb hK hP hD hS 1 6 rfl rfl (vq_in 1 4 (by decide)) dX0_place_80 (fun H locs hP hD hS => ?_)
        have hP : va_P (dC, dI) vwCl ([(a_chosen, .inl (k_a_chosen, 4, .inl f6)), (a_tried, .inl (k_a_tried, 4, .inl (upd f5 (Int32.toNatClampNeg 1) v4))), (a_own, .inl (k_a_own, 4, .inl f_a_own)), (o, .inr (0, [.ref a_chosen, .int v7, .ref a_felt, .ref a_own, .ref a_share, .ref a_rest, .ref a_left, .ref a_tried, .int v_signs, .int v_lines, .int v_most])), (a_felt, .inl (k_a_felt, 21, .inl f_a_felt)), (a_share, .inl (k_a_share, 5, .inr (.inr (.inr (.inr (rows_of 5 R_a_share)))))), (a_rest, .inl (k_a_rest, 5, .inr (.inr (.inr (.inr (rows_of 5 R_a_rest)))))), (a_left, .inl (k_a_left, 5, .inr (.inr (.inr (.inr (rows_of 5 R_a_left))))))] ++ va_pl LP f8) H := hP
        have hD : va_D A ([(a_chosen, .inl (k_a_chosen, 4, .inl f6)), (a_tried, .inl (k_a_tried, 4, .inl (upd f5 (Int32.toNatClampNeg 1) v4))), (a_own, .inl (k_a_own, 4, .inl f_a_own)), (o, .inr (0, [.ref a_chosen, .int v7, .ref a_felt, .ref a_own, .ref a_share, .ref a_rest, .ref a_left, .ref a_tried, .int v_signs, .int v_lines, .int v_most])), (a_felt, .inl (k_a_felt, 21, .inl f_a_felt)), (a_share, .inl (k_a_share, 5, .inr (.inr (.inr (.inr (rows_of 5 R_a_share)))))), (a_rest, .inl (k_a_rest, 5, .inr (.inr (.inr (.inr (rows_of 5 R_a_rest)))))), (a_left, .inl (k_a_left, 5, .inr (.inr (.inr (.inr (rows_of 5 R_a_left))))))] ++ va_pl LP f8) := hD
        have wf14 : (upd f5 (Int32.toNatClampNeg 1) v4) (Int32.toNatClampNeg 1) = v4 := pk_us
        generalize upd f5 (Int32.toNatClampNeg 1) v4 = f14 at hP hD wf14
        have hP : va_P (dC, dI) vwCl ([(a_chosen, .inl (k_a_chosen, 4, .inl f6)), (a_tried, .inl (k_a_tried, 4, .inl f14)), (a_own, .inl (k_a_own, 4, .inl f_a_own)), (o, .inr (0, [.ref a_chosen, .int v7, .ref a_felt, .ref a_own, .ref a_share, .ref a_rest, .ref a_left, .ref a_tried, .int v_signs, .int v_lines, .int v_most])), (a_felt, .inl (k_a_felt, 21, .inl f_a_felt)), (a_share, .inl (k_a_share, 5, .inr (.inr (.inr (.inr (rows_of 5 R_a_share)))))), (a_rest, .inl (k_a_rest, 5, .inr (.inr (.inr (.inr (rows_of 5 R_a_rest)))))), (a_left, .inl (k_a_left, 5, .inr (.inr (.inr (.inr (rows_of 5 R_a_left))))))] ++ va_pl LP f8) H := hP
        have hD : va_D A ([(a_chosen, .inl (k_a_chosen, 4, .inl f6)), (a_tried, .inl (k_a_tried, 4, .inl f14)), (a_own, .inl (k_a_own, 4, .inl f_a_own)), (o, .inr (0, [.ref a_chosen, .int v7, .ref a_felt, .ref a_own, .ref a_share, .ref a_rest, .ref a_left, .ref a_tried, .int v_signs, .int v_lines, .int v_most])), (a_felt, .inl (k_a_felt, 21, .inl f_a_felt)), (a_share, .inl (k_a_share, 5, .inr (.inr (.inr (.inr (rows_of 5 R_a_share)))))), (a_rest, .inl (k_a_rest, 5, .inr (.inr (.inr (.inr (rows_of 5 R_a_rest)))))), (a_left, .inl (k_a_left, 5, .inr (.inr (.inr (.inr (rows_of 5 R_a_left))))))] ++ va_pl LP f8) := hD
        refine lv_iconst (v := 0) hx hb dX0_place_81 (by decide) ?_
        refine lv_istore (lv' := [(6, .int 0), (5, .int x12), (4, .int v4), (3, .int r2), (0, .ref o), (1, .int 1), (2, .int p1)]) hx hb dX0_place_82 hl (by decide) rfl (fun ls hl => ?_)
        refine tl_loop (I := fun nn H locs ls => ∃ (v15 : Int32) (f16 : Nat → va_E), nn = (5 - v15.toInt).toNat ∧ iv v15 0 5 ∧ pok cI cJ LP sh f16 ∧  va_P (dC, dI) vwCl ([(a_chosen, .inl (k_a_chosen, 4, .inl f6)), (a_tried, .inl (k_a_tried, 4, .inl f14)), (a_own, .inl (k_a_own, 4, .inl f_a_own)), (o, .inr (0, [.ref a_chosen, .int v7, .ref a_felt, .ref a_own, .ref a_share, .ref a_rest, .ref a_left, .ref a_tried, .int v_signs, .int v_lines, .int v_most])), (a_felt, .inl (k_a_felt, 21, .inl f_a_felt)), (a_share, .inl (k_a_share, 5, .inr (.inr (.inr (.inr (rows_of 5 R_a_share)))))), (a_rest, .inl (k_a_rest, 5, .inr (.inr (.inr (.inr (rows_of 5 R_a_rest)))))), (a_left, .inl (k_a_left, 5, .inr (.inr (.inr (.inr (rows_of 5 R_a_left))))))] ++ va_pl LP f16) H ∧ va_D A ([(a_chosen, .inl (k_a_chosen, 4, .inl f6)), (a_tried, .inl (k_a_tried, 4, .inl f14)), (a_own, .inl (k_a_own, 4, .inl f_a_own)), (o, .inr (0, [.ref a_chosen, .int v7, .ref a_felt, .ref a_own, .ref a_share, .ref a_rest, .ref a_left, .ref a_tried, .int v_signs, .int v_lines, .int v_most])), (a_felt, .inl (k_a_felt, 21, .inl f_a_felt)), (a_share, .inl (k_a_share, 5, .inr (.inr (.inr (.inr (rows_of 5 R_a_share)))))), (a_rest, .inl (k_a_rest, 5, .inr (.inr (.inr (.inr (rows_of 5 R_a_rest)))))), (a_left, .inl (k_a_left, 5, .inr (.inr (.inr (.inr (rows_of 5 R_a_left))))))] ++ va_pl LP f16) ∧ va_S A s.heap H locs ∧ lv_has ls 7 [(6, .int v15), (5, .int x12), (4, .int v4), (3, .int r2), (0, .ref o), (1, .int 1), (2, .int p1)]) ?_ ⟨0, f8, rfl, (iv.m (by decide)), hf8, hP, hD, hS, lv_sub hl [0, 1, 2, 3, 4, 5, 6] rfl⟩
        clear hP hD hS hl
        intro nn84 H locs ls hI ih84
        obtain ⟨v15, f16, hn84, hv15, hf16, hP, hD, hS, hl⟩ := hI
        have bv15 := hv15.u
        refine lv_iload hx hb dX0_place_84 (lv_at hl 0 rfl) ?_
        refine lv_aload_n hx hb dX0_place_86 rfl (lv_at hl 4 rfl) ?_
        refine va_get (D := (dC, dI)) (ci := 0) (v := .int v_lines) (C := RX0) (T := TX0) (N := 11) hx hb hts iw_X0_place_X0 hown hK hP 3 rfl rfl 9 (by decide) (hts _ kk_X0_place_4) (fun _ h9 => h9) rfl dX0_place_87 ?_
        have bv_lines := hv_lines.u
        refine lv_icmp_ge (tgt := 137) hx hb dX0_place_90 (by decide) (fun c17 => ?_) (fun c17 => ?_)
        · have c179 := i32_le c17 rfl rfl
          refine lv_aload_n hx hb dX0_place_137 rfl (lv_at hl 4 rfl) ?_
          refine lv_iload_n hx hb dX0_place_138 rfl (lv_at hl 5 rfl) ?_
          refine lv_iconst (v := 1) hx hb dX0_place_139 (by decide) ?_
          refine lv_iadd hx hb dX0_place_140 ?_
          refine px_i (v := 2) (by decide) ?_
          refine lv_iload hx hb dX0_place_141 (lv_at hl 1 rfl) ?_
          have hPc := hP.part (cx := [(o, .inr (0, [.ref a_chosen, .int v7, .ref a_felt, .ref a_own, .ref a_share, .ref a_rest, .ref a_left, .ref a_tried, .int v_signs, .int v_lines, .int v_most])), (a_felt, .inl (k_a_felt, 21, .inl f_a_felt)), (a_own, .inl (k_a_own, 4, .inl f_a_own)), (a_share, .inl (k_a_share, 5, .inr (.inr (.inr (.inr (rows_of 5 R_a_share)))))), (a_left, .inl (k_a_left, 5, .inr (.inr (.inr (.inr (rows_of 5 R_a_left))))))]) [3, 4, 2, 5, 7] rfl
          have hDc := hD.part (cx := [(o, .inr (0, [.ref a_chosen, .int v7, .ref a_felt, .ref a_own, .ref a_share, .ref a_rest, .ref a_left, .ref a_tried, .int v_signs, .int v_lines, .int v_most])), (a_felt, .inl (k_a_felt, 21, .inl f_a_felt)), (a_own, .inl (k_a_own, 4, .inl f_a_own)), (a_share, .inl (k_a_share, 5, .inr (.inr (.inr (.inr (rows_of 5 R_a_share)))))), (a_left, .inl (k_a_left, 5, .inr (.inr (.inr (.inr (rows_of 5 R_a_left))))))]) [3, 4, 2, 5, 7] (by decide) rfl
          have hKc := hK.sub (tys' := [(k_a_felt, .int), (k_a_own, .int), (k_a_share, (.array .int)), (k_a_left, (.array .int)), (cI, .int), (cJ, .long)]) [1, 2, 3, 5, 7, 8] rfl
          have hFc := va_freeP (cx := [(o, .inr (0, [.ref a_chosen, .int v7, .ref a_felt, .ref a_own, .ref a_share, .ref a_rest, .ref a_left, .ref a_tried, .int v_signs, .int v_lines, .int v_most])), (a_felt, .inl (k_a_felt, 21, .inl f_a_felt)), (a_own, .inl (k_a_own, 4, .inl f_a_own)), (a_share, .inl (k_a_share, 5, .inr (.inr (.inr (.inr (rows_of 5 R_a_share)))))), (a_left, .inl (k_a_left, 5, .inr (.inr (.inr (.inr (rows_of 5 R_a_left))))))]) hD hS hA [3, 4, 2, 5, 7] rfl
          refine va_calli (va_runV (As := [.int 2, .int x12]) (rest := []) ⟨hx, hb, hml, hown, hts⟩ (ct_X0_canBeCheaper l dC dI o 2 x12 a_chosen v7 a_felt a_own a_share a_rest a_left a_tried v_signs v_lines v_most k_a_felt f_a_felt k_a_own f_a_own k_a_share R_a_share k_a_left R_a_left LP sh f16 cI cJ (iv.m (by decide)) (iv.m (by omega)) hv_lines hf16 hRR_a_share hRR_a_left H.size) (cwV 2 hts gX0_place_X0_canBeCheaper rfl rfl rfl (by decide +kernel) ⟨Nat.le_of_ble_eq_true rfl, Nat.le_of_ble_eq_true rfl⟩) ⟨fun a U g mk q => by obtain ⟨q0, q1, qP, qK, qD⟩ := q; exact ⟨q0, q1, qP, va_K.moved (u := U) (U := U.calling g mk a) (Vm.Alike.refl U.vm) qK, qD⟩, va_recv hKc hPc (ci := 0) (q0 := 0) rfl rfl, fun U hU hW => ⟨rfl, by rw [hU], by rw [hU]; exact hPc, va_K.moved hW.alike hKc, hDc.weaken (fun _ _ _ _ => trivial)⟩⟩ rfl rfl hl.1 rfl (lv_room (Nat.le_of_ble_eq_true rfl)) dX0_place_143 ⟨Nat.le_of_ble_eq_true rfl, Nat.le_of_ble_eq_true rfl⟩) hS (fun q _ h => hFc q h) hFc (fun r18 u t H1 locs ht hvm hw hB hz1 hk1 hS => ?_)
          have hw : r18 = u := hw.symm
          subst hw
          obtain ⟨w19, hP1, hD1⟩ := hB
          rw [ht] at hP1
          obtain ⟨hP, hD⟩ := va_joinP (X := [(a_chosen, .inl (k_a_chosen, 4, .inl f6)), (a_tried, .inl (k_a_tried, 4, .inl f14)), (a_own, .inl (k_a_own, 4, .inl f_a_own)), (o, .inr (0, [.ref a_chosen, .int v7, .ref a_felt, .ref a_own, .ref a_share, .ref a_rest, .ref a_left, .ref a_tried, .int v_signs, .int v_lines, .int v_most])), (a_felt, .inl (k_a_felt, 21, .inl f_a_felt)), (a_share, .inl (k_a_share, 5, .inr (.inr (.inr (.inr (rows_of 5 R_a_share)))))), (a_rest, .inl (k_a_rest, 5, .inr (.inr (.inr (.inr (rows_of 5 R_a_rest)))))), (a_left, .inl (k_a_left, 5, .inr (.inr (.inr (.inr (rows_of 5 R_a_left))))))]) (cx := [(o, .inr (0, [.ref a_chosen, .int v7, .ref a_felt, .ref a_own, .ref a_share, .ref a_rest, .ref a_left, .ref a_tried, .int v_signs, .int v_lines, .int v_most])), (a_felt, .inl (k_a_felt, 21, .inl f_a_felt)), (a_own, .inl (k_a_own, 4, .inl f_a_own)), (a_share, .inl (k_a_share, 5, .inr (.inr (.inr (.inr (rows_of 5 R_a_share)))))), (a_left, .inl (k_a_left, 5, .inr (.inr (.inr (.inr (rows_of 5 R_a_left))))))]) (wr := [(a_chosen, .inl (k_a_chosen, 4, .inl f6)), (a_tried, .inl (k_a_tried, 4, .inl f14)), (a_rest, .inl (k_a_rest, 5, .inr (.inr (.inr (.inr (rows_of 5 R_a_rest))))))]) (rx := [(o, .inr (0, [.ref a_chosen, .int v7, .ref a_felt, .ref a_own, .ref a_share, .ref a_rest, .ref a_left, .ref a_tried, .int v_signs, .int v_lines, .int v_most])), (a_felt, .inl (k_a_felt, 21, .inl f_a_felt)), (a_own, .inl (k_a_own, 4, .inl f_a_own)), (a_share, .inl (k_a_share, 5, .inr (.inr (.inr (.inr (rows_of 5 R_a_share)))))), (a_left, .inl (k_a_left, 5, .inr (.inr (.inr (.inr (rows_of 5 R_a_left))))))]) hP hD [3, 4, 2, 5, 7] [0, 1, 6] rfl rfl (by decide) (by decide) hk1 hFc hP1 hD1
          clear hPc hDc hKc hFc hP1 hD1 hk1 hz1
          generalize H1 = H at hP hS ⊢
          have hP : va_P (dC, dI) vwCl ([(a_chosen, .inl (k_a_chosen, 4, .inl f6)), (a_tried, .inl (k_a_tried, 4, .inl f14)), (a_rest, .inl (k_a_rest, 5, .inr (.inr (.inr (.inr (rows_of 5 R_a_rest)))))), (o, .inr (0, [.ref a_chosen, .int v7, .ref a_felt, .ref a_own, .ref a_share, .ref a_rest, .ref a_left, .ref a_tried, .int v_signs, .int v_lines, .int v_most])), (a_felt, .inl (k_a_felt, 21, .inl f_a_felt)), (a_own, .inl (k_a_own, 4, .inl f_a_own)), (a_share, .inl (k_a_share, 5, .inr (.inr (.inr (.inr (rows_of 5 R_a_share)))))), (a_left, .inl (k_a_left, 5, .inr (.inr (.inr (.inr (rows_of 5 R_a_left))))))] ++ va_pl LP f16) H := hP
          have hD : va_D A ([(a_chosen, .inl (k_a_chosen, 4, .inl f6)), (a_tried, .inl (k_a_tried, 4, .inl f14)), (a_rest, .inl (k_a_rest, 5, .inr (.inr (.inr (.inr (rows_of 5 R_a_rest)))))), (o, .inr (0, [.ref a_chosen, .int v7, .ref a_felt, .ref a_own, .ref a_share, .ref a_rest, .ref a_left, .ref a_tried, .int v_signs, .int v_lines, .int v_most])), (a_felt, .inl (k_a_felt, 21, .inl f_a_felt)), (a_own, .inl (k_a_own, 4, .inl f_a_own)), (a_share, .inl (k_a_share, 5, .inr (.inr (.inr (.inr (rows_of 5 R_a_share)))))), (a_left, .inl (k_a_left, 5, .inr (.inr (.inr (.inr (rows_of 5 R_a_left))))))] ++ va_pl LP f16) := hD
          refine W.widen (k := 0) (n := 0) (by decide) (by decide) ?_
          have hq143_0 : (2 : Int32).toInt = 2 := (by decide)
          rcases w19 with hr9 | hr9
          · subst hr9
            refine lv_if_eq (tgt := 158) hx hb dX0_place_146 (by decide) (fun _ => ?_) (fun cz => absurd cz (by decide))
            obtain ⟨x20, ex20⟩ : ∃ z : Int32, v4 + Int32.ofInt 1 = z := ⟨_, rfl⟩
            have tx20 := i32_inc ex20 rfl (by decide) (by omega) (by omega)
            refine lv_iinc (v := x20) (lv' := [(4, .int x20), (6, .int v15), (5, .int x12), (3, .int r2), (0, .ref o), (1, .int 1), (2, .int p1)]) hx hb dX0_place_158 hl (k := 2) rfl ex20 (by decide) rfl (fun ls hl => ?_)
            refine lv_goto (tgt := 44) hx hb dX0_place_161 (by decide) ?_
            exact ih44 _ _ _ _ (by omega) ⟨x20, f14, f6, v7, f16, rfl, (iv.m (by omega)), hf16, hP.part [0, 1, 5, 3, 4, 6, 2, 7] rfl, hD.part [0, 1, 5, 3, 4, 6, 2, 7] (by decide) rfl, hS, lv_sub hl [0, 3, 4, 5, 6] rfl⟩
          · subst hr9
            refine lv_if_eq (tgt := 158) hx hb dX0_place_146 (by decide) (fun cz => absurd cz (by decide)) (fun _ => ?_)
            refine lv_aload_n hx hb dX0_place_149 rfl (lv_at hl 4 rfl) ?_
            refine lv_iload_n hx hb dX0_place_150 rfl (lv_at hl 5 rfl) ?_
            refine lv_iconst (v := 1) hx hb dX0_place_151 (by decide) ?_
            refine lv_iadd hx hb dX0_place_152 ?_
            refine px_i (v := 2) (by decide) ?_
            refine lv_iload hx hb dX0_place_153 (lv_at hl 1 rfl) ?_
            have hPc := hP.part (cx := [(o, .inr (0, [.ref a_chosen, .int v7, .ref a_felt, .ref a_own, .ref a_share, .ref a_rest, .ref a_left, .ref a_tried, .int v_signs, .int v_lines, .int v_most])), (a_chosen, .inl (k_a_chosen, 4, .inl f6)), (a_felt, .inl (k_a_felt, 21, .inl f_a_felt)), (a_own, .inl (k_a_own, 4, .inl f_a_own)), (a_share, .inl (k_a_share, 5, .inr (.inr (.inr (.inr (rows_of 5 R_a_share)))))), (a_rest, .inl (k_a_rest, 5, .inr (.inr (.inr (.inr (rows_of 5 R_a_rest)))))), (a_left, .inl (k_a_left, 5, .inr (.inr (.inr (.inr (rows_of 5 R_a_left)))))), (a_tried, .inl (k_a_tried, 4, .inl f14))]) [3, 0, 4, 5, 6, 2, 7, 1] rfl
            have hDc := hD.part (cx := [(o, .inr (0, [.ref a_chosen, .int v7, .ref a_felt, .ref a_own, .ref a_share, .ref a_rest, .ref a_left, .ref a_tried, .int v_signs, .int v_lines, .int v_most])), (a_chosen, .inl (k_a_chosen, 4, .inl f6)), (a_felt, .inl (k_a_felt, 21, .inl f_a_felt)), (a_own, .inl (k_a_own, 4, .inl f_a_own)), (a_share, .inl (k_a_share, 5, .inr (.inr (.inr (.inr (rows_of 5 R_a_share)))))), (a_rest, .inl (k_a_rest, 5, .inr (.inr (.inr (.inr (rows_of 5 R_a_rest)))))), (a_left, .inl (k_a_left, 5, .inr (.inr (.inr (.inr (rows_of 5 R_a_left)))))), (a_tried, .inl (k_a_tried, 4, .inl f14))]) [3, 0, 4, 5, 6, 2, 7, 1] (by decide) rfl
            have hKc := hK.sub (tys' := [(k_a_chosen, .int), (k_a_felt, .int), (k_a_own, .int), (k_a_share, (.array .int)), (k_a_rest, (.array .int)), (k_a_left, (.array .int)), (k_a_tried, .int), (cI, .int), (cJ, .long)]) [0, 1, 2, 3, 4, 5, 6, 7, 8] rfl
            have hFc := va_freeP (cx := [(o, .inr (0, [.ref a_chosen, .int v7, .ref a_felt, .ref a_own, .ref a_share, .ref a_rest, .ref a_left, .ref a_tried, .int v_signs, .int v_lines, .int v_most])), (a_chosen, .inl (k_a_chosen, 4, .inl f6)), (a_felt, .inl (k_a_felt, 21, .inl f_a_felt)), (a_own, .inl (k_a_own, 4, .inl f_a_own)), (a_share, .inl (k_a_share, 5, .inr (.inr (.inr (.inr (rows_of 5 R_a_share)))))), (a_rest, .inl (k_a_rest, 5, .inr (.inr (.inr (.inr (rows_of 5 R_a_rest)))))), (a_left, .inl (k_a_left, 5, .inr (.inr (.inr (.inr (rows_of 5 R_a_left)))))), (a_tried, .inl (k_a_tried, 4, .inl f14))]) hD hS hA [3, 0, 4, 5, 6, 2, 7, 1] rfl
            refine va_callv (va_runV (As := [.int 2, .int x12]) (rest := []) ⟨hx, hb, hml, hown, hts⟩ (ct_X0_place_L2 l dC dI o x12 a_chosen v7 a_felt a_own a_share a_rest a_left a_tried v_signs v_lines v_most k_a_chosen f6 k_a_felt f_a_felt k_a_own f_a_own k_a_share R_a_share k_a_rest R_a_rest k_a_left R_a_left k_a_tried f14 LP sh f16 cI cJ (iv.m (by omega)) hv_lines hv_most hf16 hRR_a_share hRR_a_rest hRR_a_left H.size) (cwV 2 hts gX0_place_X0_place rfl rfl rfl (by decide +kernel) ⟨Nat.le_of_ble_eq_true rfl, Nat.le_of_ble_eq_true rfl⟩) ⟨fun a U g mk q => by obtain ⟨q0, q1, qP, qK, qD⟩ := q; exact ⟨q0, q1, qP, va_K.moved (u := U) (U := U.calling g mk a) (Vm.Alike.refl U.vm) qK, qD⟩, va_recv hKc hPc (ci := 0) (q0 := 0) rfl rfl, fun U hU hW => ⟨rfl, by rw [hU], by rw [hU]; exact hPc, va_K.moved hW.alike hKc, hDc.weaken (fun _ _ _ _ => trivial)⟩⟩ rfl rfl hl.1 rfl (lv_room (Nat.le_of_ble_eq_true rfl)) dX0_place_155 ⟨Nat.le_of_ble_eq_true rfl, Nat.le_of_ble_eq_true rfl⟩) hS (fun q _ h => hFc q h) hFc (fun u t H1 locs ht hvm hw hB hz1 hk1 hS => ?_)
            obtain ⟨v22, f23, f24, fp25, hfp25, hP1, hD1⟩ := hB
            rw [ht] at hP1
            obtain ⟨hP, hD⟩ := va_joinP (X := [(a_chosen, .inl (k_a_chosen, 4, .inl f6)), (a_tried, .inl (k_a_tried, 4, .inl f14)), (a_rest, .inl (k_a_rest, 5, .inr (.inr (.inr (.inr (rows_of 5 R_a_rest)))))), (o, .inr (0, [.ref a_chosen, .int v7, .ref a_felt, .ref a_own, .ref a_share, .ref a_rest, .ref a_left, .ref a_tried, .int v_signs, .int v_lines, .int v_most])), (a_felt, .inl (k_a_felt, 21, .inl f_a_felt)), (a_own, .inl (k_a_own, 4, .inl f_a_own)), (a_share, .inl (k_a_share, 5, .inr (.inr (.inr (.inr (rows_of 5 R_a_share)))))), (a_left, .inl (k_a_left, 5, .inr (.inr (.inr (.inr (rows_of 5 R_a_left))))))]) (cx := [(o, .inr (0, [.ref a_chosen, .int v7, .ref a_felt, .ref a_own, .ref a_share, .ref a_rest, .ref a_left, .ref a_tried, .int v_signs, .int v_lines, .int v_most])), (a_chosen, .inl (k_a_chosen, 4, .inl f6)), (a_felt, .inl (k_a_felt, 21, .inl f_a_felt)), (a_own, .inl (k_a_own, 4, .inl f_a_own)), (a_share, .inl (k_a_share, 5, .inr (.inr (.inr (.inr (rows_of 5 R_a_share)))))), (a_rest, .inl (k_a_rest, 5, .inr (.inr (.inr (.inr (rows_of 5 R_a_rest)))))), (a_left, .inl (k_a_left, 5, .inr (.inr (.inr (.inr (rows_of 5 R_a_left)))))), (a_tried, .inl (k_a_tried, 4, .inl f14))]) (wr := []) (rx := [(o, .inr (0, [.ref a_chosen, .int v22, .ref a_felt, .ref a_own, .ref a_share, .ref a_rest, .ref a_left, .ref a_tried, .int v_signs, .int v_lines, .int v_most])), (a_chosen, .inl (k_a_chosen, 4, .inl f23)), (a_felt, .inl (k_a_felt, 21, .inl f_a_felt)), (a_own, .inl (k_a_own, 4, .inl f_a_own)), (a_share, .inl (k_a_share, 5, .inr (.inr (.inr (.inr (rows_of 5 R_a_share)))))), (a_rest, .inl (k_a_rest, 5, .inr (.inr (.inr (.inr (rows_of 5 R_a_rest)))))), (a_left, .inl (k_a_left, 5, .inr (.inr (.inr (.inr (rows_of 5 R_a_left)))))), (a_tried, .inl (k_a_tried, 4, .inl f24))]) hP hD [3, 0, 4, 5, 6, 2, 7, 1] [] rfl rfl (by decide) (by decide) hk1 hFc hP1 hD1
            clear hPc hDc hKc hFc hP1 hD1 hk1 hz1
            generalize H1 = H at hP hS ⊢
            have hP : va_P (dC, dI) vwCl ([(o, .inr (0, [.ref a_chosen, .int v22, .ref a_felt, .ref a_own, .ref a_share, .ref a_rest, .ref a_left, .ref a_tried, .int v_signs, .int v_lines, .int v_most])), (a_chosen, .inl (k_a_chosen, 4, .inl f23)), (a_felt, .inl (k_a_felt, 21, .inl f_a_felt)), (a_own, .inl (k_a_own, 4, .inl f_a_own)), (a_share, .inl (k_a_share, 5, .inr (.inr (.inr (.inr (rows_of 5 R_a_share)))))), (a_rest, .inl (k_a_rest, 5, .inr (.inr (.inr (.inr (rows_of 5 R_a_rest)))))), (a_left, .inl (k_a_left, 5, .inr (.inr (.inr (.inr (rows_of 5 R_a_left)))))), (a_tried, .inl (k_a_tried, 4, .inl f24))] ++ va_pl LP fp25) H := hP
            have hD : va_D A ([(o, .inr (0, [.ref a_chosen, .int v22, .ref a_felt, .ref a_own, .ref a_share, .ref a_rest, .ref a_left, .ref a_tried, .int v_signs, .int v_lines, .int v_most])), (a_chosen, .inl (k_a_chosen, 4, .inl f23)), (a_felt, .inl (k_a_felt, 21, .inl f_a_felt)), (a_own, .inl (k_a_own, 4, .inl f_a_own)), (a_share, .inl (k_a_share, 5, .inr (.inr (.inr (.inr (rows_of 5 R_a_share)))))), (a_rest, .inl (k_a_rest, 5, .inr (.inr (.inr (.inr (rows_of 5 R_a_rest)))))), (a_left, .inl (k_a_left, 5, .inr (.inr (.inr (.inr (rows_of 5 R_a_left)))))), (a_tried, .inl (k_a_tried, 4, .inl f24))] ++ va_pl LP fp25) := hD
            refine W.widen (k := 0) (n := 0) (by decide) (by decide) ?_
            obtain ⟨x26, ex26⟩ : ∃ z : Int32, v4 + Int32.ofInt 1 = z := ⟨_, rfl⟩
            have tx26 := i32_inc ex26 rfl (by decide) (by omega) (by omega)
            refine lv_iinc (v := x26) (lv' := [(4, .int x26), (6, .int v15), (5, .int x12), (3, .int r2), (0, .ref o), (1, .int 1), (2, .int p1)]) hx hb dX0_place_158 hl (k := 2) rfl ex26 (by decide) rfl (fun ls hl => ?_)
            refine lv_goto (tgt := 44) hx hb dX0_place_161 (by decide) ?_
            have bv22 := i32_rng v22
            exact ih44 _ _ _ _ (by omega) ⟨x26, f24, f23, v22, fp25, rfl, (iv.m (by omega)), hfp25, hP.part [1, 7, 3, 0, 2, 4, 5, 6] rfl, hD.part [1, 7, 3, 0, 2, 4, 5, 6] (by decide) rfl, hS, lv_sub hl [0, 3, 4, 5, 6] rfl⟩
        · have c179 := i32_nle c17 rfl rfl
          refine lv_aload_n hx hb dX0_place_93 rfl (lv_at hl 4 rfl) ?_
          refine va_get (D := (dC, dI)) (ci := 0) (v := .ref a_left) (C := RX0) (T := TX0) (N := 11) hx hb hts iw_X0_place_X0 hown hK hP 3 rfl rfl 6 (by decide) (hts _ kk_X0_place_10) (fun _ h9 => h9) rfl dX0_place_94 ?_
          refine lv_iload_n hx hb dX0_place_97 rfl (lv_at hl 5 rfl) ?_
          refine lv_iconst (v := 1) hx hb dX0_place_98 (by decide) ?_
          refine lv_iadd hx hb dX0_place_99 ?_
          refine px_i (v := 2) (by decide) ?_
          have hinrw27 : vp_in 2 5 := (vq_in 2 5 (by decide))
          refine va_aldA hx hb hK hP 7 5 rfl rfl hinrw27 dX0_place_100 ?_
          refine px_v (row_sel hinrw27) ?_
          obtain ⟨rw27, erw27⟩ : ∃ z : Nat, z = R_a_left (Int32.toNatClampNeg 2) := ⟨_, rfl⟩
          rw [← erw27]
          have mrw27 : rw27 ∈ LP ∧ sh rw27 = 5 := by rw [erw27]; exact hRR_a_left _ (vin_lt hinrw27)
          refine lv_iload hx hb dX0_place_101 (lv_at hl 0 rfl) ?_
          refine lv_aload_n hx hb dX0_place_103 rfl (lv_at hl 4 rfl) ?_
          refine va_get (D := (dC, dI)) (ci := 0) (v := .ref a_left) (C := RX0) (T := TX0) (N := 11) hx hb hts iw_X0_place_X0 hown hK hP 3 rfl rfl 6 (by decide) (hts _ kk_X0_place_10) (fun _ h9 => h9) rfl dX0_place_104 ?_
          refine lv_iload_n hx hb dX0_place_107 rfl (lv_at hl 5 rfl) ?_
          have hinrw28 : vp_in 1 5 := (vq_in 1 5 (by decide))
          refine va_aldA hx hb hK hP 7 5 rfl rfl hinrw28 dX0_place_108 ?_
          refine px_v (row_sel hinrw28) ?_
          obtain ⟨rw28, erw28⟩ : ∃ z : Nat, z = R_a_left (Int32.toNatClampNeg 1) := ⟨_, rfl⟩
          rw [← erw28]
          have mrw28 : rw28 ∈ LP ∧ sh rw28 = 5 := by rw [erw28]; exact hRR_a_left _ (vin_lt hinrw28)
          refine lv_iload hx hb dX0_place_109 (lv_at hl 0 rfl) ?_
          obtain ⟨gk29, hgk29⟩ := pok_5 (hf16) mrw28
          obtain ⟨kk30, hkk30⟩ := va_pl_get (X := [(a_chosen, .inl (k_a_chosen, 4, .inl f6)), (a_tried, .inl (k_a_tried, 4, .inl f14)), (a_own, .inl (k_a_own, 4, .inl f_a_own)), (o, .inr (0, [.ref a_chosen, .int v7, .ref a_felt, .ref a_own, .ref a_share, .ref a_rest, .ref a_left, .ref a_tried, .int v_signs, .int v_lines, .int v_most])), (a_felt, .inl (k_a_felt, 21, .inl f_a_felt)), (a_share, .inl (k_a_share, 5, .inr (.inr (.inr (.inr (rows_of 5 R_a_share)))))), (a_rest, .inl (k_a_rest, 5, .inr (.inr (.inr (.inr (rows_of 5 R_a_rest)))))), (a_left, .inl (k_a_left, 5, .inr (.inr (.inr (.inr (rows_of 5 R_a_left))))))]) (f := f16) mrw28.1
          have qkk30 := hkk30
          rw [hgk29] at qkk30
          refine va_iald hx hb hK hP kk30 7 qkk30 rfl (vq_in v15 5 (by omega)) dX0_place_111 ?_
          refine lv_topi (fun x31 ex31 => ?_)
          refine lv_aload_n hx hb dX0_place_112 rfl (lv_at hl 4 rfl) ?_
          refine va_get (D := (dC, dI)) (ci := 0) (v := .ref a_share) (C := RX0) (T := TX0) (N := 11) hx hb hts iw_X0_place_X0 hown hK hP 3 rfl rfl 4 (by decide) (hts _ kk_X0_place_11) (fun _ h9 => h9) rfl dX0_place_113 ?_
          refine lv_iload hx hb dX0_place_116 (lv_at hl 0 rfl) ?_
          have hinrw32 : vp_in v15 5 := (vq_in v15 5 (by omega))
          refine va_aldA hx hb hK hP 5 3 rfl rfl hinrw32 dX0_place_118 ?_
          refine px_v (row_sel hinrw32) ?_
          obtain ⟨rw32, erw32⟩ : ∃ z : Nat, z = R_a_share (Int32.toNatClampNeg v15) := ⟨_, rfl⟩
          rw [← erw32]
          have mrw32 : rw32 ∈ LP ∧ sh rw32 = 4 := by rw [erw32]; exact hRR_a_share _ (vin_lt hinrw32)
          refine lv_iload_n hx hb dX0_place_119 rfl (lv_at hl 5 rfl) ?_
          obtain ⟨gk33, hgk33⟩ := pok_4 (hf16) mrw32
          obtain ⟨kk34, hkk34⟩ := va_pl_get (X := [(a_chosen, .inl (k_a_chosen, 4, .inl f6)), (a_tried, .inl (k_a_tried, 4, .inl f14)), (a_own, .inl (k_a_own, 4, .inl f_a_own)), (o, .inr (0, [.ref a_chosen, .int v7, .ref a_felt, .ref a_own, .ref a_share, .ref a_rest, .ref a_left, .ref a_tried, .int v_signs, .int v_lines, .int v_most])), (a_felt, .inl (k_a_felt, 21, .inl f_a_felt)), (a_share, .inl (k_a_share, 5, .inr (.inr (.inr (.inr (rows_of 5 R_a_share)))))), (a_rest, .inl (k_a_rest, 5, .inr (.inr (.inr (.inr (rows_of 5 R_a_rest)))))), (a_left, .inl (k_a_left, 5, .inr (.inr (.inr (.inr (rows_of 5 R_a_left))))))]) (f := f16) mrw32.1
          have qkk34 := hkk34
          rw [hgk33] at qkk34
          refine va_iald hx hb hK hP kk34 7 qkk34 rfl (vq_in 1 4 (by decide)) dX0_place_120 ?_
          refine lv_topi (fun x35 ex35 => ?_)
          refine lv_aload_n hx hb dX0_place_121 rfl (lv_at hl 4 rfl) ?_
          refine va_get (D := (dC, dI)) (ci := 0) (v := .ref a_felt) (C := RX0) (T := TX0) (N := 11) hx hb hts iw_X0_place_X0 hown hK hP 3 rfl rfl 2 (by decide) (hts _ kk_X0_place_12) (fun _ h9 => h9) rfl dX0_place_122 ?_
          refine lv_iload hx hb dX0_place_125 (lv_at hl 2 rfl) ?_
          refine va_iald hx hb hK hP 4 1 rfl rfl (vq_in v4 21 (by omega)) dX0_place_127 ?_
          refine lv_topi (fun x36 ex36 => ?_)
          refine lv_imul hx hb dX0_place_128 ?_
          refine lv_topi (fun x37 ex37 => ?_)
          refine lv_isub hx hb dX0_place_129 ?_
          refine lv_topi (fun x38 ex38 => ?_)
          obtain ⟨gk39, hgk39⟩ := pok_5 (hf16) mrw27
          obtain ⟨kk40, hkk40⟩ := va_pl_get (X := [(a_chosen, .inl (k_a_chosen, 4, .inl f6)), (a_tried, .inl (k_a_tried, 4, .inl f14)), (a_own, .inl (k_a_own, 4, .inl f_a_own)), (o, .inr (0, [.ref a_chosen, .int v7, .ref a_felt, .ref a_own, .ref a_share, .ref a_rest, .ref a_left, .ref a_tried, .int v_signs, .int v_lines, .int v_most])), (a_felt, .inl (k_a_felt, 21, .inl f_a_felt)), (a_share, .inl (k_a_share, 5, .inr (.inr (.inr (.inr (rows_of 5 R_a_share)))))), (a_rest, .inl (k_a_rest, 5, .inr (.inr (.inr (.inr (rows_of 5 R_a_rest)))))), (a_left, .inl (k_a_left, 5, .inr (.inr (.inr (.inr (rows_of 5 R_a_left))))))]) (f := f16) mrw27.1
          have qkk40 := hkk40
          rw [hgk39] at qkk40
          have hDo := hD
          refine va_iast hx hb hK hP hD hS kk40 7 qkk40 rfl (vq_in v15 5 (by omega)) dX0_place_130 (fun H locs hP hD hS => ?_)
          rw [va_pl_set hDo mrw27.1 hkk40] at hP hD
          have hfp41 := pok_up5 hf16 mrw27 (Int32.toNatClampNeg v15) x38 gk39
          generalize va_up f16 rw27 _ = fp41 at hP hD hfp41
          have hP : va_P (dC, dI) vwCl ([(a_chosen, .inl (k_a_chosen, 4, .inl f6)), (a_tried, .inl (k_a_tried, 4, .inl f14)), (a_own, .inl (k_a_own, 4, .inl f_a_own)), (o, .inr (0, [.ref a_chosen, .int v7, .ref a_felt, .ref a_own, .ref a_share, .ref a_rest, .ref a_left, .ref a_tried, .int v_signs, .int v_lines, .int v_most])), (a_felt, .inl (k_a_felt, 21, .inl f_a_felt)), (a_share, .inl (k_a_share, 5, .inr (.inr (.inr (.inr (rows_of 5 R_a_share)))))), (a_rest, .inl (k_a_rest, 5, .inr (.inr (.inr (.inr (rows_of 5 R_a_rest)))))), (a_left, .inl (k_a_left, 5, .inr (.inr (.inr (.inr (rows_of 5 R_a_left))))))] ++ va_pl LP fp41) H := hP
          have hD : va_D A ([(a_chosen, .inl (k_a_chosen, 4, .inl f6)), (a_tried, .inl (k_a_tried, 4, .inl f14)), (a_own, .inl (k_a_own, 4, .inl f_a_own)), (o, .inr (0, [.ref a_chosen, .int v7, .ref a_felt, .ref a_own, .ref a_share, .ref a_rest, .ref a_left, .ref a_tried, .int v_signs, .int v_lines, .int v_most])), (a_felt, .inl (k_a_felt, 21, .inl f_a_felt)), (a_share, .inl (k_a_share, 5, .inr (.inr (.inr (.inr (rows_of 5 R_a_share)))))), (a_rest, .inl (k_a_rest, 5, .inr (.inr (.inr (.inr (rows_of 5 R_a_rest)))))), (a_left, .inl (k_a_left, 5, .inr (.inr (.inr (.inr (rows_of 5 R_a_left))))))] ++ va_pl LP fp41) := hD
          obtain ⟨x42, ex42⟩ : ∃ z : Int32, v15 + Int32.ofInt 1 = z := ⟨_, rfl⟩
          have tx42 := i32_inc ex42 rfl (by decide) (by omega) (by omega)
          refine lv_iinc (v := x42) (lv' := [(6, .int x42), (5, .int x12), (4, .int v4), (3, .int r2), (0, .ref o), (1, .int 1), (2, .int p1)]) hx hb dX0_place_131 hl (k := 0) rfl ex42 (by decide) rfl (fun ls hl => ?_)
          refine lv_goto (tgt := 84) hx hb dX0_place_134 (by decide) ?_
          exact ih84 _ _ _ _ (by omega) ⟨x42, fp41, rfl, (iv.m (by omega)), hfp41, hP, hD, hS, lv_sub hl [0, 1, 2, 3, 4, 5, 6] rfl⟩
      · have c139 := i32_nlt c13 rfl rfl
        have hP9 := hP.part (cx := [(o, .inr (0, [.ref a_chosen, .int v7, .ref a_felt, .ref a_own, .ref a_share, .ref a_rest, .ref a_left, .ref a_tried, .int v_signs, .int v_lines, .int v_most])), (a_chosen, .inl (k_a_chosen, 4, .inl f6)), (a_felt, .inl (k_a_felt, 21, .inl f_a_felt)), (a_own, .inl (k_a_own, 4, .inl f_a_own)), (a_share, .inl (k_a_share, 5, .inr (.inr (.inr (.inr (rows_of 5 R_a_share)))))), (a_rest, .inl (k_a_rest, 5, .inr (.inr (.inr (.inr (rows_of 5 R_a_rest)))))), (a_left, .inl (k_a_left, 5, .inr (.inr (.inr (.inr (rows_of 5 R_a_left)))))), (a_tried, .inl (k_a_tried, 4, .inl f5))]) [3, 0, 4, 2, 5, 6, 7, 1] rfl
        have hD9 := hD.part (cx := [(o, .inr (0, [.ref a_chosen, .int v7, .ref a_felt, .ref a_own, .ref a_share, .ref a_rest, .ref a_left, .ref a_tried, .int v_signs, .int v_lines, .int v_most])), (a_chosen, .inl (k_a_chosen, 4, .inl f6)), (a_felt, .inl (k_a_felt, 21, .inl f_a_felt)), (a_own, .inl (k_a_own, 4, .inl f_a_own)), (a_share, .inl (k_a_share, 5, .inr (.inr (.inr (.inr (rows_of 5 R_a_share)))))), (a_rest, .inl (k_a_rest, 5, .inr (.inr (.inr (.inr (rows_of 5 R_a_rest)))))), (a_left, .inl (k_a_left, 5, .inr (.inr (.inr (.inr (rows_of 5 R_a_left)))))), (a_tried, .inl (k_a_tried, 4, .inl f5))]) [3, 0, 4, 2, 5, 6, 7, 1] (by decide) rfl
        exact W.vret hx hb hr (fun t ht hW => ⟨⟨(), rfl, trivial, v7, f6, f5, f8, hf8, by rw [ht]; exact hP9, hD9⟩, hS.F ht⟩) hS.2.2 dX0_place_72
  · have c19 := i32_nlt c1 (show (1 : Int32).toInt = 1 by decide) rfl
    refine lv_aload_n hx hb dX0_place_8 rfl (lv_at hl 0 rfl) ?_
    refine lv_iload_n hx hb dX0_place_9 rfl (lv_at hl 2 rfl) ?_
    refine va_put (D := (dC, dI)) (ci := 0) (v := .int p1) (ty := .int) (C := RX0) (T := TX0) (N := 11) hx hb hts iw_X0_place_X0 tyX0 tyX0_ok nmX0 hown hK hP hD hS 0 rfl rfl 1 (by decide) (hts _ kk_X0_place_2) (fun _ h9 => h9) rfl (by decide +kernel) rfl rfl (Nat.le_of_ble_eq_true rfl) dX0_place_10 (fun H locs hP hD hS => ?_)
    have hP : va_P (dC, dI) vwCl ([(o, .inr (0, [.ref a_chosen, .int p1, .ref a_felt, .ref a_own, .ref a_share, .ref a_rest, .ref a_left, .ref a_tried, .int v_signs, .int v_lines, .int v_most])), (a_chosen, .inl (k_a_chosen, 4, .inl f_a_chosen)), (a_felt, .inl (k_a_felt, 21, .inl f_a_felt)), (a_own, .inl (k_a_own, 4, .inl f_a_own)), (a_share, .inl (k_a_share, 5, .inr (.inr (.inr (.inr (rows_of 5 R_a_share)))))), (a_rest, .inl (k_a_rest, 5, .inr (.inr (.inr (.inr (rows_of 5 R_a_rest)))))), (a_left, .inl (k_a_left, 5, .inr (.inr (.inr (.inr (rows_of 5 R_a_left)))))), (a_tried, .inl (k_a_tried, 4, .inl f_a_tried))] ++ va_pl LP fp) H := hP
    have hD : va_D A ([(o, .inr (0, [.ref a_chosen, .int p1, .ref a_felt, .ref a_own, .ref a_share, .ref a_rest, .ref a_left, .ref a_tried, .int v_signs, .int v_lines, .int v_most])), (a_chosen, .inl (k_a_chosen, 4, .inl f_a_chosen)), (a_felt, .inl (k_a_felt, 21, .inl f_a_felt)), (a_own, .inl (k_a_own, 4, .inl f_a_own)), (a_share, .inl (k_a_share, 5, .inr (.inr (.inr (.inr (rows_of 5 R_a_share)))))), (a_rest, .inl (k_a_rest, 5, .inr (.inr (.inr (.inr (rows_of 5 R_a_rest)))))), (a_left, .inl (k_a_left, 5, .inr (.inr (.inr (.inr (rows_of 5 R_a_left)))))), (a_tried, .inl (k_a_tried, 4, .inl f_a_tried))] ++ va_pl LP fp) := hD
    refine lv_aload_n hx hb dX0_place_13 rfl (lv_at hl 0 rfl) ?_
    refine va_get (D := (dC, dI)) (ci := 0) (v := .ref a_tried) (C := RX0) (T := TX0) (N := 11) hx hb hts iw_X0_place_X0 hown hK hP 0 rfl rfl 7 (by decide) (hts _ kk_X0_place_3) (fun _ h9 => h9) rfl dX0_place_14 ?_
    refine lv_iconst (v := 0) hx hb dX0_place_17 (by decide) ?_
    refine lv_aload_n hx hb dX0_place_18 rfl (lv_at hl 0 rfl) ?_
    refine va_get (D := (dC, dI)) (ci := 0) (v := .ref a_chosen) (C := RX0) (T := TX0) (N := 11) hx hb hts iw_X0_place_X0 hown hK hP 0 rfl rfl 0 (by decide) (hts _ kk_X0_place_5) (fun _ h9 => h9) rfl dX0_place_19 ?_
    refine lv_iconst (v := 0) hx hb dX0_place_22 (by decide) ?_
    refine lv_aload_n hx hb dX0_place_23 rfl (lv_at hl 0 rfl) ?_
    refine va_get (D := (dC, dI)) (ci := 0) (v := .int v_signs) (C := RX0) (T := TX0) (N := 11) hx hb hts iw_X0_place_X0 hown hK hP 0 rfl rfl 8 (by decide) (hts _ kk_X0_place_0) (fun _ h9 => h9) rfl dX0_place_24 ?_
    have hcl : Int32.toNatClampNeg v_signs ≤ 4 := i32_cl v_signs (by omega)
    refine va_copyi hx hb (by rw [hml]; exact hl.1.symm) hown (hts _ kk_X0_place_6) (hts _ kk_X0_place_7) (hts _ kk_X0_place_8) (hts _ kk_X0_place_9) hK hP hD hS 7 1 6 0 rfl rfl rfl rfl rfl (by decide) (by decide) (i32_nn (by omega)) (by rw [show Int32.toNatClampNeg 0 = 0 by decide]; omega) (by rw [show Int32.toNatClampNeg 0 = 0 by decide]; omega) (fun _ _ => rfl) (Nat.le_of_ble_eq_true rfl) (Nat.le_of_ble_eq_true rfl) dX0_place_27 (fun H locs hP hD hS => ?_)
    have hP : va_P (dC, dI) vwCl ([(o, .inr (0, [.ref a_chosen, .int p1, .ref a_felt, .ref a_own, .ref a_share, .ref a_rest, .ref a_left, .ref a_tried, .int v_signs, .int v_lines, .int v_most])), (a_chosen, .inl (k_a_chosen, 4, .inl (va_cpy f_a_tried f_a_chosen (Int32.toNatClampNeg 0) (Int32.toNatClampNeg 0) (Int32.toNatClampNeg v_signs)))), (a_felt, .inl (k_a_felt, 21, .inl f_a_felt)), (a_own, .inl (k_a_own, 4, .inl f_a_own)), (a_share, .inl (k_a_share, 5, .inr (.inr (.inr (.inr (rows_of 5 R_a_share)))))), (a_rest, .inl (k_a_rest, 5, .inr (.inr (.inr (.inr (rows_of 5 R_a_rest)))))), (a_left, .inl (k_a_left, 5, .inr (.inr (.inr (.inr (rows_of 5 R_a_left)))))), (a_tried, .inl (k_a_tried, 4, .inl f_a_tried))] ++ va_pl LP fp) H := hP
    have hD : va_D A ([(o, .inr (0, [.ref a_chosen, .int p1, .ref a_felt, .ref a_own, .ref a_share, .ref a_rest, .ref a_left, .ref a_tried, .int v_signs, .int v_lines, .int v_most])), (a_chosen, .inl (k_a_chosen, 4, .inl (va_cpy f_a_tried f_a_chosen (Int32.toNatClampNeg 0) (Int32.toNatClampNeg 0) (Int32.toNatClampNeg v_signs)))), (a_felt, .inl (k_a_felt, 21, .inl f_a_felt)), (a_own, .inl (k_a_own, 4, .inl f_a_own)), (a_share, .inl (k_a_share, 5, .inr (.inr (.inr (.inr (rows_of 5 R_a_share)))))), (a_rest, .inl (k_a_rest, 5, .inr (.inr (.inr (.inr (rows_of 5 R_a_rest)))))), (a_left, .inl (k_a_left, 5, .inr (.inr (.inr (.inr (rows_of 5 R_a_left)))))), (a_tried, .inl (k_a_tried, 4, .inl f_a_tried))] ++ va_pl LP fp) := hD
    generalize va_cpy f_a_tried f_a_chosen (Int32.toNatClampNeg 0) (Int32.toNatClampNeg 0) (Int32.toNatClampNeg v_signs) = f43 at hP hD
    have hP : va_P (dC, dI) vwCl ([(o, .inr (0, [.ref a_chosen, .int p1, .ref a_felt, .ref a_own, .ref a_share, .ref a_rest, .ref a_left, .ref a_tried, .int v_signs, .int v_lines, .int v_most])), (a_chosen, .inl (k_a_chosen, 4, .inl f43)), (a_felt, .inl (k_a_felt, 21, .inl f_a_felt)), (a_own, .inl (k_a_own, 4, .inl f_a_own)), (a_share, .inl (k_a_share, 5, .inr (.inr (.inr (.inr (rows_of 5 R_a_share)))))), (a_rest, .inl (k_a_rest, 5, .inr (.inr (.inr (.inr (rows_of 5 R_a_rest)))))), (a_left, .inl (k_a_left, 5, .inr (.inr (.inr (.inr (rows_of 5 R_a_left)))))), (a_tried, .inl (k_a_tried, 4, .inl f_a_tried))] ++ va_pl LP fp) H := hP
    have hD : va_D A ([(o, .inr (0, [.ref a_chosen, .int p1, .ref a_felt, .ref a_own, .ref a_share, .ref a_rest, .ref a_left, .ref a_tried, .int v_signs, .int v_lines, .int v_most])), (a_chosen, .inl (k_a_chosen, 4, .inl f43)), (a_felt, .inl (k_a_felt, 21, .inl f_a_felt)), (a_own, .inl (k_a_own, 4, .inl f_a_own)), (a_share, .inl (k_a_share, 5, .inr (.inr (.inr (.inr (rows_of 5 R_a_share)))))), (a_rest, .inl (k_a_rest, 5, .inr (.inr (.inr (.inr (rows_of 5 R_a_rest)))))), (a_left, .inl (k_a_left, 5, .inr (.inr (.inr (.inr (rows_of 5 R_a_left)))))), (a_tried, .inl (k_a_tried, 4, .inl f_a_tried))] ++ va_pl LP fp) := hD
    have hP9 := hP.part (cx := [(o, .inr (0, [.ref a_chosen, .int p1, .ref a_felt, .ref a_own, .ref a_share, .ref a_rest, .ref a_left, .ref a_tried, .int v_signs, .int v_lines, .int v_most])), (a_chosen, .inl (k_a_chosen, 4, .inl f43)), (a_felt, .inl (k_a_felt, 21, .inl f_a_felt)), (a_own, .inl (k_a_own, 4, .inl f_a_own)), (a_share, .inl (k_a_share, 5, .inr (.inr (.inr (.inr (rows_of 5 R_a_share)))))), (a_rest, .inl (k_a_rest, 5, .inr (.inr (.inr (.inr (rows_of 5 R_a_rest)))))), (a_left, .inl (k_a_left, 5, .inr (.inr (.inr (.inr (rows_of 5 R_a_left)))))), (a_tried, .inl (k_a_tried, 4, .inl f_a_tried))]) [0, 1, 2, 3, 4, 5, 6, 7] rfl
    have hD9 := hD.part (cx := [(o, .inr (0, [.ref a_chosen, .int p1, .ref a_felt, .ref a_own, .ref a_share, .ref a_rest, .ref a_left, .ref a_tried, .int v_signs, .int v_lines, .int v_most])), (a_chosen, .inl (k_a_chosen, 4, .inl f43)), (a_felt, .inl (k_a_felt, 21, .inl f_a_felt)), (a_own, .inl (k_a_own, 4, .inl f_a_own)), (a_share, .inl (k_a_share, 5, .inr (.inr (.inr (.inr (rows_of 5 R_a_share)))))), (a_rest, .inl (k_a_rest, 5, .inr (.inr (.inr (.inr (rows_of 5 R_a_rest)))))), (a_left, .inl (k_a_left, 5, .inr (.inr (.inr (.inr (rows_of 5 R_a_left)))))), (a_tried, .inl (k_a_tried, 4, .inl f_a_tried))]) [0, 1, 2, 3, 4, 5, 6, 7] (by decide) rfl
    exact W.vret hx hb hr (fun t ht hW => ⟨⟨(), rfl, trivial, p1, f43, f_a_tried, fp, hfp, by rw [ht]; exact hP9, hD9⟩, hS.F ht⟩) hS.2.2 dX0_place_30

