def tyX0 : Nat → FieldType := fun k => match k with
  | 0 => .array .int
  | 1 => .int
  | 2 => .array .int
  | 3 => .array .int
  | 4 => .array (.array .int)
  | 5 => .array (.array .int)
  | 6 => .array (.array .int)
  | 7 => .array .int
  | 8 => .int
  | 9 => .int
  | _ => .int
theorem nmX0 : ∀ a, a < 11 → ∀ b, b < 11 → a ≠ b → (TX0 a).2.1 ≠ (TX0 b).2.1 := by decide +kernel
theorem tyX0_ok : ∀ k, k < 11 → parseFieldDescriptor (TX0 k).2.2.1 = some (tyX0 k) := by decide +kernel
abbrev cX0_place : ByteArray := prog_2_method_5_code
def yX0_place : MethodName := ⟨RX0, "place", "(II)V"⟩
abbrev cX0_canBeCheaper : ByteArray := prog_2_method_6_code
def yX0_canBeCheaper : MethodName := ⟨RX0, "canBeCheaper", "(II)Z"⟩
abbrev cX0_firstCoin : ByteArray := prog_2_method_7_code
def yX0_firstCoin : MethodName := ⟨RX0, "firstCoin", "(I)I"⟩
abbrev cX0_lastCoin : ByteArray := prog_2_method_8_code
def yX0_lastCoin : MethodName := ⟨RX0, "lastCoin", "(I)I"⟩
abbrev cX0_isShort : ByteArray := prog_2_method_9_code
def yX0_isShort : MethodName := ⟨RX0, "isShort", "(III)Z"⟩
def wsX0_isShort : List Cond := .code yX0_isShort cX0_isShort 4 (some .boolean) :: ([.fieldLink RX0 34 "PaidBySigns$CoinSearch" "left" "[[I", .fieldLink RX0 28 "PaidBySigns$CoinSearch" "share" "[[I", .fieldLink RX0 20 "PaidBySigns$CoinSearch" "felt" "[I", .fieldLink RX0 31 "PaidBySigns$CoinSearch" "rest" "[[I"] ++ wsX00)
def wsX0_lastCoin : List Cond := .code yX0_lastCoin cX0_lastCoin 4 (some .int) :: ([.fieldLink RX0 23 "PaidBySigns$CoinSearch" "own" "[I", .fieldLink RX0 58 "PaidBySigns$CoinSearch" "most" "I", .fieldLink RX0 49 "PaidBySigns$CoinSearch" "lines" "I", .fieldLink RX0 28 "PaidBySigns$CoinSearch" "share" "[[I", .methodLink RX0 108 yX0_isShort, .instanceMethod yX0_isShort, .selects RX0 yX0_isShort yX0_isShort, .initialized RX0, .code yX0_isShort cX0_isShort 4 (some .boolean), .fieldLink RX0 34 "PaidBySigns$CoinSearch" "left" "[[I", .fieldLink RX0 20 "PaidBySigns$CoinSearch" "felt" "[I", .fieldLink RX0 31 "PaidBySigns$CoinSearch" "rest" "[[I"] ++ wsX00)
def wsX0_firstCoin : List Cond := .code yX0_firstCoin cX0_firstCoin 4 (some .int) :: ([.fieldLink RX0 49 "PaidBySigns$CoinSearch" "lines" "I", .fieldLink RX0 58 "PaidBySigns$CoinSearch" "most" "I", .fieldLink RX0 28 "PaidBySigns$CoinSearch" "share" "[[I", .methodLink RX0 108 yX0_isShort, .instanceMethod yX0_isShort, .selects RX0 yX0_isShort yX0_isShort, .initialized RX0, .code yX0_isShort cX0_isShort 4 (some .boolean), .fieldLink RX0 34 "PaidBySigns$CoinSearch" "left" "[[I", .fieldLink RX0 20 "PaidBySigns$CoinSearch" "felt" "[I", .fieldLink RX0 31 "PaidBySigns$CoinSearch" "rest" "[[I"] ++ wsX00)
def wsX0_canBeCheaper : List Cond := .code yX0_canBeCheaper cX0_canBeCheaper 9 (some .boolean) :: ([.fieldLink RX0 16 "PaidBySigns$CoinSearch" "bestCost" "I", .fieldLink RX0 49 "PaidBySigns$CoinSearch" "lines" "I", .fieldLink RX0 45 "PaidBySigns$CoinSearch" "signs" "I", .fieldLink RX0 28 "PaidBySigns$CoinSearch" "share" "[[I", .fieldLink RX0 23 "PaidBySigns$CoinSearch" "own" "[I", .fieldLink RX0 34 "PaidBySigns$CoinSearch" "left" "[[I", .fieldLink RX0 20 "PaidBySigns$CoinSearch" "felt" "[I"] ++ wsX00)
def wsX0_place_r1 : List Cond := [Cond.fieldLink RX0 45 "PaidBySigns$CoinSearch" "signs" "I", Cond.fieldLink RX0 16 "PaidBySigns$CoinSearch" "bestCost" "I", Cond.fieldLink RX0 37 "PaidBySigns$CoinSearch" "tried" "[I", Cond.fieldLink RX0 9 "PaidBySigns$CoinSearch" "chosen" "[I", Cond.methodLink RX0 92 arraycopyName, Cond.native arraycopyName, Cond.static arraycopyName, Cond.initialized "java/lang/System", Cond.fieldLink RX0 23 "PaidBySigns$CoinSearch" "own" "[I", Cond.fieldLink RX0 49 "PaidBySigns$CoinSearch" "lines" "I", Cond.fieldLink RX0 34 "PaidBySigns$CoinSearch" "left" "[[I", Cond.fieldLink RX0 28 "PaidBySigns$CoinSearch" "share" "[[I", Cond.fieldLink RX0 20 "PaidBySigns$CoinSearch" "felt" "[I", Cond.methodLink RX0 98 yX0_lastCoin, Cond.instanceMethod yX0_lastCoin, Cond.selects RX0 yX0_lastCoin yX0_lastCoin, Cond.initialized RX0, Cond.code yX0_lastCoin cX0_lastCoin 4 (some .int), Cond.fieldLink RX0 58 "PaidBySigns$CoinSearch" "most" "I", Cond.methodLink RX0 108 yX0_isShort, Cond.instanceMethod yX0_isShort, Cond.selects RX0 yX0_isShort yX0_isShort, Cond.code yX0_isShort cX0_isShort 4 (some .boolean), Cond.fieldLink RX0 31 "PaidBySigns$CoinSearch" "rest" "[[I"]
def wsX0_place_r2 : List Cond := [Cond.methodLink RX0 101 yX0_firstCoin, Cond.instanceMethod yX0_firstCoin, Cond.selects RX0 yX0_firstCoin yX0_firstCoin, Cond.code yX0_firstCoin cX0_firstCoin 4 (some .int), Cond.methodLink RX0 104 yX0_canBeCheaper, Cond.instanceMethod yX0_canBeCheaper, Cond.selects RX0 yX0_canBeCheaper yX0_canBeCheaper, Cond.code yX0_canBeCheaper cX0_canBeCheaper 9 (some .boolean), Cond.methodLink RX0 72 yX0_place, Cond.instanceMethod yX0_place, Cond.selects RX0 yX0_place yX0_place]
def wsX0_place : List Cond := .code yX0_place cX0_place 7 none :: ((wsX0_place_r1 ++ wsX0_place_r2) ++ wsX00)
theorem dX0_place_0 : decode cX0_place 0 = .ok (.iload_n 1, 1) := by decide +kernel
theorem dX0_place_1 : decode cX0_place 1 = .ok (.aload_n 0, 1) := by decide +kernel
theorem dX0_place_2 : decode cX0_place 2 = .ok (.getfield 45, 3) := by decide +kernel
theorem dX0_place_5 : decode cX0_place 5 = .ok (.if_icmp .lt 26, 3) := by decide +kernel
theorem dX0_place_8 : decode cX0_place 8 = .ok (.aload_n 0, 1) := by decide +kernel
theorem dX0_place_9 : decode cX0_place 9 = .ok (.iload_n 2, 1) := by decide +kernel
theorem dX0_place_10 : decode cX0_place 10 = .ok (.putfield 16, 3) := by decide +kernel
theorem dX0_place_13 : decode cX0_place 13 = .ok (.aload_n 0, 1) := by decide +kernel
theorem dX0_place_14 : decode cX0_place 14 = .ok (.getfield 37, 3) := by decide +kernel
theorem dX0_place_17 : decode cX0_place 17 = .ok (.iconst 0, 1) := by decide +kernel
theorem dX0_place_18 : decode cX0_place 18 = .ok (.aload_n 0, 1) := by decide +kernel
theorem dX0_place_19 : decode cX0_place 19 = .ok (.getfield 9, 3) := by decide +kernel
theorem dX0_place_22 : decode cX0_place 22 = .ok (.iconst 0, 1) := by decide +kernel
theorem dX0_place_23 : decode cX0_place 23 = .ok (.aload_n 0, 1) := by decide +kernel
theorem dX0_place_24 : decode cX0_place 24 = .ok (.getfield 45, 3) := by decide +kernel
theorem dX0_place_27 : decode cX0_place 27 = .ok (.invokestatic 92, 3) := by decide +kernel
theorem dX0_place_30 : decode cX0_place 30 = .ok (.return_, 1) := by decide +kernel
theorem dX0_canBeCheaper_0 : decode cX0_canBeCheaper 0 = .ok (.aload_n 0, 1) := by decide +kernel
theorem dX0_canBeCheaper_1 : decode cX0_canBeCheaper 1 = .ok (.getfield 16, 3) := by decide +kernel
theorem dX0_canBeCheaper_4 : decode cX0_canBeCheaper 4 = .ok (.i2l, 1) := by decide +kernel
theorem dX0_canBeCheaper_5 : decode cX0_canBeCheaper 5 = .ok (.iload_n 2, 1) := by decide +kernel
theorem dX0_canBeCheaper_6 : decode cX0_canBeCheaper 6 = .ok (.i2l, 1) := by decide +kernel
theorem dX0_canBeCheaper_7 : decode cX0_canBeCheaper 7 = .ok (.lsub, 1) := by decide +kernel
theorem dX0_canBeCheaper_8 : decode cX0_canBeCheaper 8 = .ok (.lstore_n 3, 1) := by decide +kernel
theorem dX0_canBeCheaper_9 : decode cX0_canBeCheaper 9 = .ok (.iconst 0, 1) := by decide +kernel
theorem dX0_canBeCheaper_10 : decode cX0_canBeCheaper 10 = .ok (.istore 5, 2) := by decide +kernel
theorem dX0_canBeCheaper_12 : decode cX0_canBeCheaper 12 = .ok (.iload 5, 2) := by decide +kernel
theorem dX0_canBeCheaper_14 : decode cX0_canBeCheaper 14 = .ok (.aload_n 0, 1) := by decide +kernel
theorem dX0_canBeCheaper_15 : decode cX0_canBeCheaper 15 = .ok (.getfield 49, 3) := by decide +kernel
theorem dX0_canBeCheaper_18 : decode cX0_canBeCheaper 18 = .ok (.if_icmp .ge 130, 3) := by decide +kernel
theorem dX0_canBeCheaper_21 : decode cX0_canBeCheaper 21 = .ok (.iconst 0, 1) := by decide +kernel
theorem dX0_canBeCheaper_22 : decode cX0_canBeCheaper 22 = .ok (.istore 6, 2) := by decide +kernel
theorem dX0_canBeCheaper_24 : decode cX0_canBeCheaper 24 = .ok (.iconst 1, 1) := by decide +kernel
theorem dX0_canBeCheaper_25 : decode cX0_canBeCheaper 25 = .ok (.istore 7, 2) := by decide +kernel
theorem dX0_canBeCheaper_27 : decode cX0_canBeCheaper 27 = .ok (.iload_n 1, 1) := by decide +kernel
theorem dX0_canBeCheaper_28 : decode cX0_canBeCheaper 28 = .ok (.istore 8, 2) := by decide +kernel
theorem dX0_canBeCheaper_30 : decode cX0_canBeCheaper 30 = .ok (.iload 8, 2) := by decide +kernel
theorem dX0_canBeCheaper_32 : decode cX0_canBeCheaper 32 = .ok (.aload_n 0, 1) := by decide +kernel
theorem dX0_canBeCheaper_33 : decode cX0_canBeCheaper 33 = .ok (.getfield 45, 3) := by decide +kernel
theorem dX0_canBeCheaper_36 : decode cX0_canBeCheaper 36 = .ok (.if_icmp .ge 56, 3) := by decide +kernel
theorem dX0_canBeCheaper_39 : decode cX0_canBeCheaper 39 = .ok (.aload_n 0, 1) := by decide +kernel
theorem dX0_canBeCheaper_40 : decode cX0_canBeCheaper 40 = .ok (.getfield 28, 3) := by decide +kernel
theorem dX0_canBeCheaper_43 : decode cX0_canBeCheaper 43 = .ok (.iload 5, 2) := by decide +kernel
theorem dX0_canBeCheaper_45 : decode cX0_canBeCheaper 45 = .ok (.aaload, 1) := by decide +kernel
theorem dX0_canBeCheaper_46 : decode cX0_canBeCheaper 46 = .ok (.iload 8, 2) := by decide +kernel
theorem dX0_canBeCheaper_48 : decode cX0_canBeCheaper 48 = .ok (.iaload, 1) := by decide +kernel
theorem dX0_canBeCheaper_49 : decode cX0_canBeCheaper 49 = .ok (.iload 7, 2) := by decide +kernel
theorem dX0_canBeCheaper_51 : decode cX0_canBeCheaper 51 = .ok (.imul, 1) := by decide +kernel
theorem dX0_canBeCheaper_52 : decode cX0_canBeCheaper 52 = .ok (.iload 6, 2) := by decide +kernel
theorem dX0_canBeCheaper_54 : decode cX0_canBeCheaper 54 = .ok (.aload_n 0, 1) := by decide +kernel
theorem dX0_canBeCheaper_55 : decode cX0_canBeCheaper 55 = .ok (.getfield 23, 3) := by decide +kernel
theorem dX0_canBeCheaper_58 : decode cX0_canBeCheaper 58 = .ok (.iload 8, 2) := by decide +kernel
theorem dX0_canBeCheaper_60 : decode cX0_canBeCheaper 60 = .ok (.iaload, 1) := by decide +kernel
theorem dX0_canBeCheaper_61 : decode cX0_canBeCheaper 61 = .ok (.imul, 1) := by decide +kernel
theorem dX0_canBeCheaper_62 : decode cX0_canBeCheaper 62 = .ok (.if_icmp .le 24, 3) := by decide +kernel
theorem dX0_canBeCheaper_65 : decode cX0_canBeCheaper 65 = .ok (.aload_n 0, 1) := by decide +kernel
theorem dX0_canBeCheaper_66 : decode cX0_canBeCheaper 66 = .ok (.getfield 28, 3) := by decide +kernel
theorem dX0_canBeCheaper_69 : decode cX0_canBeCheaper 69 = .ok (.iload 5, 2) := by decide +kernel
theorem dX0_canBeCheaper_71 : decode cX0_canBeCheaper 71 = .ok (.aaload, 1) := by decide +kernel
theorem dX0_canBeCheaper_72 : decode cX0_canBeCheaper 72 = .ok (.iload 8, 2) := by decide +kernel
theorem dX0_canBeCheaper_74 : decode cX0_canBeCheaper 74 = .ok (.iaload, 1) := by decide +kernel
theorem dX0_canBeCheaper_75 : decode cX0_canBeCheaper 75 = .ok (.istore 6, 2) := by decide +kernel
theorem dX0_canBeCheaper_77 : decode cX0_canBeCheaper 77 = .ok (.aload_n 0, 1) := by decide +kernel
theorem dX0_canBeCheaper_78 : decode cX0_canBeCheaper 78 = .ok (.getfield 23, 3) := by decide +kernel
theorem dX0_canBeCheaper_81 : decode cX0_canBeCheaper 81 = .ok (.iload 8, 2) := by decide +kernel
theorem dX0_canBeCheaper_83 : decode cX0_canBeCheaper 83 = .ok (.iaload, 1) := by decide +kernel
theorem dX0_canBeCheaper_84 : decode cX0_canBeCheaper 84 = .ok (.istore 7, 2) := by decide +kernel
theorem dX0_canBeCheaper_86 : decode cX0_canBeCheaper 86 = .ok (.iinc 8 1, 3) := by decide +kernel
theorem dX0_canBeCheaper_89 : decode cX0_canBeCheaper 89 = .ok (.goto (-59), 3) := by decide +kernel
theorem dX0_canBeCheaper_92 : decode cX0_canBeCheaper 92 = .ok (.iload 6, 2) := by decide +kernel
theorem dX0_canBeCheaper_94 : decode cX0_canBeCheaper 94 = .ok (.ifCond .le 48, 3) := by decide +kernel
theorem dX0_canBeCheaper_97 : decode cX0_canBeCheaper 97 = .ok (.aload_n 0, 1) := by decide +kernel
theorem dX0_canBeCheaper_98 : decode cX0_canBeCheaper 98 = .ok (.getfield 34, 3) := by decide +kernel
theorem dX0_canBeCheaper_101 : decode cX0_canBeCheaper 101 = .ok (.iload_n 1, 1) := by decide +kernel
theorem dX0_canBeCheaper_102 : decode cX0_canBeCheaper 102 = .ok (.aaload, 1) := by decide +kernel
theorem dX0_canBeCheaper_103 : decode cX0_canBeCheaper 103 = .ok (.iload 5, 2) := by decide +kernel
theorem dX0_canBeCheaper_105 : decode cX0_canBeCheaper 105 = .ok (.iaload, 1) := by decide +kernel
theorem dX0_canBeCheaper_106 : decode cX0_canBeCheaper 106 = .ok (.ifCond .le 36, 3) := by decide +kernel
theorem dX0_canBeCheaper_109 : decode cX0_canBeCheaper 109 = .ok (.aload_n 0, 1) := by decide +kernel
theorem dX0_canBeCheaper_110 : decode cX0_canBeCheaper 110 = .ok (.getfield 34, 3) := by decide +kernel
theorem dX0_canBeCheaper_113 : decode cX0_canBeCheaper 113 = .ok (.iload_n 1, 1) := by decide +kernel
theorem dX0_canBeCheaper_114 : decode cX0_canBeCheaper 114 = .ok (.aaload, 1) := by decide +kernel
theorem dX0_canBeCheaper_115 : decode cX0_canBeCheaper 115 = .ok (.iload 5, 2) := by decide +kernel
theorem dX0_canBeCheaper_117 : decode cX0_canBeCheaper 117 = .ok (.iaload, 1) := by decide +kernel
theorem dX0_canBeCheaper_118 : decode cX0_canBeCheaper 118 = .ok (.i2l, 1) := by decide +kernel
theorem dX0_canBeCheaper_119 : decode cX0_canBeCheaper 119 = .ok (.iload 7, 2) := by decide +kernel
theorem dX0_canBeCheaper_121 : decode cX0_canBeCheaper 121 = .ok (.i2l, 1) := by decide +kernel
theorem dX0_canBeCheaper_122 : decode cX0_canBeCheaper 122 = .ok (.lmul, 1) := by decide +kernel
theorem dX0_canBeCheaper_123 : decode cX0_canBeCheaper 123 = .ok (.lload_n 3, 1) := by decide +kernel
theorem dX0_canBeCheaper_124 : decode cX0_canBeCheaper 124 = .ok (.iload 6, 2) := by decide +kernel
theorem dX0_canBeCheaper_126 : decode cX0_canBeCheaper 126 = .ok (.i2l, 1) := by decide +kernel
theorem dX0_canBeCheaper_127 : decode cX0_canBeCheaper 127 = .ok (.lmul, 1) := by decide +kernel
theorem dX0_canBeCheaper_128 : decode cX0_canBeCheaper 128 = .ok (.aload_n 0, 1) := by decide +kernel
theorem dX0_canBeCheaper_129 : decode cX0_canBeCheaper 129 = .ok (.getfield 20, 3) := by decide +kernel
theorem dX0_canBeCheaper_132 : decode cX0_canBeCheaper 132 = .ok (.iconst 1, 1) := by decide +kernel
theorem dX0_canBeCheaper_133 : decode cX0_canBeCheaper 133 = .ok (.iaload, 1) := by decide +kernel
theorem dX0_canBeCheaper_134 : decode cX0_canBeCheaper 134 = .ok (.i2l, 1) := by decide +kernel
theorem dX0_canBeCheaper_135 : decode cX0_canBeCheaper 135 = .ok (.lmul, 1) := by decide +kernel
theorem dX0_canBeCheaper_136 : decode cX0_canBeCheaper 136 = .ok (.lcmp, 1) := by decide +kernel
theorem dX0_canBeCheaper_137 : decode cX0_canBeCheaper 137 = .ok (.ifCond .lt 5, 3) := by decide +kernel
theorem dX0_canBeCheaper_140 : decode cX0_canBeCheaper 140 = .ok (.iconst 0, 1) := by decide +kernel
theorem dX0_canBeCheaper_141 : decode cX0_canBeCheaper 141 = .ok (.ireturn, 1) := by decide +kernel
theorem dX0_canBeCheaper_142 : decode cX0_canBeCheaper 142 = .ok (.iinc 5 1, 3) := by decide +kernel
theorem dX0_canBeCheaper_145 : decode cX0_canBeCheaper 145 = .ok (.goto (-133), 3) := by decide +kernel
theorem dX0_canBeCheaper_148 : decode cX0_canBeCheaper 148 = .ok (.iconst 1, 1) := by decide +kernel
theorem dX0_canBeCheaper_149 : decode cX0_canBeCheaper 149 = .ok (.ireturn, 1) := by decide +kernel
set_option maxRecDepth 20000 in
theorem ggX0_firstCoin_X0_isShort : GoodIn wsX0_firstCoin wsX0_isShort := goodIn_r _ [8, 9, 3, 10, 11, 12, 13, 14, 15, 16, 17, 18, 19, 20, 21, 22] (by decide +kernel) (by decide +kernel)
set_option maxRecDepth 20000 in
theorem gX0_firstCoin_X0_isShort : GoodIn wsX0_firstCoin (wsV RX0 108 RX0 yX0_isShort wsX0_isShort) := goodIn_app (goodIn_of _ (by decide +kernel)) ggX0_firstCoin_X0_isShort
theorem dX0_firstCoin_0 : decode cX0_firstCoin 0 = .ok (.iconst 0, 1) := by decide +kernel
theorem dX0_firstCoin_1 : decode cX0_firstCoin 1 = .ok (.istore_n 2, 1) := by decide +kernel
theorem dX0_firstCoin_2 : decode cX0_firstCoin 2 = .ok (.iconst 0, 1) := by decide +kernel
theorem dX0_firstCoin_3 : decode cX0_firstCoin 3 = .ok (.istore_n 3, 1) := by decide +kernel
theorem dX0_firstCoin_4 : decode cX0_firstCoin 4 = .ok (.iload_n 3, 1) := by decide +kernel
theorem dX0_firstCoin_5 : decode cX0_firstCoin 5 = .ok (.aload_n 0, 1) := by decide +kernel
theorem dX0_firstCoin_6 : decode cX0_firstCoin 6 = .ok (.getfield 49, 3) := by decide +kernel
theorem dX0_firstCoin_9 : decode cX0_firstCoin 9 = .ok (.if_icmp .ge 44, 3) := by decide +kernel
theorem dX0_firstCoin_12 : decode cX0_firstCoin 12 = .ok (.iload_n 2, 1) := by decide +kernel
theorem dX0_firstCoin_13 : decode cX0_firstCoin 13 = .ok (.aload_n 0, 1) := by decide +kernel
theorem dX0_firstCoin_14 : decode cX0_firstCoin 14 = .ok (.getfield 58, 3) := by decide +kernel
theorem dX0_firstCoin_17 : decode cX0_firstCoin 17 = .ok (.if_icmp .gt 30, 3) := by decide +kernel
theorem dX0_firstCoin_20 : decode cX0_firstCoin 20 = .ok (.aload_n 0, 1) := by decide +kernel
theorem dX0_firstCoin_21 : decode cX0_firstCoin 21 = .ok (.getfield 28, 3) := by decide +kernel
theorem dX0_firstCoin_24 : decode cX0_firstCoin 24 = .ok (.iload_n 3, 1) := by decide +kernel
theorem dX0_firstCoin_25 : decode cX0_firstCoin 25 = .ok (.aaload, 1) := by decide +kernel
theorem dX0_firstCoin_26 : decode cX0_firstCoin 26 = .ok (.iload_n 1, 1) := by decide +kernel
theorem dX0_firstCoin_27 : decode cX0_firstCoin 27 = .ok (.iaload, 1) := by decide +kernel
theorem dX0_firstCoin_28 : decode cX0_firstCoin 28 = .ok (.ifCond .lt 19, 3) := by decide +kernel
theorem dX0_firstCoin_31 : decode cX0_firstCoin 31 = .ok (.aload_n 0, 1) := by decide +kernel
theorem dX0_firstCoin_32 : decode cX0_firstCoin 32 = .ok (.iload_n 3, 1) := by decide +kernel
theorem dX0_firstCoin_33 : decode cX0_firstCoin 33 = .ok (.iload_n 1, 1) := by decide +kernel
theorem dX0_firstCoin_34 : decode cX0_firstCoin 34 = .ok (.iload_n 2, 1) := by decide +kernel
theorem dX0_firstCoin_35 : decode cX0_firstCoin 35 = .ok (.invokevirtual 108, 3) := by decide +kernel
theorem dX0_firstCoin_38 : decode cX0_firstCoin 38 = .ok (.ifCond .eq 9, 3) := by decide +kernel
theorem dX0_firstCoin_41 : decode cX0_firstCoin 41 = .ok (.iinc 2 1, 3) := by decide +kernel
theorem dX0_firstCoin_44 : decode cX0_firstCoin 44 = .ok (.goto (-32), 3) := by decide +kernel
theorem dX0_firstCoin_47 : decode cX0_firstCoin 47 = .ok (.iinc 3 1, 3) := by decide +kernel
theorem dX0_firstCoin_50 : decode cX0_firstCoin 50 = .ok (.goto (-46), 3) := by decide +kernel
theorem dX0_firstCoin_53 : decode cX0_firstCoin 53 = .ok (.iload_n 2, 1) := by decide +kernel
theorem dX0_firstCoin_54 : decode cX0_firstCoin 54 = .ok (.ireturn, 1) := by decide +kernel
set_option maxRecDepth 20000 in
theorem ggX0_lastCoin_X0_isShort : GoodIn wsX0_lastCoin wsX0_isShort := goodIn_r _ [9, 10, 4, 11, 12, 13, 14, 15, 16, 17, 18, 19, 20, 21, 22, 23] (by decide +kernel) (by decide +kernel)
set_option maxRecDepth 20000 in
theorem gX0_lastCoin_X0_isShort : GoodIn wsX0_lastCoin (wsV RX0 108 RX0 yX0_isShort wsX0_isShort) := goodIn_app (goodIn_of _ (by decide +kernel)) ggX0_lastCoin_X0_isShort
theorem dX0_lastCoin_0 : decode cX0_lastCoin 0 = .ok (.aload_n 0, 1) := by decide +kernel
theorem dX0_lastCoin_1 : decode cX0_lastCoin 1 = .ok (.getfield 23, 3) := by decide +kernel
theorem dX0_lastCoin_4 : decode cX0_lastCoin 4 = .ok (.iload_n 1, 1) := by decide +kernel
theorem dX0_lastCoin_5 : decode cX0_lastCoin 5 = .ok (.iaload, 1) := by decide +kernel
theorem dX0_lastCoin_6 : decode cX0_lastCoin 6 = .ok (.ifCond .ne 7, 3) := by decide +kernel
theorem dX0_lastCoin_9 : decode cX0_lastCoin 9 = .ok (.iconst 0, 1) := by decide +kernel
theorem dX0_lastCoin_10 : decode cX0_lastCoin 10 = .ok (.goto 7, 3) := by decide +kernel
theorem dX0_lastCoin_13 : decode cX0_lastCoin 13 = .ok (.aload_n 0, 1) := by decide +kernel
theorem dX0_lastCoin_14 : decode cX0_lastCoin 14 = .ok (.getfield 58, 3) := by decide +kernel
theorem dX0_lastCoin_17 : decode cX0_lastCoin 17 = .ok (.istore_n 2, 1) := by decide +kernel
theorem dX0_lastCoin_18 : decode cX0_lastCoin 18 = .ok (.iconst 0, 1) := by decide +kernel
theorem dX0_lastCoin_19 : decode cX0_lastCoin 19 = .ok (.istore_n 3, 1) := by decide +kernel
theorem dX0_lastCoin_20 : decode cX0_lastCoin 20 = .ok (.iload_n 3, 1) := by decide +kernel
theorem dX0_lastCoin_21 : decode cX0_lastCoin 21 = .ok (.aload_n 0, 1) := by decide +kernel
theorem dX0_lastCoin_22 : decode cX0_lastCoin 22 = .ok (.getfield 49, 3) := by decide +kernel
theorem dX0_lastCoin_25 : decode cX0_lastCoin 25 = .ok (.if_icmp .ge 40, 3) := by decide +kernel
theorem dX0_lastCoin_28 : decode cX0_lastCoin 28 = .ok (.iload_n 2, 1) := by decide +kernel
theorem dX0_lastCoin_29 : decode cX0_lastCoin 29 = .ok (.ifCond .lt 30, 3) := by decide +kernel
theorem dX0_lastCoin_32 : decode cX0_lastCoin 32 = .ok (.aload_n 0, 1) := by decide +kernel
theorem dX0_lastCoin_33 : decode cX0_lastCoin 33 = .ok (.getfield 28, 3) := by decide +kernel
theorem dX0_lastCoin_36 : decode cX0_lastCoin 36 = .ok (.iload_n 3, 1) := by decide +kernel
theorem dX0_lastCoin_37 : decode cX0_lastCoin 37 = .ok (.aaload, 1) := by decide +kernel
theorem dX0_lastCoin_38 : decode cX0_lastCoin 38 = .ok (.iload_n 1, 1) := by decide +kernel
theorem dX0_lastCoin_39 : decode cX0_lastCoin 39 = .ok (.iaload, 1) := by decide +kernel
theorem dX0_lastCoin_40 : decode cX0_lastCoin 40 = .ok (.ifCond .ge 19, 3) := by decide +kernel
theorem dX0_lastCoin_43 : decode cX0_lastCoin 43 = .ok (.aload_n 0, 1) := by decide +kernel
theorem dX0_lastCoin_44 : decode cX0_lastCoin 44 = .ok (.iload_n 3, 1) := by decide +kernel
theorem dX0_lastCoin_45 : decode cX0_lastCoin 45 = .ok (.iload_n 1, 1) := by decide +kernel
theorem dX0_lastCoin_46 : decode cX0_lastCoin 46 = .ok (.iload_n 2, 1) := by decide +kernel
theorem dX0_lastCoin_47 : decode cX0_lastCoin 47 = .ok (.invokevirtual 108, 3) := by decide +kernel
theorem dX0_lastCoin_50 : decode cX0_lastCoin 50 = .ok (.ifCond .eq 9, 3) := by decide +kernel
theorem dX0_lastCoin_53 : decode cX0_lastCoin 53 = .ok (.iinc 2 (-1), 3) := by decide +kernel
theorem dX0_lastCoin_56 : decode cX0_lastCoin 56 = .ok (.goto (-28), 3) := by decide +kernel
theorem dX0_lastCoin_59 : decode cX0_lastCoin 59 = .ok (.iinc 3 1, 3) := by decide +kernel
theorem dX0_lastCoin_62 : decode cX0_lastCoin 62 = .ok (.goto (-42), 3) := by decide +kernel
theorem dX0_lastCoin_65 : decode cX0_lastCoin 65 = .ok (.iload_n 2, 1) := by decide +kernel
theorem dX0_lastCoin_66 : decode cX0_lastCoin 66 = .ok (.ireturn, 1) := by decide +kernel
theorem dX0_isShort_0 : decode cX0_isShort 0 = .ok (.aload_n 0, 1) := by decide +kernel
theorem dX0_isShort_1 : decode cX0_isShort 1 = .ok (.getfield 34, 3) := by decide +kernel
theorem dX0_isShort_4 : decode cX0_isShort 4 = .ok (.iload_n 2, 1) := by decide +kernel
theorem dX0_isShort_5 : decode cX0_isShort 5 = .ok (.aaload, 1) := by decide +kernel
theorem dX0_isShort_6 : decode cX0_isShort 6 = .ok (.iload_n 1, 1) := by decide +kernel
theorem dX0_isShort_7 : decode cX0_isShort 7 = .ok (.iaload, 1) := by decide +kernel
theorem dX0_isShort_8 : decode cX0_isShort 8 = .ok (.aload_n 0, 1) := by decide +kernel
theorem dX0_isShort_9 : decode cX0_isShort 9 = .ok (.getfield 28, 3) := by decide +kernel
theorem dX0_isShort_12 : decode cX0_isShort 12 = .ok (.iload_n 1, 1) := by decide +kernel
theorem dX0_isShort_13 : decode cX0_isShort 13 = .ok (.aaload, 1) := by decide +kernel
theorem dX0_isShort_14 : decode cX0_isShort 14 = .ok (.iload_n 2, 1) := by decide +kernel
theorem dX0_isShort_15 : decode cX0_isShort 15 = .ok (.iaload, 1) := by decide +kernel
theorem dX0_isShort_16 : decode cX0_isShort 16 = .ok (.aload_n 0, 1) := by decide +kernel
theorem dX0_isShort_17 : decode cX0_isShort 17 = .ok (.getfield 20, 3) := by decide +kernel
theorem dX0_isShort_20 : decode cX0_isShort 20 = .ok (.iload_n 3, 1) := by decide +kernel
theorem dX0_isShort_21 : decode cX0_isShort 21 = .ok (.iaload, 1) := by decide +kernel
theorem dX0_isShort_22 : decode cX0_isShort 22 = .ok (.imul, 1) := by decide +kernel
theorem dX0_isShort_23 : decode cX0_isShort 23 = .ok (.aload_n 0, 1) := by decide +kernel
theorem dX0_isShort_24 : decode cX0_isShort 24 = .ok (.getfield 31, 3) := by decide +kernel
theorem dX0_isShort_27 : decode cX0_isShort 27 = .ok (.iload_n 1, 1) := by decide +kernel
theorem dX0_isShort_28 : decode cX0_isShort 28 = .ok (.aaload, 1) := by decide +kernel
theorem dX0_isShort_29 : decode cX0_isShort 29 = .ok (.iload_n 2, 1) := by decide +kernel
theorem dX0_isShort_30 : decode cX0_isShort 30 = .ok (.iconst 1, 1) := by decide +kernel
theorem dX0_isShort_31 : decode cX0_isShort 31 = .ok (.iadd, 1) := by decide +kernel
theorem dX0_isShort_32 : decode cX0_isShort 32 = .ok (.iaload, 1) := by decide +kernel
theorem dX0_isShort_33 : decode cX0_isShort 33 = .ok (.iadd, 1) := by decide +kernel
theorem dX0_isShort_34 : decode cX0_isShort 34 = .ok (.if_icmp .le 7, 3) := by decide +kernel
theorem dX0_isShort_37 : decode cX0_isShort 37 = .ok (.iconst 1, 1) := by decide +kernel
theorem dX0_isShort_38 : decode cX0_isShort 38 = .ok (.goto 4, 3) := by decide +kernel
theorem dX0_isShort_41 : decode cX0_isShort 41 = .ok (.iconst 0, 1) := by decide +kernel
theorem dX0_isShort_42 : decode cX0_isShort 42 = .ok (.ireturn, 1) := by decide +kernel
theorem pm_X0_place_r1 : ∀ w ∈ wsX0_place_r1, w ∈ wsX0_place := fun _ h => List.mem_cons_of_mem _ (List.mem_append_left _ (List.mem_append_left _ h))
theorem pm_X0_place_r2 : ∀ w ∈ wsX0_place_r2, w ∈ wsX0_place := fun _ h => List.mem_cons_of_mem _ (List.mem_append_left _ (List.mem_append_right _ (h)))
theorem pw_X0_place_X0 : ∀ w ∈ wsX00, w ∈ wsX0_place := fun _ h => List.mem_cons_of_mem _ (List.mem_append_right _ h)
theorem kk_X0_place_0 : Cond.fieldLink RX0 45 "PaidBySigns$CoinSearch" "signs" "I" ∈ wsX0_place := pm_X0_place_r1 _ (List.mem_of_getElem? (i := 0) rfl)
theorem kk_X0_lastCoin_0 : Cond.fieldLink RX0 23 "PaidBySigns$CoinSearch" "own" "[I" ∈ wsX0_lastCoin := by decide +kernel
theorem kk_X0_lastCoin_1 : Cond.fieldLink RX0 58 "PaidBySigns$CoinSearch" "most" "I" ∈ wsX0_lastCoin := by decide +kernel
theorem kk_X0_lastCoin_2 : Cond.fieldLink RX0 49 "PaidBySigns$CoinSearch" "lines" "I" ∈ wsX0_lastCoin := by decide +kernel
theorem kk_X0_lastCoin_3 : Cond.fieldLink RX0 28 "PaidBySigns$CoinSearch" "share" "[[I" ∈ wsX0_lastCoin := by decide +kernel
theorem kk_X0_isShort_0 : Cond.fieldLink RX0 34 "PaidBySigns$CoinSearch" "left" "[[I" ∈ wsX0_isShort := by decide +kernel
theorem kk_X0_isShort_1 : Cond.fieldLink RX0 28 "PaidBySigns$CoinSearch" "share" "[[I" ∈ wsX0_isShort := by decide +kernel
theorem kk_X0_isShort_2 : Cond.fieldLink RX0 20 "PaidBySigns$CoinSearch" "felt" "[I" ∈ wsX0_isShort := by decide +kernel
theorem kk_X0_isShort_3 : Cond.fieldLink RX0 31 "PaidBySigns$CoinSearch" "rest" "[[I" ∈ wsX0_isShort := by decide +kernel
theorem kk_X0_firstCoin_0 : Cond.fieldLink RX0 49 "PaidBySigns$CoinSearch" "lines" "I" ∈ wsX0_firstCoin := by decide +kernel
theorem kk_X0_firstCoin_1 : Cond.fieldLink RX0 58 "PaidBySigns$CoinSearch" "most" "I" ∈ wsX0_firstCoin := by decide +kernel
theorem kk_X0_firstCoin_2 : Cond.fieldLink RX0 28 "PaidBySigns$CoinSearch" "share" "[[I" ∈ wsX0_firstCoin := by decide +kernel
theorem kk_X0_place_1 : Cond.fieldLink RX0 23 "PaidBySigns$CoinSearch" "own" "[I" ∈ wsX0_place := pm_X0_place_r1 _ (List.mem_of_getElem? (i := 8) rfl)
theorem kk_X0_place_2 : Cond.fieldLink RX0 16 "PaidBySigns$CoinSearch" "bestCost" "I" ∈ wsX0_place := pm_X0_place_r1 _ (List.mem_of_getElem? (i := 1) rfl)
theorem kk_X0_place_3 : Cond.fieldLink RX0 37 "PaidBySigns$CoinSearch" "tried" "[I" ∈ wsX0_place := pm_X0_place_r1 _ (List.mem_of_getElem? (i := 2) rfl)
theorem kk_X0_place_4 : Cond.fieldLink RX0 49 "PaidBySigns$CoinSearch" "lines" "I" ∈ wsX0_place := pm_X0_place_r1 _ (List.mem_of_getElem? (i := 9) rfl)
theorem kk_X0_canBeCheaper_0 : Cond.fieldLink RX0 16 "PaidBySigns$CoinSearch" "bestCost" "I" ∈ wsX0_canBeCheaper := by decide +kernel
theorem kk_X0_canBeCheaper_1 : Cond.fieldLink RX0 49 "PaidBySigns$CoinSearch" "lines" "I" ∈ wsX0_canBeCheaper := by decide +kernel
theorem kk_X0_canBeCheaper_2 : Cond.fieldLink RX0 45 "PaidBySigns$CoinSearch" "signs" "I" ∈ wsX0_canBeCheaper := by decide +kernel
theorem kk_X0_canBeCheaper_3 : Cond.fieldLink RX0 28 "PaidBySigns$CoinSearch" "share" "[[I" ∈ wsX0_canBeCheaper := by decide +kernel
theorem kk_X0_canBeCheaper_4 : Cond.fieldLink RX0 23 "PaidBySigns$CoinSearch" "own" "[I" ∈ wsX0_canBeCheaper := by decide +kernel
theorem kk_X0_canBeCheaper_5 : Cond.fieldLink RX0 34 "PaidBySigns$CoinSearch" "left" "[[I" ∈ wsX0_canBeCheaper := by decide +kernel
theorem kk_X0_canBeCheaper_6 : Cond.fieldLink RX0 20 "PaidBySigns$CoinSearch" "felt" "[I" ∈ wsX0_canBeCheaper := by decide +kernel
theorem kk_X0_place_5 : Cond.fieldLink RX0 9 "PaidBySigns$CoinSearch" "chosen" "[I" ∈ wsX0_place := pm_X0_place_r1 _ (List.mem_of_getElem? (i := 3) rfl)
theorem kk_X0_place_6 : Cond.methodLink RX0 92 arraycopyName ∈ wsX0_place := pm_X0_place_r1 _ (List.mem_of_getElem? (i := 4) rfl)
theorem kk_X0_place_7 : Cond.native arraycopyName ∈ wsX0_place := pm_X0_place_r1 _ (List.mem_of_getElem? (i := 5) rfl)
theorem kk_X0_place_8 : Cond.static arraycopyName ∈ wsX0_place := pm_X0_place_r1 _ (List.mem_of_getElem? (i := 6) rfl)
theorem kk_X0_place_9 : Cond.initialized "java/lang/System" ∈ wsX0_place := pm_X0_place_r1 _ (List.mem_of_getElem? (i := 7) rfl)
theorem kk_X0_place_10 : Cond.fieldLink RX0 34 "PaidBySigns$CoinSearch" "left" "[[I" ∈ wsX0_place := pm_X0_place_r1 _ (List.mem_of_getElem? (i := 10) rfl)
theorem kk_X0_place_11 : Cond.fieldLink RX0 28 "PaidBySigns$CoinSearch" "share" "[[I" ∈ wsX0_place := pm_X0_place_r1 _ (List.mem_of_getElem? (i := 11) rfl)
theorem kk_X0_place_12 : Cond.fieldLink RX0 20 "PaidBySigns$CoinSearch" "felt" "[I" ∈ wsX0_place := pm_X0_place_r1 _ (List.mem_of_getElem? (i := 12) rfl)
theorem iw_X0_place_X0 : ∀ w ∈ wsX00, w ∈ wsX0_place := pw_X0_place_X0
theorem iw_X0_lastCoin_X0 : ∀ w ∈ wsX00, w ∈ wsX0_lastCoin := by decide +kernel
theorem iw_X0_isShort_X0 : ∀ w ∈ wsX00, w ∈ wsX0_isShort := by decide +kernel
theorem iw_X0_firstCoin_X0 : ∀ w ∈ wsX00, w ∈ wsX0_firstCoin := by decide +kernel
theorem iw_X0_canBeCheaper_X0 : ∀ w ∈ wsX00, w ∈ wsX0_canBeCheaper := by decide +kernel
