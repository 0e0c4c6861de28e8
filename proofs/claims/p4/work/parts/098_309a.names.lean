abbrev cX10_minor : ByteArray := prog_12_method_47_code
def yX10_minor : MethodName := ⟨RX10, "minor", "(II)J"⟩
def wsX10_minor : List Cond := .code yX10_minor cX10_minor 7 (some .long) :: ([.fieldLink RX10 289 "PaidBySignsModel" "groups" "I", .fieldLink RX10 58 "PaidBySignsModel" "matrix" "[J", .methodLink RX10 302 yX10_minor, .instanceMethod yX10_minor, .selects RX10 yX10_minor yX10_minor, .initialized RX10] ++ wsX100)
set_option maxRecDepth 20000 in
theorem ggX10_minor_X10_minor : GoodIn wsX10_minor wsX10_minor := goodIn_r _ [0, 1, 2, 3, 4, 5, 6, 7, 8, 9, 10, 11, 12, 13, 14, 15, 16, 17, 18, 19, 20, 21, 22, 23, 24, 25, 26, 27, 28, 29, 30, 31, 32, 33, 34, 35, 36, 37, 38, 39, 40, 41, 42, 43, 44, 45, 46, 47, 48, 49, 50, 51, 52, 53, 54, 55, 56, 57, 58, 59, 60, 61, 62, 63, 64, 65, 66, 67, 68, 69, 70, 71] (by decide +kernel) (by decide +kernel)
set_option maxRecDepth 20000 in
theorem gX10_minor_X10_minor : GoodIn wsX10_minor (wsV RX10 302 RX10 yX10_minor wsX10_minor) := goodIn_app (goodIn_of _ (by decide +kernel)) ggX10_minor_X10_minor
theorem dX10_minor_0 : decode cX10_minor 0 = .ok (.iload_n 1, 1) := by decide +kernel
theorem dX10_minor_1 : decode cX10_minor 1 = .ok (.aload_n 0, 1) := by decide +kernel
theorem dX10_minor_2 : decode cX10_minor 2 = .ok (.getfield 289, 3) := by decide +kernel
theorem dX10_minor_5 : decode cX10_minor 5 = .ok (.if_icmp .ne 5, 3) := by decide +kernel
theorem dX10_minor_8 : decode cX10_minor 8 = .ok (.lconst 1, 1) := by decide +kernel
theorem dX10_minor_9 : decode cX10_minor 9 = .ok (.lreturn, 1) := by decide +kernel
theorem dX10_minor_10 : decode cX10_minor 10 = .ok (.lconst 0, 1) := by decide +kernel
theorem dX10_minor_11 : decode cX10_minor 11 = .ok (.lstore_n 3, 1) := by decide +kernel
theorem dX10_minor_12 : decode cX10_minor 12 = .ok (.iconst 1, 1) := by decide +kernel
theorem dX10_minor_13 : decode cX10_minor 13 = .ok (.istore 5, 2) := by decide +kernel
theorem dX10_minor_15 : decode cX10_minor 15 = .ok (.iconst 0, 1) := by decide +kernel
theorem dX10_minor_16 : decode cX10_minor 16 = .ok (.istore 6, 2) := by decide +kernel
theorem dX10_minor_18 : decode cX10_minor 18 = .ok (.iload 6, 2) := by decide +kernel
theorem dX10_minor_20 : decode cX10_minor 20 = .ok (.aload_n 0, 1) := by decide +kernel
theorem dX10_minor_21 : decode cX10_minor 21 = .ok (.getfield 289, 3) := by decide +kernel
theorem dX10_minor_24 : decode cX10_minor 24 = .ok (.if_icmp .ge 76, 3) := by decide +kernel
theorem dX10_minor_27 : decode cX10_minor 27 = .ok (.iload_n 2, 1) := by decide +kernel
theorem dX10_minor_28 : decode cX10_minor 28 = .ok (.iload 6, 2) := by decide +kernel
theorem dX10_minor_30 : decode cX10_minor 30 = .ok (.ishr, 1) := by decide +kernel
theorem dX10_minor_31 : decode cX10_minor 31 = .ok (.iconst 1, 1) := by decide +kernel
theorem dX10_minor_32 : decode cX10_minor 32 = .ok (.iand, 1) := by decide +kernel
theorem dX10_minor_33 : decode cX10_minor 33 = .ok (.ifCond .ne 6, 3) := by decide +kernel
theorem dX10_minor_36 : decode cX10_minor 36 = .ok (.goto 58, 3) := by decide +kernel
theorem dX10_minor_39 : decode cX10_minor 39 = .ok (.aload_n 0, 1) := by decide +kernel
theorem dX10_minor_40 : decode cX10_minor 40 = .ok (.getfield 58, 3) := by decide +kernel
theorem dX10_minor_43 : decode cX10_minor 43 = .ok (.iconst 4, 1) := by decide +kernel
theorem dX10_minor_44 : decode cX10_minor 44 = .ok (.iload_n 1, 1) := by decide +kernel
theorem dX10_minor_45 : decode cX10_minor 45 = .ok (.imul, 1) := by decide +kernel
theorem dX10_minor_46 : decode cX10_minor 46 = .ok (.iload 6, 2) := by decide +kernel
theorem dX10_minor_48 : decode cX10_minor 48 = .ok (.iadd, 1) := by decide +kernel
theorem dX10_minor_49 : decode cX10_minor 49 = .ok (.laload, 1) := by decide +kernel
theorem dX10_minor_50 : decode cX10_minor 50 = .ok (.lconst 0, 1) := by decide +kernel
theorem dX10_minor_51 : decode cX10_minor 51 = .ok (.lcmp, 1) := by decide +kernel
theorem dX10_minor_52 : decode cX10_minor 52 = .ok (.ifCond .eq 37, 3) := by decide +kernel
theorem dX10_minor_55 : decode cX10_minor 55 = .ok (.lload_n 3, 1) := by decide +kernel
theorem dX10_minor_56 : decode cX10_minor 56 = .ok (.iload 5, 2) := by decide +kernel
theorem dX10_minor_58 : decode cX10_minor 58 = .ok (.i2l, 1) := by decide +kernel
theorem dX10_minor_59 : decode cX10_minor 59 = .ok (.aload_n 0, 1) := by decide +kernel
theorem dX10_minor_60 : decode cX10_minor 60 = .ok (.getfield 58, 3) := by decide +kernel
theorem dX10_minor_63 : decode cX10_minor 63 = .ok (.iconst 4, 1) := by decide +kernel
theorem dX10_minor_64 : decode cX10_minor 64 = .ok (.iload_n 1, 1) := by decide +kernel
theorem dX10_minor_65 : decode cX10_minor 65 = .ok (.imul, 1) := by decide +kernel
theorem dX10_minor_66 : decode cX10_minor 66 = .ok (.iload 6, 2) := by decide +kernel
theorem dX10_minor_68 : decode cX10_minor 68 = .ok (.iadd, 1) := by decide +kernel
theorem dX10_minor_69 : decode cX10_minor 69 = .ok (.laload, 1) := by decide +kernel
theorem dX10_minor_70 : decode cX10_minor 70 = .ok (.lmul, 1) := by decide +kernel
theorem dX10_minor_71 : decode cX10_minor 71 = .ok (.aload_n 0, 1) := by decide +kernel
theorem dX10_minor_72 : decode cX10_minor 72 = .ok (.iload_n 1, 1) := by decide +kernel
theorem dX10_minor_73 : decode cX10_minor 73 = .ok (.iconst 1, 1) := by decide +kernel
theorem dX10_minor_74 : decode cX10_minor 74 = .ok (.iadd, 1) := by decide +kernel
theorem dX10_minor_75 : decode cX10_minor 75 = .ok (.iload_n 2, 1) := by decide +kernel
theorem dX10_minor_76 : decode cX10_minor 76 = .ok (.iconst 1, 1) := by decide +kernel
theorem dX10_minor_77 : decode cX10_minor 77 = .ok (.iload 6, 2) := by decide +kernel
theorem dX10_minor_79 : decode cX10_minor 79 = .ok (.ishl, 1) := by decide +kernel
theorem dX10_minor_80 : decode cX10_minor 80 = .ok (.iconst (-1), 1) := by decide +kernel
theorem dX10_minor_81 : decode cX10_minor 81 = .ok (.ixor, 1) := by decide +kernel
theorem dX10_minor_82 : decode cX10_minor 82 = .ok (.iand, 1) := by decide +kernel
theorem dX10_minor_83 : decode cX10_minor 83 = .ok (.invokevirtual 302, 3) := by decide +kernel
theorem dX10_minor_86 : decode cX10_minor 86 = .ok (.lmul, 1) := by decide +kernel
theorem dX10_minor_87 : decode cX10_minor 87 = .ok (.ladd, 1) := by decide +kernel
theorem dX10_minor_88 : decode cX10_minor 88 = .ok (.lstore_n 3, 1) := by decide +kernel
theorem dX10_minor_89 : decode cX10_minor 89 = .ok (.iload 5, 2) := by decide +kernel
theorem dX10_minor_91 : decode cX10_minor 91 = .ok (.ineg, 1) := by decide +kernel
theorem dX10_minor_92 : decode cX10_minor 92 = .ok (.istore 5, 2) := by decide +kernel
theorem dX10_minor_94 : decode cX10_minor 94 = .ok (.iinc 6 1, 3) := by decide +kernel
theorem dX10_minor_97 : decode cX10_minor 97 = .ok (.goto (-79), 3) := by decide +kernel
theorem dX10_minor_100 : decode cX10_minor 100 = .ok (.lload_n 3, 1) := by decide +kernel
theorem dX10_minor_101 : decode cX10_minor 101 = .ok (.lreturn, 1) := by decide +kernel
theorem kk_X10_minor_0 : Cond.fieldLink RX10 289 "PaidBySignsModel" "groups" "I" ∈ wsX10_minor := by decide +kernel
theorem kk_X10_minor_1 : Cond.fieldLink RX10 58 "PaidBySignsModel" "matrix" "[J" ∈ wsX10_minor := by decide +kernel
theorem iw_X10_minor_X10 : ∀ w ∈ wsX100, w ∈ wsX10_minor := by decide +kernel
