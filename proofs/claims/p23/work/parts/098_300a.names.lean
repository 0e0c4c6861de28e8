def tyX10 : Nat → FieldType := fun k => match k with
  | 0 => .array .byte
  | 1 => .int
  | 2 => .int
  | 3 => .int
  | 4 => .int
  | 5 => .int
  | 6 => .int
  | 7 => .int
  | 8 => .int
  | 9 => .int
  | 10 => .long
  | 11 => .int
  | 12 => .array .int
  | 13 => .array .long
  | 14 => .array .long
  | 15 => .array .int
  | 16 => .array .int
  | 17 => .array .int
  | 18 => .array .int
  | 19 => .array .int
  | 20 => .int
  | 21 => .array .int
  | 22 => .boolean
  | 23 => .long
  | 24 => .long
  | 25 => .int
  | 26 => .int
  | 27 => .array .int
  | 28 => .array .long
  | 29 => .array .long
  | 30 => .int
  | 31 => .array .int
  | 32 => .array .long
  | 33 => .array .long
  | 34 => .long
  | 35 => .array .long
  | 36 => .array .long
  | 37 => .boolean
  | 38 => .long
  | 39 => .long
  | 40 => .array .long
  | 41 => .array .long
  | 42 => .boolean
  | 43 => .int
  | 44 => .array .long
  | 45 => .array .long
  | 46 => .long
  | 47 => .long
  | 48 => .array .int
  | 49 => .long
  | 50 => .long
  | 51 => .long
  | 52 => .long
  | 53 => .boolean
  | 54 => .array .int
  | 55 => .array .int
  | 56 => .int
  | 57 => .int
  | 58 => .int
  | 59 => .int
  | 60 => .array .int
  | 61 => .array .int
  | 62 => .array .int
  | 63 => .array .int
  | _ => .array .int
abbrev wsX100 : List Cond := u_ws RX10 TX10 65
theorem nmX10 : ∀ a, a < 65 → ∀ b, b < 65 → a ≠ b → (TX10 a).2.1 ≠ (TX10 b).2.1 := by decide +kernel
theorem tyX10_ok : ∀ k, k < 65 → parseFieldDescriptor (TX10 k).2.2.1 = some (tyX10 k) := by decide +kernel
abbrev cX10_in : ByteArray := prog_12_method_2_code
def yX10_in : MethodName := ⟨RX10, "in", "(JJJ)Z"⟩
abbrev cX10_feed : ByteArray := prog_12_method_3_code
def yX10_feed : MethodName := ⟨RX10, "feed", "(IIIII)I"⟩
abbrev cX10_end : ByteArray := prog_12_method_4_code
def yX10_end : MethodName := ⟨RX10, "end", "(I)I"⟩
abbrev cX10_byteAt : ByteArray := prog_12_method_5_code
def yX10_byteAt : MethodName := ⟨RX10, "byteAt", "(I)I"⟩
abbrev cX10_isSmall : ByteArray := prog_12_method_6_code
def yX10_isSmall : MethodName := ⟨RX10, "isSmall", "(I)Z"⟩
def wsX10_in : List Cond := .code yX10_in cX10_in 6 (some .boolean) :: ([])
def wsX10_feed : List Cond := .code yX10_feed cX10_feed 9 (some .int) :: ([.fieldLink RX10 112 "PaidBySignsModel" "taped" "I", .fieldLink RX10 7 "PaidBySignsModel" "tape" "[B"] ++ wsX100)
def wsX10_end : List Cond := .code yX10_end cX10_end 2 (some .int) :: ([.fieldLink RX10 112 "PaidBySignsModel" "taped" "I"] ++ wsX100)
def wsX10_byteAt : List Cond := .code yX10_byteAt cX10_byteAt 2 (some .int) :: ([.fieldLink RX10 115 "PaidBySignsModel" "size" "I", .fieldLink RX10 7 "PaidBySignsModel" "tape" "[B"] ++ wsX100)
def wsX10_isSmall : List Cond := .code yX10_isSmall cX10_isSmall 1 (some .boolean) :: ([])
theorem bX10_in_0 : ((bys cX10_in).drop 0).take 16 = [30, 32, 148, 155, 0, 14, 30, 22, 4, 148, 157, 0, 7, 4, 167, 0] := by decide +kernel
theorem dX10_in_0 : decode cX10_in 0 = .ok (.lload_n 0, 1) := do_30 (byt_at bX10_in_0 (j := 0) rfl)
theorem dX10_in_1 : decode cX10_in 1 = .ok (.lload_n 2, 1) := do_32 (byt_at bX10_in_0 (j := 1) rfl)
theorem dX10_in_2 : decode cX10_in 2 = .ok (.lcmp, 1) := do_148 (byt_at bX10_in_0 (j := 2) rfl)
theorem dX10_in_3 : decode cX10_in 3 = .ok (.ifCond .lt 14, 3) := do_155 0 14 (byt_at bX10_in_0 (j := 3) rfl) (byt_at bX10_in_0 (j := 4) rfl) (byt_at bX10_in_0 (j := 5) rfl) (by decide)
theorem dX10_in_6 : decode cX10_in 6 = .ok (.lload_n 0, 1) := do_30 (byt_at bX10_in_0 (j := 6) rfl)
theorem dX10_in_7 : decode cX10_in 7 = .ok (.lload 4, 2) := do_22 4 (byt_at bX10_in_0 (j := 7) rfl) (byt_at bX10_in_0 (j := 8) rfl)
theorem dX10_in_9 : decode cX10_in 9 = .ok (.lcmp, 1) := do_148 (byt_at bX10_in_0 (j := 9) rfl)
theorem dX10_in_10 : decode cX10_in 10 = .ok (.ifCond .gt 7, 3) := do_157 0 7 (byt_at bX10_in_0 (j := 10) rfl) (byt_at bX10_in_0 (j := 11) rfl) (byt_at bX10_in_0 (j := 12) rfl) (by decide)
theorem dX10_in_13 : decode cX10_in 13 = .ok (.iconst 1, 1) := do_4 (byt_at bX10_in_0 (j := 13) rfl)
theorem bX10_in_1 : ((bys cX10_in).drop 16).take 16 = [4, 3, 172] := by decide +kernel
theorem dX10_in_14 : decode cX10_in 14 = .ok (.goto 4, 3) := do_167 0 4 (byt_at bX10_in_0 (j := 14) rfl) (byt_at bX10_in_0 (j := 15) rfl) (byt_at bX10_in_1 (j := 0) rfl) (by decide)
theorem dX10_in_17 : decode cX10_in 17 = .ok (.iconst 0, 1) := do_3 (byt_at bX10_in_1 (j := 1) rfl)
theorem dX10_in_18 : decode cX10_in 18 = .ok (.ireturn, 1) := do_172 (byt_at bX10_in_1 (j := 2) rfl)
theorem bX10_feed_0 : ((bys cX10_feed).drop 0).take 16 = [42, 180, 0, 112, 16, 20, 96, 17, 3, 132, 164, 0, 6, 16, 253, 172] := by decide +kernel
theorem dX10_feed_0 : decode cX10_feed 0 = .ok (.aload_n 0, 1) := do_42 (byt_at bX10_feed_0 (j := 0) rfl)
theorem dX10_feed_1 : decode cX10_feed 1 = .ok (.getfield 112, 3) := do_180 0 112 (byt_at bX10_feed_0 (j := 1) rfl) (byt_at bX10_feed_0 (j := 2) rfl) (byt_at bX10_feed_0 (j := 3) rfl)
theorem dX10_feed_4 : decode cX10_feed 4 = .ok (.bipush 20, 2) := do_16 20 (byt_at bX10_feed_0 (j := 4) rfl) (byt_at bX10_feed_0 (j := 5) rfl) (by decide)
theorem dX10_feed_6 : decode cX10_feed 6 = .ok (.iadd, 1) := do_96 (byt_at bX10_feed_0 (j := 6) rfl)
theorem dX10_feed_7 : decode cX10_feed 7 = .ok (.sipush 900, 3) := do_17 3 132 (byt_at bX10_feed_0 (j := 7) rfl) (byt_at bX10_feed_0 (j := 8) rfl) (byt_at bX10_feed_0 (j := 9) rfl) (by decide)
theorem dX10_feed_10 : decode cX10_feed 10 = .ok (.if_icmp .le 6, 3) := do_164 0 6 (byt_at bX10_feed_0 (j := 10) rfl) (byt_at bX10_feed_0 (j := 11) rfl) (byt_at bX10_feed_0 (j := 12) rfl) (by decide)
theorem dX10_feed_13 : decode cX10_feed 13 = .ok (.bipush (-3), 2) := do_16 253 (byt_at bX10_feed_0 (j := 13) rfl) (byt_at bX10_feed_0 (j := 14) rfl) (by decide)
theorem dX10_feed_15 : decode cX10_feed 15 = .ok (.ireturn, 1) := do_172 (byt_at bX10_feed_0 (j := 15) rfl)
theorem bX10_feed_1 : ((bys cX10_feed).drop 16).take 16 = [3, 54, 6, 21, 6, 8, 162, 0, 93, 21, 6, 154, 0, 7, 27, 167] := by decide +kernel
theorem dX10_feed_16 : decode cX10_feed 16 = .ok (.iconst 0, 1) := do_3 (byt_at bX10_feed_1 (j := 0) rfl)
theorem dX10_feed_17 : decode cX10_feed 17 = .ok (.istore 6, 2) := do_54 6 (byt_at bX10_feed_1 (j := 1) rfl) (byt_at bX10_feed_1 (j := 2) rfl)
theorem dX10_feed_19 : decode cX10_feed 19 = .ok (.iload 6, 2) := do_21 6 (byt_at bX10_feed_1 (j := 3) rfl) (byt_at bX10_feed_1 (j := 4) rfl)
theorem dX10_feed_21 : decode cX10_feed 21 = .ok (.iconst 5, 1) := do_8 (byt_at bX10_feed_1 (j := 5) rfl)
theorem dX10_feed_22 : decode cX10_feed 22 = .ok (.if_icmp .ge 93, 3) := do_162 0 93 (byt_at bX10_feed_1 (j := 6) rfl) (byt_at bX10_feed_1 (j := 7) rfl) (byt_at bX10_feed_1 (j := 8) rfl) (by decide)
theorem dX10_feed_25 : decode cX10_feed 25 = .ok (.iload 6, 2) := do_21 6 (byt_at bX10_feed_1 (j := 9) rfl) (byt_at bX10_feed_1 (j := 10) rfl)
theorem dX10_feed_27 : decode cX10_feed 27 = .ok (.ifCond .ne 7, 3) := do_154 0 7 (byt_at bX10_feed_1 (j := 11) rfl) (byt_at bX10_feed_1 (j := 12) rfl) (byt_at bX10_feed_1 (j := 13) rfl) (by decide)
theorem dX10_feed_30 : decode cX10_feed 30 = .ok (.iload_n 1, 1) := do_27 (byt_at bX10_feed_1 (j := 14) rfl)
theorem bX10_feed_2 : ((bys cX10_feed).drop 32).take 16 = [0, 36, 21, 6, 4, 160, 0, 7, 28, 167, 0, 26, 21, 6, 5, 160] := by decide +kernel
theorem dX10_feed_31 : decode cX10_feed 31 = .ok (.goto 36, 3) := do_167 0 36 (byt_at bX10_feed_1 (j := 15) rfl) (byt_at bX10_feed_2 (j := 0) rfl) (byt_at bX10_feed_2 (j := 1) rfl) (by decide)
theorem dX10_feed_34 : decode cX10_feed 34 = .ok (.iload 6, 2) := do_21 6 (byt_at bX10_feed_2 (j := 2) rfl) (byt_at bX10_feed_2 (j := 3) rfl)
theorem dX10_feed_36 : decode cX10_feed 36 = .ok (.iconst 1, 1) := do_4 (byt_at bX10_feed_2 (j := 4) rfl)
theorem dX10_feed_37 : decode cX10_feed 37 = .ok (.if_icmp .ne 7, 3) := do_160 0 7 (byt_at bX10_feed_2 (j := 5) rfl) (byt_at bX10_feed_2 (j := 6) rfl) (byt_at bX10_feed_2 (j := 7) rfl) (by decide)
theorem dX10_feed_40 : decode cX10_feed 40 = .ok (.iload_n 2, 1) := do_28 (byt_at bX10_feed_2 (j := 8) rfl)
theorem dX10_feed_41 : decode cX10_feed 41 = .ok (.goto 26, 3) := do_167 0 26 (byt_at bX10_feed_2 (j := 9) rfl) (byt_at bX10_feed_2 (j := 10) rfl) (byt_at bX10_feed_2 (j := 11) rfl) (by decide)
theorem dX10_feed_44 : decode cX10_feed 44 = .ok (.iload 6, 2) := do_21 6 (byt_at bX10_feed_2 (j := 12) rfl) (byt_at bX10_feed_2 (j := 13) rfl)
theorem dX10_feed_46 : decode cX10_feed 46 = .ok (.iconst 2, 1) := do_5 (byt_at bX10_feed_2 (j := 14) rfl)
theorem bX10_feed_3 : ((bys cX10_feed).drop 48).take 16 = [0, 7, 29, 167, 0, 16, 21, 6, 6, 160, 0, 8, 21, 4, 167, 0] := by decide +kernel
theorem dX10_feed_47 : decode cX10_feed 47 = .ok (.if_icmp .ne 7, 3) := do_160 0 7 (byt_at bX10_feed_2 (j := 15) rfl) (byt_at bX10_feed_3 (j := 0) rfl) (byt_at bX10_feed_3 (j := 1) rfl) (by decide)
theorem dX10_feed_50 : decode cX10_feed 50 = .ok (.iload_n 3, 1) := do_29 (byt_at bX10_feed_3 (j := 2) rfl)
theorem dX10_feed_51 : decode cX10_feed 51 = .ok (.goto 16, 3) := do_167 0 16 (byt_at bX10_feed_3 (j := 3) rfl) (byt_at bX10_feed_3 (j := 4) rfl) (byt_at bX10_feed_3 (j := 5) rfl) (by decide)
theorem dX10_feed_54 : decode cX10_feed 54 = .ok (.iload 6, 2) := do_21 6 (byt_at bX10_feed_3 (j := 6) rfl) (byt_at bX10_feed_3 (j := 7) rfl)
theorem dX10_feed_56 : decode cX10_feed 56 = .ok (.iconst 3, 1) := do_6 (byt_at bX10_feed_3 (j := 8) rfl)
theorem dX10_feed_57 : decode cX10_feed 57 = .ok (.if_icmp .ne 8, 3) := do_160 0 8 (byt_at bX10_feed_3 (j := 9) rfl) (byt_at bX10_feed_3 (j := 10) rfl) (byt_at bX10_feed_3 (j := 11) rfl) (by decide)
theorem dX10_feed_60 : decode cX10_feed 60 = .ok (.iload 4, 2) := do_21 4 (byt_at bX10_feed_3 (j := 12) rfl) (byt_at bX10_feed_3 (j := 13) rfl)
theorem bX10_feed_4 : ((bys cX10_feed).drop 64).take 16 = [5, 21, 5, 54, 7, 16, 24, 54, 8, 21, 8, 155, 0, 34, 42, 180] := by decide +kernel
theorem dX10_feed_62 : decode cX10_feed 62 = .ok (.goto 5, 3) := do_167 0 5 (byt_at bX10_feed_3 (j := 14) rfl) (byt_at bX10_feed_3 (j := 15) rfl) (byt_at bX10_feed_4 (j := 0) rfl) (by decide)
theorem dX10_feed_65 : decode cX10_feed 65 = .ok (.iload 5, 2) := do_21 5 (byt_at bX10_feed_4 (j := 1) rfl) (byt_at bX10_feed_4 (j := 2) rfl)
theorem dX10_feed_67 : decode cX10_feed 67 = .ok (.istore 7, 2) := do_54 7 (byt_at bX10_feed_4 (j := 3) rfl) (byt_at bX10_feed_4 (j := 4) rfl)
theorem dX10_feed_69 : decode cX10_feed 69 = .ok (.bipush 24, 2) := do_16 24 (byt_at bX10_feed_4 (j := 5) rfl) (byt_at bX10_feed_4 (j := 6) rfl) (by decide)
theorem dX10_feed_71 : decode cX10_feed 71 = .ok (.istore 8, 2) := do_54 8 (byt_at bX10_feed_4 (j := 7) rfl) (byt_at bX10_feed_4 (j := 8) rfl)
theorem dX10_feed_73 : decode cX10_feed 73 = .ok (.iload 8, 2) := do_21 8 (byt_at bX10_feed_4 (j := 9) rfl) (byt_at bX10_feed_4 (j := 10) rfl)
theorem dX10_feed_75 : decode cX10_feed 75 = .ok (.ifCond .lt 34, 3) := do_155 0 34 (byt_at bX10_feed_4 (j := 11) rfl) (byt_at bX10_feed_4 (j := 12) rfl) (byt_at bX10_feed_4 (j := 13) rfl) (by decide)
theorem dX10_feed_78 : decode cX10_feed 78 = .ok (.aload_n 0, 1) := do_42 (byt_at bX10_feed_4 (j := 14) rfl)
theorem bX10_feed_5 : ((bys cX10_feed).drop 80).take 16 = [0, 7, 42, 180, 0, 112, 21, 7, 21, 8, 122, 145, 84, 42, 89, 180] := by decide +kernel
theorem dX10_feed_79 : decode cX10_feed 79 = .ok (.getfield 7, 3) := do_180 0 7 (byt_at bX10_feed_4 (j := 15) rfl) (byt_at bX10_feed_5 (j := 0) rfl) (byt_at bX10_feed_5 (j := 1) rfl)
theorem dX10_feed_82 : decode cX10_feed 82 = .ok (.aload_n 0, 1) := do_42 (byt_at bX10_feed_5 (j := 2) rfl)
theorem dX10_feed_83 : decode cX10_feed 83 = .ok (.getfield 112, 3) := do_180 0 112 (byt_at bX10_feed_5 (j := 3) rfl) (byt_at bX10_feed_5 (j := 4) rfl) (byt_at bX10_feed_5 (j := 5) rfl)
theorem dX10_feed_86 : decode cX10_feed 86 = .ok (.iload 7, 2) := do_21 7 (byt_at bX10_feed_5 (j := 6) rfl) (byt_at bX10_feed_5 (j := 7) rfl)
theorem dX10_feed_88 : decode cX10_feed 88 = .ok (.iload 8, 2) := do_21 8 (byt_at bX10_feed_5 (j := 8) rfl) (byt_at bX10_feed_5 (j := 9) rfl)
theorem dX10_feed_90 : decode cX10_feed 90 = .ok (.ishr, 1) := do_122 (byt_at bX10_feed_5 (j := 10) rfl)
theorem dX10_feed_91 : decode cX10_feed 91 = .ok (.i2b, 1) := do_145 (byt_at bX10_feed_5 (j := 11) rfl)
theorem dX10_feed_92 : decode cX10_feed 92 = .ok (.bastore, 1) := do_84 (byt_at bX10_feed_5 (j := 12) rfl)
theorem dX10_feed_93 : decode cX10_feed 93 = .ok (.aload_n 0, 1) := do_42 (byt_at bX10_feed_5 (j := 13) rfl)
theorem dX10_feed_94 : decode cX10_feed 94 = .ok (.dup, 1) := do_89 (byt_at bX10_feed_5 (j := 14) rfl)
theorem bX10_feed_6 : ((bys cX10_feed).drop 96).take 16 = [0, 112, 4, 96, 181, 0, 112, 132, 8, 248, 167, 255, 223, 132, 6, 1] := by decide +kernel
theorem dX10_feed_95 : decode cX10_feed 95 = .ok (.getfield 112, 3) := do_180 0 112 (byt_at bX10_feed_5 (j := 15) rfl) (byt_at bX10_feed_6 (j := 0) rfl) (byt_at bX10_feed_6 (j := 1) rfl)
theorem dX10_feed_98 : decode cX10_feed 98 = .ok (.iconst 1, 1) := do_4 (byt_at bX10_feed_6 (j := 2) rfl)
theorem dX10_feed_99 : decode cX10_feed 99 = .ok (.iadd, 1) := do_96 (byt_at bX10_feed_6 (j := 3) rfl)
theorem dX10_feed_100 : decode cX10_feed 100 = .ok (.putfield 112, 3) := do_181 0 112 (byt_at bX10_feed_6 (j := 4) rfl) (byt_at bX10_feed_6 (j := 5) rfl) (byt_at bX10_feed_6 (j := 6) rfl)
theorem dX10_feed_103 : decode cX10_feed 103 = .ok (.iinc 8 (-8), 3) := do_132 8 248 (byt_at bX10_feed_6 (j := 7) rfl) (byt_at bX10_feed_6 (j := 8) rfl) (byt_at bX10_feed_6 (j := 9) rfl) (by decide)
theorem dX10_feed_106 : decode cX10_feed 106 = .ok (.goto (-33), 3) := do_167 255 223 (byt_at bX10_feed_6 (j := 10) rfl) (byt_at bX10_feed_6 (j := 11) rfl) (byt_at bX10_feed_6 (j := 12) rfl) (by decide)
theorem dX10_feed_109 : decode cX10_feed 109 = .ok (.iinc 6 1, 3) := do_132 6 1 (byt_at bX10_feed_6 (j := 13) rfl) (byt_at bX10_feed_6 (j := 14) rfl) (byt_at bX10_feed_6 (j := 15) rfl) (by decide)
theorem bX10_feed_7 : ((bys cX10_feed).drop 112).take 16 = [167, 255, 163, 42, 180, 0, 112, 172] := by decide +kernel
theorem dX10_feed_112 : decode cX10_feed 112 = .ok (.goto (-93), 3) := do_167 255 163 (byt_at bX10_feed_7 (j := 0) rfl) (byt_at bX10_feed_7 (j := 1) rfl) (byt_at bX10_feed_7 (j := 2) rfl) (by decide)
theorem dX10_feed_115 : decode cX10_feed 115 = .ok (.aload_n 0, 1) := do_42 (byt_at bX10_feed_7 (j := 3) rfl)
theorem dX10_feed_116 : decode cX10_feed 116 = .ok (.getfield 112, 3) := do_180 0 112 (byt_at bX10_feed_7 (j := 4) rfl) (byt_at bX10_feed_7 (j := 5) rfl) (byt_at bX10_feed_7 (j := 6) rfl)
theorem dX10_feed_119 : decode cX10_feed 119 = .ok (.ireturn, 1) := do_172 (byt_at bX10_feed_7 (j := 7) rfl)
theorem bX10_end_0 : ((bys cX10_end).drop 0).take 16 = [27, 155, 0, 11, 27, 42, 180, 0, 112, 164, 0, 5, 2, 172, 42, 27] := by decide +kernel
theorem dX10_end_0 : decode cX10_end 0 = .ok (.iload_n 1, 1) := do_27 (byt_at bX10_end_0 (j := 0) rfl)
theorem dX10_end_1 : decode cX10_end 1 = .ok (.ifCond .lt 11, 3) := do_155 0 11 (byt_at bX10_end_0 (j := 1) rfl) (byt_at bX10_end_0 (j := 2) rfl) (byt_at bX10_end_0 (j := 3) rfl) (by decide)
theorem dX10_end_4 : decode cX10_end 4 = .ok (.iload_n 1, 1) := do_27 (byt_at bX10_end_0 (j := 4) rfl)
theorem dX10_end_5 : decode cX10_end 5 = .ok (.aload_n 0, 1) := do_42 (byt_at bX10_end_0 (j := 5) rfl)
theorem dX10_end_6 : decode cX10_end 6 = .ok (.getfield 112, 3) := do_180 0 112 (byt_at bX10_end_0 (j := 6) rfl) (byt_at bX10_end_0 (j := 7) rfl) (byt_at bX10_end_0 (j := 8) rfl)
theorem dX10_end_9 : decode cX10_end 9 = .ok (.if_icmp .le 5, 3) := do_164 0 5 (byt_at bX10_end_0 (j := 9) rfl) (byt_at bX10_end_0 (j := 10) rfl) (byt_at bX10_end_0 (j := 11) rfl) (by decide)
theorem dX10_end_12 : decode cX10_end 12 = .ok (.iconst (-1), 1) := do_2 (byt_at bX10_end_0 (j := 12) rfl)
theorem dX10_end_13 : decode cX10_end 13 = .ok (.ireturn, 1) := do_172 (byt_at bX10_end_0 (j := 13) rfl)
theorem dX10_end_14 : decode cX10_end 14 = .ok (.aload_n 0, 1) := do_42 (byt_at bX10_end_0 (j := 14) rfl)
theorem dX10_end_15 : decode cX10_end 15 = .ok (.iload_n 1, 1) := do_27 (byt_at bX10_end_0 (j := 15) rfl)
theorem bX10_end_1 : ((bys cX10_end).drop 16).take 16 = [181, 0, 112, 27, 172] := by decide +kernel
theorem dX10_end_16 : decode cX10_end 16 = .ok (.putfield 112, 3) := do_181 0 112 (byt_at bX10_end_1 (j := 0) rfl) (byt_at bX10_end_1 (j := 1) rfl) (byt_at bX10_end_1 (j := 2) rfl)
theorem dX10_end_19 : decode cX10_end 19 = .ok (.iload_n 1, 1) := do_27 (byt_at bX10_end_1 (j := 3) rfl)
theorem dX10_end_20 : decode cX10_end 20 = .ok (.ireturn, 1) := do_172 (byt_at bX10_end_1 (j := 4) rfl)
theorem bX10_byteAt_0 : ((bys cX10_byteAt).drop 0).take 16 = [27, 42, 180, 0, 115, 162, 0, 16, 42, 180, 0, 7, 27, 51, 17, 0] := by decide +kernel
theorem dX10_byteAt_0 : decode cX10_byteAt 0 = .ok (.iload_n 1, 1) := do_27 (byt_at bX10_byteAt_0 (j := 0) rfl)
theorem dX10_byteAt_1 : decode cX10_byteAt 1 = .ok (.aload_n 0, 1) := do_42 (byt_at bX10_byteAt_0 (j := 1) rfl)
theorem dX10_byteAt_2 : decode cX10_byteAt 2 = .ok (.getfield 115, 3) := do_180 0 115 (byt_at bX10_byteAt_0 (j := 2) rfl) (byt_at bX10_byteAt_0 (j := 3) rfl) (byt_at bX10_byteAt_0 (j := 4) rfl)
theorem dX10_byteAt_5 : decode cX10_byteAt 5 = .ok (.if_icmp .ge 16, 3) := do_162 0 16 (byt_at bX10_byteAt_0 (j := 5) rfl) (byt_at bX10_byteAt_0 (j := 6) rfl) (byt_at bX10_byteAt_0 (j := 7) rfl) (by decide)
theorem dX10_byteAt_8 : decode cX10_byteAt 8 = .ok (.aload_n 0, 1) := do_42 (byt_at bX10_byteAt_0 (j := 8) rfl)
theorem dX10_byteAt_9 : decode cX10_byteAt 9 = .ok (.getfield 7, 3) := do_180 0 7 (byt_at bX10_byteAt_0 (j := 9) rfl) (byt_at bX10_byteAt_0 (j := 10) rfl) (byt_at bX10_byteAt_0 (j := 11) rfl)
theorem dX10_byteAt_12 : decode cX10_byteAt 12 = .ok (.iload_n 1, 1) := do_27 (byt_at bX10_byteAt_0 (j := 12) rfl)
theorem dX10_byteAt_13 : decode cX10_byteAt 13 = .ok (.baload, 1) := do_51 (byt_at bX10_byteAt_0 (j := 13) rfl)
theorem bX10_byteAt_1 : ((bys cX10_byteAt).drop 16).take 16 = [255, 126, 167, 0, 4, 2, 172] := by decide +kernel
theorem dX10_byteAt_14 : decode cX10_byteAt 14 = .ok (.sipush 255, 3) := do_17 0 255 (byt_at bX10_byteAt_0 (j := 14) rfl) (byt_at bX10_byteAt_0 (j := 15) rfl) (byt_at bX10_byteAt_1 (j := 0) rfl) (by decide)
theorem dX10_byteAt_17 : decode cX10_byteAt 17 = .ok (.iand, 1) := do_126 (byt_at bX10_byteAt_1 (j := 1) rfl)
theorem dX10_byteAt_18 : decode cX10_byteAt 18 = .ok (.goto 4, 3) := do_167 0 4 (byt_at bX10_byteAt_1 (j := 2) rfl) (byt_at bX10_byteAt_1 (j := 3) rfl) (byt_at bX10_byteAt_1 (j := 4) rfl) (by decide)
theorem dX10_byteAt_21 : decode cX10_byteAt 21 = .ok (.iconst (-1), 1) := do_2 (byt_at bX10_byteAt_1 (j := 5) rfl)
theorem dX10_byteAt_22 : decode cX10_byteAt 22 = .ok (.ireturn, 1) := do_172 (byt_at bX10_byteAt_1 (j := 6) rfl)
theorem bX10_isSmall_0 : ((bys cX10_isSmall).drop 0).take 16 = [26, 16, 97, 161, 0, 13, 26, 16, 122, 163, 0, 7, 4, 167, 0, 4] := by decide +kernel
theorem dX10_isSmall_0 : decode cX10_isSmall 0 = .ok (.iload_n 0, 1) := do_26 (byt_at bX10_isSmall_0 (j := 0) rfl)
theorem dX10_isSmall_1 : decode cX10_isSmall 1 = .ok (.bipush 97, 2) := do_16 97 (byt_at bX10_isSmall_0 (j := 1) rfl) (byt_at bX10_isSmall_0 (j := 2) rfl) (by decide)
theorem dX10_isSmall_3 : decode cX10_isSmall 3 = .ok (.if_icmp .lt 13, 3) := do_161 0 13 (byt_at bX10_isSmall_0 (j := 3) rfl) (byt_at bX10_isSmall_0 (j := 4) rfl) (byt_at bX10_isSmall_0 (j := 5) rfl) (by decide)
theorem dX10_isSmall_6 : decode cX10_isSmall 6 = .ok (.iload_n 0, 1) := do_26 (byt_at bX10_isSmall_0 (j := 6) rfl)
theorem dX10_isSmall_7 : decode cX10_isSmall 7 = .ok (.bipush 122, 2) := do_16 122 (byt_at bX10_isSmall_0 (j := 7) rfl) (byt_at bX10_isSmall_0 (j := 8) rfl) (by decide)
theorem dX10_isSmall_9 : decode cX10_isSmall 9 = .ok (.if_icmp .gt 7, 3) := do_163 0 7 (byt_at bX10_isSmall_0 (j := 9) rfl) (byt_at bX10_isSmall_0 (j := 10) rfl) (byt_at bX10_isSmall_0 (j := 11) rfl) (by decide)
theorem dX10_isSmall_12 : decode cX10_isSmall 12 = .ok (.iconst 1, 1) := do_4 (byt_at bX10_isSmall_0 (j := 12) rfl)
theorem dX10_isSmall_13 : decode cX10_isSmall 13 = .ok (.goto 4, 3) := do_167 0 4 (byt_at bX10_isSmall_0 (j := 13) rfl) (byt_at bX10_isSmall_0 (j := 14) rfl) (byt_at bX10_isSmall_0 (j := 15) rfl) (by decide)
theorem bX10_isSmall_1 : ((bys cX10_isSmall).drop 16).take 16 = [3, 172] := by decide +kernel
theorem dX10_isSmall_16 : decode cX10_isSmall 16 = .ok (.iconst 0, 1) := do_3 (byt_at bX10_isSmall_1 (j := 0) rfl)
theorem dX10_isSmall_17 : decode cX10_isSmall 17 = .ok (.ireturn, 1) := do_172 (byt_at bX10_isSmall_1 (j := 1) rfl)
theorem kk_X10_feed_0 : Cond.fieldLink RX10 112 "PaidBySignsModel" "taped" "I" ∈ wsX10_feed := List.mem_cons_of_mem _ (List.mem_append_left _ (List.mem_of_getElem? (i := 0) rfl))
theorem kk_X10_feed_1 : Cond.fieldLink RX10 7 "PaidBySignsModel" "tape" "[B" ∈ wsX10_feed := List.mem_cons_of_mem _ (List.mem_append_left _ (List.mem_of_getElem? (i := 1) rfl))
theorem kk_X10_end_0 : Cond.fieldLink RX10 112 "PaidBySignsModel" "taped" "I" ∈ wsX10_end := List.mem_cons_of_mem _ (List.mem_append_left _ (List.mem_of_getElem? (i := 0) rfl))
theorem kk_X10_byteAt_0 : Cond.fieldLink RX10 115 "PaidBySignsModel" "size" "I" ∈ wsX10_byteAt := List.mem_cons_of_mem _ (List.mem_append_left _ (List.mem_of_getElem? (i := 0) rfl))
theorem kk_X10_byteAt_1 : Cond.fieldLink RX10 7 "PaidBySignsModel" "tape" "[B" ∈ wsX10_byteAt := List.mem_cons_of_mem _ (List.mem_append_left _ (List.mem_of_getElem? (i := 1) rfl))
theorem iw_X10_feed_X10 : ∀ w ∈ wsX100, w ∈ wsX10_feed := fun _ h => List.mem_cons_of_mem _ (List.mem_append_right _ h)
theorem iw_X10_end_X10 : ∀ w ∈ wsX100, w ∈ wsX10_end := fun _ h => List.mem_cons_of_mem _ (List.mem_append_right _ h)
theorem iw_X10_byteAt_X10 : ∀ w ∈ wsX100, w ∈ wsX10_byteAt := fun _ h => List.mem_cons_of_mem _ (List.mem_append_right _ h)
