def tyX6 : Nat → FieldType := fun k => match k with
  | 0 => .int
  | 1 => .array .int
  | 2 => .int
  | _ => .array .int
abbrev wsX60 : List Cond := u_ws RX6 TX6 4
theorem nmX6 : ∀ a, a < 4 → ∀ b, b < 4 → a ≠ b → (TX6 a).2.1 ≠ (TX6 b).2.1 := by decide +kernel
theorem tyX6_ok : ∀ k, k < 4 → parseFieldDescriptor (TX6 k).2.2.1 = some (tyX6 k) := by decide +kernel
abbrev cX6_forget : ByteArray := prog_8_method_2_code
def yX6_forget : MethodName := ⟨RX6, "forget", "()V"⟩
abbrev cX6_changePress : ByteArray := prog_8_method_3_code
def yX6_changePress : MethodName := ⟨RX6, "changePress", "(II)I"⟩
abbrev cX6_changeElse : ByteArray := prog_8_method_4_code
def yX6_changeElse : MethodName := ⟨RX6, "changeElse", "(I)I"⟩
abbrev cX6_changeMix : ByteArray := prog_8_method_5_code
def yX6_changeMix : MethodName := ⟨RX6, "changeMix", "(II)I"⟩
abbrev cJ7_fill_53178 : ByteArray := prog_19_method_103_code
def yJ7_fill_53178 : MethodName := ⟨RJ7, "fill", "([II)V"⟩
def wsJ7_fill_53178 : List Cond := .code yJ7_fill_53178 cJ7_fill_53178 4 none :: ([])
def wsX6_forget : List Cond := .code yX6_forget cX6_forget 1 none :: ([.fieldLink RX6 9 "PaidBySigns$Proofs" "lowerNumber" "I", .fieldLink RX6 19 "PaidBySigns$Proofs" "pressOfElse" "I", .fieldLink RX6 15 "PaidBySigns$Proofs" "press" "[I", .fieldLink RX6 22 "PaidBySigns$Proofs" "mixed" "[I", .methodLink RX6 25 yJ7_fill_53178, .static yJ7_fill_53178, .initialized RJ7, .code yJ7_fill_53178 cJ7_fill_53178 4 none] ++ wsX60)
def wsX6_changePress : List Cond := .code yX6_changePress cX6_changePress 4 (some .int) :: ([.fieldLink RX6 15 "PaidBySigns$Proofs" "press" "[I"] ++ wsX60)
def wsX6_changeElse : List Cond := .code yX6_changeElse cX6_changeElse 3 (some .int) :: ([.fieldLink RX6 19 "PaidBySigns$Proofs" "pressOfElse" "I"] ++ wsX60)
def wsX6_changeMix : List Cond := .code yX6_changeMix cX6_changeMix 4 (some .int) :: ([.fieldLink RX6 22 "PaidBySigns$Proofs" "mixed" "[I"] ++ wsX60)
set_option maxRecDepth 20000 in
theorem ggX6_forget_J7_fill_53178 : GoodIn wsX6_forget wsJ7_fill_53178 := goodIn_r _ [8] (by decide +kernel) (by decide +kernel)
set_option maxRecDepth 20000 in
theorem gX6_forget_J7_fill_53178 : GoodIn wsX6_forget (va_wsS RX6 25 yJ7_fill_53178 wsJ7_fill_53178) := goodIn_app (goodIn_of _ (by decide +kernel)) ggX6_forget_J7_fill_53178
theorem dX6_forget_0 : decode cX6_forget 0 = .ok (.aload_n 0, 1) := by decide +kernel
theorem dX6_forget_1 : decode cX6_forget 1 = .ok (.iconst 1, 1) := by decide +kernel
theorem dX6_forget_2 : decode cX6_forget 2 = .ok (.putfield 9, 3) := by decide +kernel
theorem dX6_forget_5 : decode cX6_forget 5 = .ok (.aload_n 0, 1) := by decide +kernel
theorem dX6_forget_6 : decode cX6_forget 6 = .ok (.iconst 0, 1) := by decide +kernel
theorem dX6_forget_7 : decode cX6_forget 7 = .ok (.putfield 19, 3) := by decide +kernel
theorem dX6_forget_10 : decode cX6_forget 10 = .ok (.aload_n 0, 1) := by decide +kernel
theorem dX6_forget_11 : decode cX6_forget 11 = .ok (.getfield 15, 3) := by decide +kernel
theorem dX6_forget_14 : decode cX6_forget 14 = .ok (.iconst 0, 1) := by decide +kernel
theorem dX6_forget_15 : decode cX6_forget 15 = .ok (.invokestatic 25, 3) := by decide +kernel
theorem dX6_forget_18 : decode cX6_forget 18 = .ok (.aload_n 0, 1) := by decide +kernel
theorem dX6_forget_19 : decode cX6_forget 19 = .ok (.getfield 22, 3) := by decide +kernel
theorem dX6_forget_22 : decode cX6_forget 22 = .ok (.iconst 0, 1) := by decide +kernel
theorem dX6_forget_23 : decode cX6_forget 23 = .ok (.invokestatic 25, 3) := by decide +kernel
theorem dX6_forget_26 : decode cX6_forget 26 = .ok (.return_, 1) := by decide +kernel
theorem dX6_changePress_0 : decode cX6_changePress 0 = .ok (.aload_n 0, 1) := by decide +kernel
theorem dX6_changePress_1 : decode cX6_changePress 1 = .ok (.getfield 15, 3) := by decide +kernel
theorem dX6_changePress_4 : decode cX6_changePress 4 = .ok (.iload_n 1, 1) := by decide +kernel
theorem dX6_changePress_5 : decode cX6_changePress 5 = .ok (.iaload, 1) := by decide +kernel
theorem dX6_changePress_6 : decode cX6_changePress 6 = .ok (.istore_n 3, 1) := by decide +kernel
theorem dX6_changePress_7 : decode cX6_changePress 7 = .ok (.aload_n 0, 1) := by decide +kernel
theorem dX6_changePress_8 : decode cX6_changePress 8 = .ok (.getfield 15, 3) := by decide +kernel
theorem dX6_changePress_11 : decode cX6_changePress 11 = .ok (.iload_n 1, 1) := by decide +kernel
theorem dX6_changePress_12 : decode cX6_changePress 12 = .ok (.iload_n 2, 1) := by decide +kernel
theorem dX6_changePress_13 : decode cX6_changePress 13 = .ok (.iastore, 1) := by decide +kernel
theorem dX6_changePress_14 : decode cX6_changePress 14 = .ok (.iload_n 3, 1) := by decide +kernel
theorem dX6_changePress_15 : decode cX6_changePress 15 = .ok (.ireturn, 1) := by decide +kernel
theorem dX6_changeElse_0 : decode cX6_changeElse 0 = .ok (.aload_n 0, 1) := by decide +kernel
theorem dX6_changeElse_1 : decode cX6_changeElse 1 = .ok (.getfield 19, 3) := by decide +kernel
theorem dX6_changeElse_4 : decode cX6_changeElse 4 = .ok (.istore_n 2, 1) := by decide +kernel
theorem dX6_changeElse_5 : decode cX6_changeElse 5 = .ok (.aload_n 0, 1) := by decide +kernel
theorem dX6_changeElse_6 : decode cX6_changeElse 6 = .ok (.iload_n 1, 1) := by decide +kernel
theorem dX6_changeElse_7 : decode cX6_changeElse 7 = .ok (.putfield 19, 3) := by decide +kernel
theorem dX6_changeElse_10 : decode cX6_changeElse 10 = .ok (.iload_n 2, 1) := by decide +kernel
theorem dX6_changeElse_11 : decode cX6_changeElse 11 = .ok (.ireturn, 1) := by decide +kernel
theorem dX6_changeMix_0 : decode cX6_changeMix 0 = .ok (.aload_n 0, 1) := by decide +kernel
theorem dX6_changeMix_1 : decode cX6_changeMix 1 = .ok (.getfield 22, 3) := by decide +kernel
theorem dX6_changeMix_4 : decode cX6_changeMix 4 = .ok (.iload_n 1, 1) := by decide +kernel
theorem dX6_changeMix_5 : decode cX6_changeMix 5 = .ok (.iaload, 1) := by decide +kernel
theorem dX6_changeMix_6 : decode cX6_changeMix 6 = .ok (.istore_n 3, 1) := by decide +kernel
theorem dX6_changeMix_7 : decode cX6_changeMix 7 = .ok (.aload_n 0, 1) := by decide +kernel
theorem dX6_changeMix_8 : decode cX6_changeMix 8 = .ok (.getfield 22, 3) := by decide +kernel
theorem dX6_changeMix_11 : decode cX6_changeMix 11 = .ok (.iload_n 1, 1) := by decide +kernel
theorem dX6_changeMix_12 : decode cX6_changeMix 12 = .ok (.iload_n 2, 1) := by decide +kernel
theorem dX6_changeMix_13 : decode cX6_changeMix 13 = .ok (.iastore, 1) := by decide +kernel
theorem dX6_changeMix_14 : decode cX6_changeMix 14 = .ok (.iload_n 3, 1) := by decide +kernel
theorem dX6_changeMix_15 : decode cX6_changeMix 15 = .ok (.ireturn, 1) := by decide +kernel
theorem dJ7_fill_53178_0 : decode cJ7_fill_53178 0 = .ok (.iconst 0, 1) := by decide +kernel
theorem dJ7_fill_53178_1 : decode cJ7_fill_53178 1 = .ok (.istore_n 2, 1) := by decide +kernel
theorem dJ7_fill_53178_2 : decode cJ7_fill_53178 2 = .ok (.aload_n 0, 1) := by decide +kernel
theorem dJ7_fill_53178_3 : decode cJ7_fill_53178 3 = .ok (.arraylength, 1) := by decide +kernel
theorem dJ7_fill_53178_4 : decode cJ7_fill_53178 4 = .ok (.istore_n 3, 1) := by decide +kernel
theorem dJ7_fill_53178_5 : decode cJ7_fill_53178 5 = .ok (.iload_n 2, 1) := by decide +kernel
theorem dJ7_fill_53178_6 : decode cJ7_fill_53178 6 = .ok (.iload_n 3, 1) := by decide +kernel
theorem dJ7_fill_53178_7 : decode cJ7_fill_53178 7 = .ok (.if_icmp .ge 13, 3) := by decide +kernel
theorem dJ7_fill_53178_10 : decode cJ7_fill_53178 10 = .ok (.aload_n 0, 1) := by decide +kernel
theorem dJ7_fill_53178_11 : decode cJ7_fill_53178 11 = .ok (.iload_n 2, 1) := by decide +kernel
theorem dJ7_fill_53178_12 : decode cJ7_fill_53178 12 = .ok (.iload_n 1, 1) := by decide +kernel
theorem dJ7_fill_53178_13 : decode cJ7_fill_53178 13 = .ok (.iastore, 1) := by decide +kernel
theorem dJ7_fill_53178_14 : decode cJ7_fill_53178 14 = .ok (.iinc 2 1, 3) := by decide +kernel
theorem dJ7_fill_53178_17 : decode cJ7_fill_53178 17 = .ok (.goto (-12), 3) := by decide +kernel
theorem dJ7_fill_53178_20 : decode cJ7_fill_53178 20 = .ok (.return_, 1) := by decide +kernel
theorem kk_X6_forget_0 : Cond.fieldLink RX6 9 "PaidBySigns$Proofs" "lowerNumber" "I" ∈ wsX6_forget := by decide +kernel
theorem kk_X6_forget_1 : Cond.fieldLink RX6 19 "PaidBySigns$Proofs" "pressOfElse" "I" ∈ wsX6_forget := by decide +kernel
theorem kk_X6_forget_2 : Cond.fieldLink RX6 15 "PaidBySigns$Proofs" "press" "[I" ∈ wsX6_forget := by decide +kernel
theorem kk_X6_forget_3 : Cond.fieldLink RX6 22 "PaidBySigns$Proofs" "mixed" "[I" ∈ wsX6_forget := by decide +kernel
theorem kk_X6_changePress_0 : Cond.fieldLink RX6 15 "PaidBySigns$Proofs" "press" "[I" ∈ wsX6_changePress := by decide +kernel
theorem kk_X6_changeElse_0 : Cond.fieldLink RX6 19 "PaidBySigns$Proofs" "pressOfElse" "I" ∈ wsX6_changeElse := by decide +kernel
theorem kk_X6_changeMix_0 : Cond.fieldLink RX6 22 "PaidBySigns$Proofs" "mixed" "[I" ∈ wsX6_changeMix := by decide +kernel
theorem iw_X6_forget_X6 : ∀ w ∈ wsX60, w ∈ wsX6_forget := by decide +kernel
theorem iw_X6_changePress_X6 : ∀ w ∈ wsX60, w ∈ wsX6_changePress := by decide +kernel
theorem iw_X6_changeElse_X6 : ∀ w ∈ wsX60, w ∈ wsX6_changeElse := by decide +kernel
theorem iw_X6_changeMix_X6 : ∀ w ∈ wsX60, w ∈ wsX6_changeMix := by decide +kernel
