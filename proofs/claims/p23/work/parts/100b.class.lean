set_option maxHeartbeats 4000000 in
set_option maxRecDepth 100000 in
theorem ct_X7_kindOf (l : Launch) (dC : Nat → ClassId) (dI : Nat → Nat → Nat) (p0 : Int32) (sz : Nat) : Met l yX7_kindOf wsX7_kindOf ({ frames := 0, cells := 0, slots := 0, locals := 0 }) (va_Pc [Value.int p0] (fun U => U.heap.size = sz ∧ va_P (dC, dI) vwCl [] U.heap ∧ va_K (dC, dI) vwCl [] U ∧ va_D (fun _ => True) [])) (va_Qi (fun (r u : Int32) => u = r) (fun (r : Int32) t => iv r 1 5 ∧ (r.toInt = kdv p0) ∧ va_P (dC, dI) vwCl [] t.heap ∧ va_D (va_A [] sz) []) (va_A [] sz)) 0 0 (va_A [] sz) := by
  refine Met.ofW (cc := cX7_kindOf) (maxL := 1) (ret := (some .int)) pn_X7 rfl ?_
  intro p e s m args below meth c s₁ B hml hv
  obtain ⟨rfl, hsz, hP, hK, hD0⟩ := hv
  have hx := B.exec
  have hb := B.bytes
  have hr := B.returns
  have hts := atoms_spec (ws := wsX7_kindOf) B.pre
  have hown : s.vm.findClass RX7 = some m.cls := findClass_of_methodNamed B.named
  have hlocks := B.notSynchronized
  subst hsz
  have hD := hD0.self (sz := s.heap.size)
  generalize hAe : va_A [] s.heap.size = A at hD ⊢
  have hA : ∀ q : Nat, s.heap.size ≤ q → A q := fun q h => by rw [← hAe]; exact Or.inr h
  have hS : va_S A s.heap s.heap [] := va_S.rf
  have hP : va_P (dC, dI) vwCl [] s.heap := hP
  have hl := lv_entry ([Value.int p0]) (n := 1) (Nat.le_of_ble_eq_true rfl)
  rw [lg_entry_eq]
  generalize (lg_sl ([Value.int p0]) ++ List.replicate (1 - (lg_sl ([Value.int p0])).length) Slot.unset).toArray = ls at hl ⊢
  have hl : lv_has ls 1 [(0, Value.int p0)] := hl
  refine lv_iload_n hx hb dX7_kindOf_0 rfl (lv_at hl 0 rfl) ?_
  refine lv_bipush (v := 97) hx hb dX7_kindOf_1 (by decide) ?_
  have bp0 := i32_rng p0
  refine lv_icmp_lt (tgt := 14) hx hb dX7_kindOf_3 (by decide) (fun c1 => ?_) (fun c1 => ?_)
  · have c19 := i32_lt c1 rfl (show (97 : Int32).toInt = 97 by decide)
    refine lv_iload_n hx hb dX7_kindOf_14 rfl (lv_at hl 0 rfl) ?_
    refine lv_bipush (v := 48) hx hb dX7_kindOf_15 (by decide) ?_
    refine lv_icmp_lt (tgt := 28) hx hb dX7_kindOf_17 (by decide) (fun c2 => ?_) (fun c2 => ?_)
    · have c29 := i32_lt c2 rfl (show (48 : Int32).toInt = 48 by decide)
      refine lv_iload_n hx hb dX7_kindOf_28 rfl (lv_at hl 0 rfl) ?_
      refine lv_bipush (v := 32) hx hb dX7_kindOf_29 (by decide) ?_
      refine lv_icmp_eq (tgt := 40) hx hb dX7_kindOf_31 (by decide) (fun c3 => ?_) (fun c3 => ?_)
      · have c39 := i32_eq c3 rfl (show (32 : Int32).toInt = 32 by decide)
        refine lv_iconst (v := 5) hx hb dX7_kindOf_40 (by decide) ?_
        have hP9 := hP.sub (ws' := []) [] rfl
        have hD9 := hD.sub (ws' := []) [] (by decide) rfl
        exact W.iret (v := 5) hx hb hr (fun t ht hW => ⟨⟨5, 5, rfl, rfl, (iv.m (by decide)), (by have hlit : (5 : Int32).toInt = 5 := (by decide); unfold kdv; (repeat' split) <;> omega), by rw [ht]; exact hP9, hD9⟩, hS.F ht⟩) hS.2.2 dX7_kindOf_41
      · have c39 := i32_ne c3 rfl (show (32 : Int32).toInt = 32 by decide)
        refine lv_iload_n hx hb dX7_kindOf_34 rfl (lv_at hl 0 rfl) ?_
        refine lv_bipush (v := 10) hx hb dX7_kindOf_35 (by decide) ?_
        refine lv_icmp_ne (tgt := 42) hx hb dX7_kindOf_37 (by decide) (fun c4 => ?_) (fun c4 => ?_)
        · have c49 := i32_ne c4 rfl (show (10 : Int32).toInt = 10 by decide)
          refine lv_iload_n hx hb dX7_kindOf_42 rfl (lv_at hl 0 rfl) ?_
          refine lv_bipush (v := 59) hx hb dX7_kindOf_43 (by decide) ?_
          refine lv_icmp_ne (tgt := 52) hx hb dX7_kindOf_45 (by decide) (fun _ => ?_) (fun c5 => False.elim (by have c59 := i32_eq c5 rfl (show (59 : Int32).toInt = 59 by decide); omega))
          refine lv_iconst (v := 4) hx hb dX7_kindOf_52 (by decide) ?_
          have hP9 := hP.sub (ws' := []) [] rfl
          have hD9 := hD.sub (ws' := []) [] (by decide) rfl
          exact W.iret (v := 4) hx hb hr (fun t ht hW => ⟨⟨4, 4, rfl, rfl, (iv.m (by decide)), (by have hlit : (4 : Int32).toInt = 4 := (by decide); unfold kdv; (repeat' split) <;> omega), by rw [ht]; exact hP9, hD9⟩, hS.F ht⟩) hS.2.2 dX7_kindOf_53
        · have c49 := i32_eq c4 rfl (show (10 : Int32).toInt = 10 by decide)
          refine lv_iconst (v := 5) hx hb dX7_kindOf_40 (by decide) ?_
          have hP9 := hP.sub (ws' := []) [] rfl
          have hD9 := hD.sub (ws' := []) [] (by decide) rfl
          exact W.iret (v := 5) hx hb hr (fun t ht hW => ⟨⟨5, 5, rfl, rfl, (iv.m (by decide)), (by have hlit : (5 : Int32).toInt = 5 := (by decide); unfold kdv; (repeat' split) <;> omega), by rw [ht]; exact hP9, hD9⟩, hS.F ht⟩) hS.2.2 dX7_kindOf_41
    · have c29 := i32_nlt c2 rfl (show (48 : Int32).toInt = 48 by decide)
      refine lv_iload_n hx hb dX7_kindOf_20 rfl (lv_at hl 0 rfl) ?_
      refine lv_bipush (v := 57) hx hb dX7_kindOf_21 (by decide) ?_
      refine lv_icmp_gt (tgt := 28) hx hb dX7_kindOf_23 (by decide) (fun c6 => ?_) (fun c6 => ?_)
      · have c69 := i32_lt c6 (show (57 : Int32).toInt = 57 by decide) rfl
        refine lv_iload_n hx hb dX7_kindOf_28 rfl (lv_at hl 0 rfl) ?_
        refine lv_bipush (v := 32) hx hb dX7_kindOf_29 (by decide) ?_
        refine lv_icmp_eq (tgt := 40) hx hb dX7_kindOf_31 (by decide) (fun c7 => False.elim (by have c79 := i32_eq c7 rfl (show (32 : Int32).toInt = 32 by decide); omega)) (fun _ => ?_)
        refine lv_iload_n hx hb dX7_kindOf_34 rfl (lv_at hl 0 rfl) ?_
        refine lv_bipush (v := 10) hx hb dX7_kindOf_35 (by decide) ?_
        refine lv_icmp_ne (tgt := 42) hx hb dX7_kindOf_37 (by decide) (fun _ => ?_) (fun c8 => False.elim (by have c89 := i32_eq c8 rfl (show (10 : Int32).toInt = 10 by decide); omega))
        refine lv_iload_n hx hb dX7_kindOf_42 rfl (lv_at hl 0 rfl) ?_
        refine lv_bipush (v := 59) hx hb dX7_kindOf_43 (by decide) ?_
        refine lv_icmp_ne (tgt := 52) hx hb dX7_kindOf_45 (by decide) (fun c9 => ?_) (fun c9 => ?_)
        · have c99 := i32_ne c9 rfl (show (59 : Int32).toInt = 59 by decide)
          refine lv_iconst (v := 4) hx hb dX7_kindOf_52 (by decide) ?_
          have hP9 := hP.sub (ws' := []) [] rfl
          have hD9 := hD.sub (ws' := []) [] (by decide) rfl
          exact W.iret (v := 4) hx hb hr (fun t ht hW => ⟨⟨4, 4, rfl, rfl, (iv.m (by decide)), (by have hlit : (4 : Int32).toInt = 4 := (by decide); unfold kdv; (repeat' split) <;> omega), by rw [ht]; exact hP9, hD9⟩, hS.F ht⟩) hS.2.2 dX7_kindOf_53
        · have c99 := i32_eq c9 rfl (show (59 : Int32).toInt = 59 by decide)
          refine lv_iconst (v := 3) hx hb dX7_kindOf_48 (by decide) ?_
          refine lv_goto (tgt := 53) hx hb dX7_kindOf_49 (by decide) ?_
          have hP9 := hP.sub (ws' := []) [] rfl
          have hD9 := hD.sub (ws' := []) [] (by decide) rfl
          exact W.iret (v := 3) hx hb hr (fun t ht hW => ⟨⟨3, 3, rfl, rfl, (iv.m (by decide)), (by have hlit : (3 : Int32).toInt = 3 := (by decide); unfold kdv; (repeat' split) <;> omega), by rw [ht]; exact hP9, hD9⟩, hS.F ht⟩) hS.2.2 dX7_kindOf_53
      · have c69 := i32_nlt c6 (show (57 : Int32).toInt = 57 by decide) rfl
        refine lv_iconst (v := 2) hx hb dX7_kindOf_26 (by decide) ?_
        have hP9 := hP.sub (ws' := []) [] rfl
        have hD9 := hD.sub (ws' := []) [] (by decide) rfl
        exact W.iret (v := 2) hx hb hr (fun t ht hW => ⟨⟨2, 2, rfl, rfl, (iv.m (by decide)), (by have hlit : (2 : Int32).toInt = 2 := (by decide); unfold kdv; (repeat' split) <;> omega), by rw [ht]; exact hP9, hD9⟩, hS.F ht⟩) hS.2.2 dX7_kindOf_27
  · have c19 := i32_nlt c1 rfl (show (97 : Int32).toInt = 97 by decide)
    refine lv_iload_n hx hb dX7_kindOf_6 rfl (lv_at hl 0 rfl) ?_
    refine lv_bipush (v := 122) hx hb dX7_kindOf_7 (by decide) ?_
    refine lv_icmp_gt (tgt := 14) hx hb dX7_kindOf_9 (by decide) (fun c10 => ?_) (fun c10 => ?_)
    · have c109 := i32_lt c10 (show (122 : Int32).toInt = 122 by decide) rfl
      refine lv_iload_n hx hb dX7_kindOf_14 rfl (lv_at hl 0 rfl) ?_
      refine lv_bipush (v := 48) hx hb dX7_kindOf_15 (by decide) ?_
      refine lv_icmp_lt (tgt := 28) hx hb dX7_kindOf_17 (by decide) (fun c11 => False.elim (by have c119 := i32_lt c11 rfl (show (48 : Int32).toInt = 48 by decide); omega)) (fun _ => ?_)
      refine lv_iload_n hx hb dX7_kindOf_20 rfl (lv_at hl 0 rfl) ?_
      refine lv_bipush (v := 57) hx hb dX7_kindOf_21 (by decide) ?_
      refine lv_icmp_gt (tgt := 28) hx hb dX7_kindOf_23 (by decide) (fun _ => ?_) (fun c12 => False.elim (by have c129 := i32_nlt c12 (show (57 : Int32).toInt = 57 by decide) rfl; omega))
      refine lv_iload_n hx hb dX7_kindOf_28 rfl (lv_at hl 0 rfl) ?_
      refine lv_bipush (v := 32) hx hb dX7_kindOf_29 (by decide) ?_
      refine lv_icmp_eq (tgt := 40) hx hb dX7_kindOf_31 (by decide) (fun c13 => False.elim (by have c139 := i32_eq c13 rfl (show (32 : Int32).toInt = 32 by decide); omega)) (fun _ => ?_)
      refine lv_iload_n hx hb dX7_kindOf_34 rfl (lv_at hl 0 rfl) ?_
      refine lv_bipush (v := 10) hx hb dX7_kindOf_35 (by decide) ?_
      refine lv_icmp_ne (tgt := 42) hx hb dX7_kindOf_37 (by decide) (fun _ => ?_) (fun c14 => False.elim (by have c149 := i32_eq c14 rfl (show (10 : Int32).toInt = 10 by decide); omega))
      refine lv_iload_n hx hb dX7_kindOf_42 rfl (lv_at hl 0 rfl) ?_
      refine lv_bipush (v := 59) hx hb dX7_kindOf_43 (by decide) ?_
      refine lv_icmp_ne (tgt := 52) hx hb dX7_kindOf_45 (by decide) (fun _ => ?_) (fun c15 => False.elim (by have c159 := i32_eq c15 rfl (show (59 : Int32).toInt = 59 by decide); omega))
      refine lv_iconst (v := 4) hx hb dX7_kindOf_52 (by decide) ?_
      have hP9 := hP.sub (ws' := []) [] rfl
      have hD9 := hD.sub (ws' := []) [] (by decide) rfl
      exact W.iret (v := 4) hx hb hr (fun t ht hW => ⟨⟨4, 4, rfl, rfl, (iv.m (by decide)), (by have hlit : (4 : Int32).toInt = 4 := (by decide); unfold kdv; (repeat' split) <;> omega), by rw [ht]; exact hP9, hD9⟩, hS.F ht⟩) hS.2.2 dX7_kindOf_53
    · have c109 := i32_nlt c10 (show (122 : Int32).toInt = 122 by decide) rfl
      refine lv_iconst (v := 1) hx hb dX7_kindOf_12 (by decide) ?_
      have hP9 := hP.sub (ws' := []) [] rfl
      have hD9 := hD.sub (ws' := []) [] (by decide) rfl
      exact W.iret (v := 1) hx hb hr (fun t ht hW => ⟨⟨1, 1, rfl, rfl, (iv.m (by decide)), (by have hlit : (1 : Int32).toInt = 1 := (by decide); unfold kdv; (repeat' split) <;> omega), by rw [ht]; exact hP9, hD9⟩, hS.F ht⟩) hS.2.2 dX7_kindOf_13

set_option maxHeartbeats 4000000 in
set_option maxRecDepth 100000 in
theorem ct_X7_takeRun (l : Launch) (dC : Nat → ClassId) (dI : Nat → Nat → Nat) (o : Nat) (v_length : Int32) (v_faultKind : Int32) (v_faultPlace : Int32) (o_into : Nat) (a_text : Nat) (v_next : Int32) (v_token : Int32) (v_start : Int32) (v_value : Int32) (a_nameStart : Nat) (a_nameEnd : Nat) (v_hasElse : Int32) (v_hasLeast : Int32) (v_hasFeel : Int32) (k_a_text : ClassId) (f_a_text : Nat → Int32) (hv_length : iv v_length 0 900) (hv_next : iv v_next 0 900) (hv_token : iv v_token 0 5) (hv_start : iv v_start 0 900) (htk : v_token.toInt = 1 ∨ v_token.toInt = 2) (sz : Nat) : Met l yX7_takeRun wsX7_takeRun ({ frames := 1, cells := 0, slots := 0, locals := 20 }) (va_Pc [Value.ref o] (fun U => U.heap.size = sz ∧ va_P (dC, dI) vwCl [(o, Sum.inr (7, [Value.int v_length, Value.int v_faultKind, Value.int v_faultPlace, Value.ref o_into, Value.ref a_text, Value.int v_next, Value.int v_token, Value.int v_start, Value.int v_value, Value.ref a_nameStart, Value.ref a_nameEnd, Value.int v_hasElse, Value.int v_hasLeast, Value.int v_hasFeel])), (a_text, Sum.inl (k_a_text, 900, Sum.inl f_a_text))] U.heap ∧ va_K (dC, dI) vwCl [(k_a_text, FieldType.byte)] U ∧ va_D (fun _ => True) [(o, Sum.inr (7, [Value.int v_length, Value.int v_faultKind, Value.int v_faultPlace, Value.ref o_into, Value.ref a_text, Value.int v_next, Value.int v_token, Value.int v_start, Value.int v_value, Value.ref a_nameStart, Value.ref a_nameEnd, Value.int v_hasElse, Value.int v_hasLeast, Value.int v_hasFeel])), (a_text, Sum.inl (k_a_text, 900, Sum.inl f_a_text))])) (va_Qv (fun _ : Unit => True) (fun _ t => ∃ (e_v_next : Int32) (e_v_token : Int32), iv e_v_next 0 900 ∧ iv e_v_token 0 5 ∧ (e_v_next.toInt = (skv f_a_text v_length.toNatClampNeg v_token.toInt v_next.toNatClampNeg : Int)) ∧ ((e_v_token.toInt = 4 ∧ (v_token.toInt = 1 ∧ 8 < e_v_next.toInt - v_start.toInt ∨ v_token.toInt = 2 ∧ 4 < e_v_next.toInt - v_start.toInt)) ∨ (e_v_token.toInt = v_token.toInt ∧ (v_token.toInt = 1 ∧ e_v_next.toInt - v_start.toInt ≤ 8 ∨ v_token.toInt = 2 ∧ e_v_next.toInt - v_start.toInt ≤ 4))) ∧ va_P (dC, dI) vwCl [(o, Sum.inr (7, [Value.int v_length, Value.int v_faultKind, Value.int v_faultPlace, Value.ref o_into, Value.ref a_text, Value.int e_v_next, Value.int e_v_token, Value.int v_start, Value.int v_value, Value.ref a_nameStart, Value.ref a_nameEnd, Value.int v_hasElse, Value.int v_hasLeast, Value.int v_hasFeel])), (a_text, Sum.inl (k_a_text, 900, Sum.inl f_a_text))] t.heap ∧ va_D (va_A [(o, Sum.inr (7, [Value.int v_length, Value.int v_faultKind, Value.int v_faultPlace, Value.ref o_into, Value.ref a_text, Value.int v_next, Value.int v_token, Value.int v_start, Value.int v_value, Value.ref a_nameStart, Value.ref a_nameEnd, Value.int v_hasElse, Value.int v_hasLeast, Value.int v_hasFeel])), (a_text, Sum.inl (k_a_text, 900, Sum.inl f_a_text))] sz) [(o, Sum.inr (7, [Value.int v_length, Value.int v_faultKind, Value.int v_faultPlace, Value.ref o_into, Value.ref a_text, Value.int e_v_next, Value.int e_v_token, Value.int v_start, Value.int v_value, Value.ref a_nameStart, Value.ref a_nameEnd, Value.int v_hasElse, Value.int v_hasLeast, Value.int v_hasFeel])), (a_text, Sum.inl (k_a_text, 900, Sum.inl f_a_text))]) (va_A [(o, Sum.inr (7, [Value.int v_length, Value.int v_faultKind, Value.int v_faultPlace, Value.ref o_into, Value.ref a_text, Value.int v_next, Value.int v_token, Value.int v_start, Value.int v_value, Value.ref a_nameStart, Value.ref a_nameEnd, Value.int v_hasElse, Value.int v_hasLeast, Value.int v_hasFeel])), (a_text, Sum.inl (k_a_text, 900, Sum.inl f_a_text))] sz)) 0 0 (va_A [(o, Sum.inr (7, [Value.int v_length, Value.int v_faultKind, Value.int v_faultPlace, Value.ref o_into, Value.ref a_text, Value.int v_next, Value.int v_token, Value.int v_start, Value.int v_value, Value.ref a_nameStart, Value.ref a_nameEnd, Value.int v_hasElse, Value.int v_hasLeast, Value.int v_hasFeel])), (a_text, Sum.inl (k_a_text, 900, Sum.inl f_a_text))] sz) := by
  refine Met.ofW (cc := cX7_takeRun) (maxL := 2) (ret := none) pn_X7 rfl ?_
  intro p e s m args below meth c s₁ B hml hv
  obtain ⟨rfl, hsz, hP, hK, hD0⟩ := hv
  have hx := B.exec
  have hb := B.bytes
  have hr := B.returns
  have hts := atoms_spec (ws := wsX7_takeRun) B.pre
  have hown : s.vm.findClass RX7 = some m.cls := findClass_of_methodNamed B.named
  have hlocks := B.notSynchronized
  subst hsz
  have hD := hD0.self (sz := s.heap.size)
  generalize hAe : va_A [(o, Sum.inr (7, [Value.int v_length, Value.int v_faultKind, Value.int v_faultPlace, Value.ref o_into, Value.ref a_text, Value.int v_next, Value.int v_token, Value.int v_start, Value.int v_value, Value.ref a_nameStart, Value.ref a_nameEnd, Value.int v_hasElse, Value.int v_hasLeast, Value.int v_hasFeel])), (a_text, Sum.inl (k_a_text, 900, Sum.inl f_a_text))] s.heap.size = A at hD ⊢
  have hA : ∀ q : Nat, s.heap.size ≤ q → A q := fun q h => by rw [← hAe]; exact Or.inr h
  have hS : va_S A s.heap s.heap [] := va_S.rf
  have hP : va_P (dC, dI) vwCl [(o, Sum.inr (7, [Value.int v_length, Value.int v_faultKind, Value.int v_faultPlace, Value.ref o_into, Value.ref a_text, Value.int v_next, Value.int v_token, Value.int v_start, Value.int v_value, Value.ref a_nameStart, Value.ref a_nameEnd, Value.int v_hasElse, Value.int v_hasLeast, Value.int v_hasFeel])), (a_text, Sum.inl (k_a_text, 900, Sum.inl f_a_text))] s.heap := hP
  have hl := lv_entry ([Value.ref o]) (n := 2) (Nat.le_of_ble_eq_true rfl)
  rw [lg_entry_eq]
  generalize (lg_sl ([Value.ref o]) ++ List.replicate (2 - (lg_sl ([Value.ref o])).length) Slot.unset).toArray = ls at hl ⊢
  have hl : lv_has ls 2 [(0, Value.ref o)] := hl
  refine tl_loop (I := fun nn H locs ls => ∃ (v1 : Int32), nn = (900 - v1.toInt).toNat ∧ iv v1 0 900 ∧ (skv f_a_text v_length.toNatClampNeg v_token.toInt v1.toNatClampNeg = skv f_a_text v_length.toNatClampNeg v_token.toInt v_next.toNatClampNeg) ∧  va_P (dC, dI) vwCl [(o, Sum.inr (7, [Value.int v_length, Value.int v_faultKind, Value.int v_faultPlace, Value.ref o_into, Value.ref a_text, Value.int v1, Value.int v_token, Value.int v_start, Value.int v_value, Value.ref a_nameStart, Value.ref a_nameEnd, Value.int v_hasElse, Value.int v_hasLeast, Value.int v_hasFeel])), (a_text, Sum.inl (k_a_text, 900, Sum.inl f_a_text))] H ∧ va_D A [(o, Sum.inr (7, [Value.int v_length, Value.int v_faultKind, Value.int v_faultPlace, Value.ref o_into, Value.ref a_text, Value.int v1, Value.int v_token, Value.int v_start, Value.int v_value, Value.ref a_nameStart, Value.ref a_nameEnd, Value.int v_hasElse, Value.int v_hasLeast, Value.int v_hasFeel])), (a_text, Sum.inl (k_a_text, 900, Sum.inl f_a_text))] ∧ va_S A s.heap H locs ∧ lv_has ls 2 [(0, Value.ref o)]) ?_ ⟨v_next, rfl, hv_next, (by first | rfl | exact skI_step hi0_0 (by assumption) (by assumption) (by omega) (by omega) (by omega) (by omega)), hP, hD, hS, lv_sub hl [0] rfl⟩
  clear hP hD hS hl
  intro nn0 H locs ls hI ih0
  obtain ⟨v1, hn0, hv1, hi0_0, hP, hD, hS, hl⟩ := hI
  refine lv_aload_n hx hb dX7_takeRun_0 rfl (lv_at hl 0 rfl) ?_
  refine va_get (D := (dC, dI)) (ci := 7) (v := Value.int v1) (C := RX7) (T := TX7) (N := 14) hx hb hts iw_X7_takeRun_X7 hown hK hP 0 rfl rfl 5 (by decide) (hts _ kk_X7_takeRun_0) (fun _ h9 => h9) rfl dX7_takeRun_1 ?_
  refine lv_aload_n hx hb dX7_takeRun_4 rfl (lv_at hl 0 rfl) ?_
  refine va_get (D := (dC, dI)) (ci := 7) (v := Value.int v_length) (C := RX7) (T := TX7) (N := 14) hx hb hts iw_X7_takeRun_X7 hown hK hP 0 rfl rfl 0 (by decide) (hts _ kk_X7_takeRun_1) (fun _ h9 => h9) rfl dX7_takeRun_5 ?_
  have bv1 := hv1.u
  have bv_length := hv_length.u
  refine lv_icmp_ge (tgt := 43) hx hb dX7_takeRun_8 (by decide) (fun c2 => ?_) (fun c2 => ?_)
  · have c29 := i32_le c2 rfl rfl
    refine lv_aload_n hx hb dX7_takeRun_43 rfl (lv_at hl 0 rfl) ?_
    refine va_get (D := (dC, dI)) (ci := 7) (v := Value.int v_token) (C := RX7) (T := TX7) (N := 14) hx hb hts iw_X7_takeRun_X7 hown hK hP 0 rfl rfl 6 (by decide) (hts _ kk_X7_takeRun_2) (fun _ h9 => h9) rfl dX7_takeRun_44 ?_
    refine lv_iconst (v := 1) hx hb dX7_takeRun_47 (by decide) ?_
    have bv_token := hv_token.u
    refine lv_icmp_ne (tgt := 56) hx hb dX7_takeRun_48 (by decide) (fun c3 => ?_) (fun c3 => ?_)
    · have c39 := i32_ne c3 rfl (show (1 : Int32).toInt = 1 by decide)
      refine lv_iconst (v := 4) hx hb dX7_takeRun_56 (by decide) ?_
      refine lv_istore_n (lv' := [(1, Value.int 4), (0, Value.ref o)]) hx hb dX7_takeRun_57 rfl hl (by decide) rfl (fun ls hl => ?_)
      refine lv_aload_n hx hb dX7_takeRun_58 rfl (lv_at hl 1 rfl) ?_
      refine va_get (D := (dC, dI)) (ci := 7) (v := Value.int v1) (C := RX7) (T := TX7) (N := 14) hx hb hts iw_X7_takeRun_X7 hown hK hP 0 rfl rfl 5 (by decide) (hts _ kk_X7_takeRun_0) (fun _ h9 => h9) rfl dX7_takeRun_59 ?_
      refine lv_aload_n hx hb dX7_takeRun_62 rfl (lv_at hl 1 rfl) ?_
      refine va_get (D := (dC, dI)) (ci := 7) (v := Value.int v_start) (C := RX7) (T := TX7) (N := 14) hx hb hts iw_X7_takeRun_X7 hown hK hP 0 rfl rfl 7 (by decide) (hts _ kk_X7_takeRun_3) (fun _ h9 => h9) rfl dX7_takeRun_63 ?_
      refine lv_isub hx hb dX7_takeRun_66 ?_
      refine lv_topi (fun x4 ex4 => ?_)
      have bv_start := hv_start.u
      have tx4 := i32_sub ex4 rfl rfl (by omega) (by omega)
      refine lv_iload_n hx hb dX7_takeRun_67 rfl (lv_at hl 0 rfl) ?_
      refine lv_icmp_le (tgt := 76) hx hb dX7_takeRun_68 (by decide) (fun c5 => ?_) (fun c5 => ?_)
      · have c59 := i32_le c5 rfl (show (4 : Int32).toInt = 4 by decide)
        have hP9 := hP.sub (ws' := [(o, Sum.inr (7, [Value.int v_length, Value.int v_faultKind, Value.int v_faultPlace, Value.ref o_into, Value.ref a_text, Value.int v1, Value.int v_token, Value.int v_start, Value.int v_value, Value.ref a_nameStart, Value.ref a_nameEnd, Value.int v_hasElse, Value.int v_hasLeast, Value.int v_hasFeel])), (a_text, Sum.inl (k_a_text, 900, Sum.inl f_a_text))]) [0, 1] rfl
        have hD9 := hD.sub (ws' := [(o, Sum.inr (7, [Value.int v_length, Value.int v_faultKind, Value.int v_faultPlace, Value.ref o_into, Value.ref a_text, Value.int v1, Value.int v_token, Value.int v_start, Value.int v_value, Value.ref a_nameStart, Value.ref a_nameEnd, Value.int v_hasElse, Value.int v_hasLeast, Value.int v_hasFeel])), (a_text, Sum.inl (k_a_text, 900, Sum.inl f_a_text))]) [0, 1] (by decide) rfl
        have bv_next := hv_next.u
        exact W.vret hx hb hr (fun t ht hW => ⟨⟨(), rfl, trivial, v1, v_token, hv1, hv_token, (by first | exact skI_stop1 hi0_0 (by omega) (by omega) | exact skI_stop2 hi0_0 (by omega) (by assumption) (by assumption) (by omega)), (by first | omega | (have hz4 : (4 : Int32).toInt = 4 := (by decide); omega)), by rw [ht]; exact hP9, hD9⟩, hS.F ht⟩) hS.2.2 dX7_takeRun_76
      · have c59 := i32_nle c5 rfl (show (4 : Int32).toInt = 4 by decide)
        refine lv_aload_n hx hb dX7_takeRun_71 rfl (lv_at hl 1 rfl) ?_
        refine lv_iconst (v := 4) hx hb dX7_takeRun_72 (by decide) ?_
        refine va_put (D := (dC, dI)) (ci := 7) (v := Value.int 4) (ty := FieldType.int) (C := RX7) (T := TX7) (N := 14) hx hb hts iw_X7_takeRun_X7 tyX7 tyX7_ok nmX7 hown hK hP hD hS 0 rfl rfl 6 (by decide) (hts _ kk_X7_takeRun_2) (fun _ h9 => h9) rfl (by decide +kernel) rfl rfl (Nat.le_of_ble_eq_true rfl) dX7_takeRun_73 (fun H locs hP hD hS => ?_)
        have hP : va_P (dC, dI) vwCl [(o, Sum.inr (7, [Value.int v_length, Value.int v_faultKind, Value.int v_faultPlace, Value.ref o_into, Value.ref a_text, Value.int v1, Value.int 4, Value.int v_start, Value.int v_value, Value.ref a_nameStart, Value.ref a_nameEnd, Value.int v_hasElse, Value.int v_hasLeast, Value.int v_hasFeel])), (a_text, Sum.inl (k_a_text, 900, Sum.inl f_a_text))] H := hP
        have hD : va_D A [(o, Sum.inr (7, [Value.int v_length, Value.int v_faultKind, Value.int v_faultPlace, Value.ref o_into, Value.ref a_text, Value.int v1, Value.int 4, Value.int v_start, Value.int v_value, Value.ref a_nameStart, Value.ref a_nameEnd, Value.int v_hasElse, Value.int v_hasLeast, Value.int v_hasFeel])), (a_text, Sum.inl (k_a_text, 900, Sum.inl f_a_text))] := hD
        have hP9 := hP.sub (ws' := [(o, Sum.inr (7, [Value.int v_length, Value.int v_faultKind, Value.int v_faultPlace, Value.ref o_into, Value.ref a_text, Value.int v1, Value.int 4, Value.int v_start, Value.int v_value, Value.ref a_nameStart, Value.ref a_nameEnd, Value.int v_hasElse, Value.int v_hasLeast, Value.int v_hasFeel])), (a_text, Sum.inl (k_a_text, 900, Sum.inl f_a_text))]) [0, 1] rfl
        have hD9 := hD.sub (ws' := [(o, Sum.inr (7, [Value.int v_length, Value.int v_faultKind, Value.int v_faultPlace, Value.ref o_into, Value.ref a_text, Value.int v1, Value.int 4, Value.int v_start, Value.int v_value, Value.ref a_nameStart, Value.ref a_nameEnd, Value.int v_hasElse, Value.int v_hasLeast, Value.int v_hasFeel])), (a_text, Sum.inl (k_a_text, 900, Sum.inl f_a_text))]) [0, 1] (by decide) rfl
        have bv_next := hv_next.u
        exact W.vret hx hb hr (fun t ht hW => ⟨⟨(), rfl, trivial, v1, 4, hv1, (iv.m (by decide)), (by first | exact skI_stop1 hi0_0 (by omega) (by omega) | exact skI_stop2 hi0_0 (by omega) (by assumption) (by assumption) (by omega)), (by first | omega | (have hz4 : (4 : Int32).toInt = 4 := (by decide); omega)), by rw [ht]; exact hP9, hD9⟩, hS.F ht⟩) hS.2.2 dX7_takeRun_76
    · have c39 := i32_eq c3 rfl (show (1 : Int32).toInt = 1 by decide)
      refine lv_bipush (v := 8) hx hb dX7_takeRun_51 (by decide) ?_
      refine lv_goto (tgt := 57) hx hb dX7_takeRun_53 (by decide) ?_
      refine lv_istore_n (lv' := [(1, Value.int 8), (0, Value.ref o)]) hx hb dX7_takeRun_57 rfl hl (by decide) rfl (fun ls hl => ?_)
      refine lv_aload_n hx hb dX7_takeRun_58 rfl (lv_at hl 1 rfl) ?_
      refine va_get (D := (dC, dI)) (ci := 7) (v := Value.int v1) (C := RX7) (T := TX7) (N := 14) hx hb hts iw_X7_takeRun_X7 hown hK hP 0 rfl rfl 5 (by decide) (hts _ kk_X7_takeRun_0) (fun _ h9 => h9) rfl dX7_takeRun_59 ?_
      refine lv_aload_n hx hb dX7_takeRun_62 rfl (lv_at hl 1 rfl) ?_
      refine va_get (D := (dC, dI)) (ci := 7) (v := Value.int v_start) (C := RX7) (T := TX7) (N := 14) hx hb hts iw_X7_takeRun_X7 hown hK hP 0 rfl rfl 7 (by decide) (hts _ kk_X7_takeRun_3) (fun _ h9 => h9) rfl dX7_takeRun_63 ?_
      refine lv_isub hx hb dX7_takeRun_66 ?_
      refine lv_topi (fun x6 ex6 => ?_)
      have bv_start := hv_start.u
      have tx6 := i32_sub ex6 rfl rfl (by omega) (by omega)
      refine lv_iload_n hx hb dX7_takeRun_67 rfl (lv_at hl 0 rfl) ?_
      refine lv_icmp_le (tgt := 76) hx hb dX7_takeRun_68 (by decide) (fun c7 => ?_) (fun c7 => ?_)
      · have c79 := i32_le c7 rfl (show (8 : Int32).toInt = 8 by decide)
        have hP9 := hP.sub (ws' := [(o, Sum.inr (7, [Value.int v_length, Value.int v_faultKind, Value.int v_faultPlace, Value.ref o_into, Value.ref a_text, Value.int v1, Value.int v_token, Value.int v_start, Value.int v_value, Value.ref a_nameStart, Value.ref a_nameEnd, Value.int v_hasElse, Value.int v_hasLeast, Value.int v_hasFeel])), (a_text, Sum.inl (k_a_text, 900, Sum.inl f_a_text))]) [0, 1] rfl
        have hD9 := hD.sub (ws' := [(o, Sum.inr (7, [Value.int v_length, Value.int v_faultKind, Value.int v_faultPlace, Value.ref o_into, Value.ref a_text, Value.int v1, Value.int v_token, Value.int v_start, Value.int v_value, Value.ref a_nameStart, Value.ref a_nameEnd, Value.int v_hasElse, Value.int v_hasLeast, Value.int v_hasFeel])), (a_text, Sum.inl (k_a_text, 900, Sum.inl f_a_text))]) [0, 1] (by decide) rfl
        have bv_next := hv_next.u
        exact W.vret hx hb hr (fun t ht hW => ⟨⟨(), rfl, trivial, v1, v_token, hv1, (iv.m (by omega)), (by first | exact skI_stop1 hi0_0 (by omega) (by omega) | exact skI_stop2 hi0_0 (by omega) (by assumption) (by assumption) (by omega)), (by first | omega | (have hz4 : (4 : Int32).toInt = 4 := (by decide); omega)), by rw [ht]; exact hP9, hD9⟩, hS.F ht⟩) hS.2.2 dX7_takeRun_76
      · have c79 := i32_nle c7 rfl (show (8 : Int32).toInt = 8 by decide)
        refine lv_aload_n hx hb dX7_takeRun_71 rfl (lv_at hl 1 rfl) ?_
        refine lv_iconst (v := 4) hx hb dX7_takeRun_72 (by decide) ?_
        refine va_put (D := (dC, dI)) (ci := 7) (v := Value.int 4) (ty := FieldType.int) (C := RX7) (T := TX7) (N := 14) hx hb hts iw_X7_takeRun_X7 tyX7 tyX7_ok nmX7 hown hK hP hD hS 0 rfl rfl 6 (by decide) (hts _ kk_X7_takeRun_2) (fun _ h9 => h9) rfl (by decide +kernel) rfl rfl (Nat.le_of_ble_eq_true rfl) dX7_takeRun_73 (fun H locs hP hD hS => ?_)
        have hP : va_P (dC, dI) vwCl [(o, Sum.inr (7, [Value.int v_length, Value.int v_faultKind, Value.int v_faultPlace, Value.ref o_into, Value.ref a_text, Value.int v1, Value.int 4, Value.int v_start, Value.int v_value, Value.ref a_nameStart, Value.ref a_nameEnd, Value.int v_hasElse, Value.int v_hasLeast, Value.int v_hasFeel])), (a_text, Sum.inl (k_a_text, 900, Sum.inl f_a_text))] H := hP
        have hD : va_D A [(o, Sum.inr (7, [Value.int v_length, Value.int v_faultKind, Value.int v_faultPlace, Value.ref o_into, Value.ref a_text, Value.int v1, Value.int 4, Value.int v_start, Value.int v_value, Value.ref a_nameStart, Value.ref a_nameEnd, Value.int v_hasElse, Value.int v_hasLeast, Value.int v_hasFeel])), (a_text, Sum.inl (k_a_text, 900, Sum.inl f_a_text))] := hD
        have hP9 := hP.sub (ws' := [(o, Sum.inr (7, [Value.int v_length, Value.int v_faultKind, Value.int v_faultPlace, Value.ref o_into, Value.ref a_text, Value.int v1, Value.int 4, Value.int v_start, Value.int v_value, Value.ref a_nameStart, Value.ref a_nameEnd, Value.int v_hasElse, Value.int v_hasLeast, Value.int v_hasFeel])), (a_text, Sum.inl (k_a_text, 900, Sum.inl f_a_text))]) [0, 1] rfl
        have hD9 := hD.sub (ws' := [(o, Sum.inr (7, [Value.int v_length, Value.int v_faultKind, Value.int v_faultPlace, Value.ref o_into, Value.ref a_text, Value.int v1, Value.int 4, Value.int v_start, Value.int v_value, Value.ref a_nameStart, Value.ref a_nameEnd, Value.int v_hasElse, Value.int v_hasLeast, Value.int v_hasFeel])), (a_text, Sum.inl (k_a_text, 900, Sum.inl f_a_text))]) [0, 1] (by decide) rfl
        have bv_next := hv_next.u
        exact W.vret hx hb hr (fun t ht hW => ⟨⟨(), rfl, trivial, v1, 4, hv1, (iv.m (by decide)), (by first | exact skI_stop1 hi0_0 (by omega) (by omega) | exact skI_stop2 hi0_0 (by omega) (by assumption) (by assumption) (by omega)), (by first | omega | (have hz4 : (4 : Int32).toInt = 4 := (by decide); omega)), by rw [ht]; exact hP9, hD9⟩, hS.F ht⟩) hS.2.2 dX7_takeRun_76
  · have c29 := i32_nle c2 rfl rfl
    refine lv_aload_n hx hb dX7_takeRun_11 rfl (lv_at hl 0 rfl) ?_
    refine va_get (D := (dC, dI)) (ci := 7) (v := Value.ref a_text) (C := RX7) (T := TX7) (N := 14) hx hb hts iw_X7_takeRun_X7 hown hK hP 0 rfl rfl 4 (by decide) (hts _ kk_X7_takeRun_4) (fun _ h9 => h9) rfl dX7_takeRun_12 ?_
    refine lv_aload_n hx hb dX7_takeRun_15 rfl (lv_at hl 0 rfl) ?_
    refine va_get (D := (dC, dI)) (ci := 7) (v := Value.int v1) (C := RX7) (T := TX7) (N := 14) hx hb hts iw_X7_takeRun_X7 hown hK hP 0 rfl rfl 5 (by decide) (hts _ kk_X7_takeRun_0) (fun _ h9 => h9) rfl dX7_takeRun_16 ?_
    refine va_bald hx hb hK hP 1 0 rfl rfl (vq_in v1 900 (by omega)) dX7_takeRun_19 ?_
    refine lv_topi (fun x8 ex8 => ?_)
    have hPc := hP.sub (ws' := []) [] rfl
    have hDc := hD.sub (ws' := []) [] (by decide) rfl
    have hKc := hK.sub (tys' := []) [] rfl
    have hFc := va_free (wc := []) hD hS hA [] rfl
    refine va_calli (va_runS (As := [Value.int x8]) (rest := []) ⟨hx, hb, hml, hown, hts⟩ (ct_X7_kindOf l dC dI x8 H.size) (va_cwS 1 hts gX7_takeRun_X7_kindOf rfl rfl rfl ⟨cn_X7.1, cn_X7.2, ds_32⟩ ⟨Nat.le_of_ble_eq_true rfl, Nat.le_of_ble_eq_true rfl⟩) ⟨fun a U g mk q => by obtain ⟨q0, q1, qP, qK, qD⟩ := q; exact ⟨q0, q1, qP, va_K.moved (u := U) (U := U.calling g mk a) (Vm.Alike.refl U.vm) qK, qD⟩, fun U hU hW => ⟨rfl, by rw [hU], by rw [hU]; exact hPc, va_K.moved hW.alike hKc, hDc.weaken (fun _ _ _ _ => trivial)⟩⟩ rfl rfl hl.1 rfl (lv_room (Nat.le_of_ble_eq_true rfl)) dX7_takeRun_20 ⟨Nat.le_of_ble_eq_true rfl, Nat.le_of_ble_eq_true rfl⟩) hS (fun q _ h => hFc q h) hFc (fun r9 u t H1 locs ht hvm hw hB hz1 hk1 hS => ?_)
    have hw : r9 = u := hw.symm
    subst hw
    obtain ⟨hr9, w10, hP1, hD1⟩ := hB
    rw [ht] at hP1
    obtain ⟨hP, hD⟩ := va_join (wr := [(o, Sum.inr (7, [Value.int v_length, Value.int v_faultKind, Value.int v_faultPlace, Value.ref o_into, Value.ref a_text, Value.int v1, Value.int v_token, Value.int v_start, Value.int v_value, Value.ref a_nameStart, Value.ref a_nameEnd, Value.int v_hasElse, Value.int v_hasLeast, Value.int v_hasFeel])), (a_text, Sum.inl (k_a_text, 900, Sum.inl f_a_text))]) (w1 := []) hP hD [] [0, 1] rfl rfl (by decide) (by decide) hk1 hFc hP1 hD1
    clear hPc hDc hKc hFc hP1 hD1 hk1 hz1
    generalize H1 = H at hP hS ⊢
    have hP : va_P (dC, dI) vwCl [(o, Sum.inr (7, [Value.int v_length, Value.int v_faultKind, Value.int v_faultPlace, Value.ref o_into, Value.ref a_text, Value.int v1, Value.int v_token, Value.int v_start, Value.int v_value, Value.ref a_nameStart, Value.ref a_nameEnd, Value.int v_hasElse, Value.int v_hasLeast, Value.int v_hasFeel])), (a_text, Sum.inl (k_a_text, 900, Sum.inl f_a_text))] H := hP
    have hD : va_D A [(o, Sum.inr (7, [Value.int v_length, Value.int v_faultKind, Value.int v_faultPlace, Value.ref o_into, Value.ref a_text, Value.int v1, Value.int v_token, Value.int v_start, Value.int v_value, Value.ref a_nameStart, Value.ref a_nameEnd, Value.int v_hasElse, Value.int v_hasLeast, Value.int v_hasFeel])), (a_text, Sum.inl (k_a_text, 900, Sum.inl f_a_text))] := hD
    refine W.widen (k := 0) (n := 0) (by decide) (by decide) ?_
    have br9 := hr9.u
    refine lv_aload_n hx hb dX7_takeRun_23 rfl (lv_at hl 0 rfl) ?_
    refine va_get (D := (dC, dI)) (ci := 7) (v := Value.int v_token) (C := RX7) (T := TX7) (N := 14) hx hb hts iw_X7_takeRun_X7 hown hK hP 0 rfl rfl 6 (by decide) (hts _ kk_X7_takeRun_2) (fun _ h9 => h9) rfl dX7_takeRun_24 ?_
    have bv_token := hv_token.u
    refine lv_icmp_ne (tgt := 43) hx hb dX7_takeRun_27 (by decide) (fun c11 => ?_) (fun c11 => ?_)
    · have c119 := i32_ne c11 rfl rfl
      refine lv_aload_n hx hb dX7_takeRun_43 rfl (lv_at hl 0 rfl) ?_
      refine va_get (D := (dC, dI)) (ci := 7) (v := Value.int v_token) (C := RX7) (T := TX7) (N := 14) hx hb hts iw_X7_takeRun_X7 hown hK hP 0 rfl rfl 6 (by decide) (hts _ kk_X7_takeRun_2) (fun _ h9 => h9) rfl dX7_takeRun_44 ?_
      refine lv_iconst (v := 1) hx hb dX7_takeRun_47 (by decide) ?_
      refine lv_icmp_ne (tgt := 56) hx hb dX7_takeRun_48 (by decide) (fun c12 => ?_) (fun c12 => ?_)
      · have c129 := i32_ne c12 rfl (show (1 : Int32).toInt = 1 by decide)
        refine lv_iconst (v := 4) hx hb dX7_takeRun_56 (by decide) ?_
        refine lv_istore_n (lv' := [(1, Value.int 4), (0, Value.ref o)]) hx hb dX7_takeRun_57 rfl hl (by decide) rfl (fun ls hl => ?_)
        refine lv_aload_n hx hb dX7_takeRun_58 rfl (lv_at hl 1 rfl) ?_
        refine va_get (D := (dC, dI)) (ci := 7) (v := Value.int v1) (C := RX7) (T := TX7) (N := 14) hx hb hts iw_X7_takeRun_X7 hown hK hP 0 rfl rfl 5 (by decide) (hts _ kk_X7_takeRun_0) (fun _ h9 => h9) rfl dX7_takeRun_59 ?_
        refine lv_aload_n hx hb dX7_takeRun_62 rfl (lv_at hl 1 rfl) ?_
        refine va_get (D := (dC, dI)) (ci := 7) (v := Value.int v_start) (C := RX7) (T := TX7) (N := 14) hx hb hts iw_X7_takeRun_X7 hown hK hP 0 rfl rfl 7 (by decide) (hts _ kk_X7_takeRun_3) (fun _ h9 => h9) rfl dX7_takeRun_63 ?_
        refine lv_isub hx hb dX7_takeRun_66 ?_
        refine lv_topi (fun x13 ex13 => ?_)
        have bv_start := hv_start.u
        have tx13 := i32_sub ex13 rfl rfl (by omega) (by omega)
        refine lv_iload_n hx hb dX7_takeRun_67 rfl (lv_at hl 0 rfl) ?_
        refine lv_icmp_le (tgt := 76) hx hb dX7_takeRun_68 (by decide) (fun c14 => ?_) (fun c14 => ?_)
        · have c149 := i32_le c14 rfl (show (4 : Int32).toInt = 4 by decide)
          have hP9 := hP.sub (ws' := [(o, Sum.inr (7, [Value.int v_length, Value.int v_faultKind, Value.int v_faultPlace, Value.ref o_into, Value.ref a_text, Value.int v1, Value.int v_token, Value.int v_start, Value.int v_value, Value.ref a_nameStart, Value.ref a_nameEnd, Value.int v_hasElse, Value.int v_hasLeast, Value.int v_hasFeel])), (a_text, Sum.inl (k_a_text, 900, Sum.inl f_a_text))]) [0, 1] rfl
          have hD9 := hD.sub (ws' := [(o, Sum.inr (7, [Value.int v_length, Value.int v_faultKind, Value.int v_faultPlace, Value.ref o_into, Value.ref a_text, Value.int v1, Value.int v_token, Value.int v_start, Value.int v_value, Value.ref a_nameStart, Value.ref a_nameEnd, Value.int v_hasElse, Value.int v_hasLeast, Value.int v_hasFeel])), (a_text, Sum.inl (k_a_text, 900, Sum.inl f_a_text))]) [0, 1] (by decide) rfl
          have bv_next := hv_next.u
          exact W.vret hx hb hr (fun t ht hW => ⟨⟨(), rfl, trivial, v1, v_token, (iv.m (by omega)), hv_token, (by first | exact skI_stop1 hi0_0 (by omega) (by omega) | exact skI_stop2 hi0_0 (by omega) (by assumption) (by assumption) (by omega)), (by first | omega | (have hz4 : (4 : Int32).toInt = 4 := (by decide); omega)), by rw [ht]; exact hP9, hD9⟩, hS.F ht⟩) hS.2.2 dX7_takeRun_76
        · have c149 := i32_nle c14 rfl (show (4 : Int32).toInt = 4 by decide)
          refine lv_aload_n hx hb dX7_takeRun_71 rfl (lv_at hl 1 rfl) ?_
          refine lv_iconst (v := 4) hx hb dX7_takeRun_72 (by decide) ?_
          refine va_put (D := (dC, dI)) (ci := 7) (v := Value.int 4) (ty := FieldType.int) (C := RX7) (T := TX7) (N := 14) hx hb hts iw_X7_takeRun_X7 tyX7 tyX7_ok nmX7 hown hK hP hD hS 0 rfl rfl 6 (by decide) (hts _ kk_X7_takeRun_2) (fun _ h9 => h9) rfl (by decide +kernel) rfl rfl (Nat.le_of_ble_eq_true rfl) dX7_takeRun_73 (fun H locs hP hD hS => ?_)
          have hP : va_P (dC, dI) vwCl [(o, Sum.inr (7, [Value.int v_length, Value.int v_faultKind, Value.int v_faultPlace, Value.ref o_into, Value.ref a_text, Value.int v1, Value.int 4, Value.int v_start, Value.int v_value, Value.ref a_nameStart, Value.ref a_nameEnd, Value.int v_hasElse, Value.int v_hasLeast, Value.int v_hasFeel])), (a_text, Sum.inl (k_a_text, 900, Sum.inl f_a_text))] H := hP
          have hD : va_D A [(o, Sum.inr (7, [Value.int v_length, Value.int v_faultKind, Value.int v_faultPlace, Value.ref o_into, Value.ref a_text, Value.int v1, Value.int 4, Value.int v_start, Value.int v_value, Value.ref a_nameStart, Value.ref a_nameEnd, Value.int v_hasElse, Value.int v_hasLeast, Value.int v_hasFeel])), (a_text, Sum.inl (k_a_text, 900, Sum.inl f_a_text))] := hD
          have hP9 := hP.sub (ws' := [(o, Sum.inr (7, [Value.int v_length, Value.int v_faultKind, Value.int v_faultPlace, Value.ref o_into, Value.ref a_text, Value.int v1, Value.int 4, Value.int v_start, Value.int v_value, Value.ref a_nameStart, Value.ref a_nameEnd, Value.int v_hasElse, Value.int v_hasLeast, Value.int v_hasFeel])), (a_text, Sum.inl (k_a_text, 900, Sum.inl f_a_text))]) [0, 1] rfl
          have hD9 := hD.sub (ws' := [(o, Sum.inr (7, [Value.int v_length, Value.int v_faultKind, Value.int v_faultPlace, Value.ref o_into, Value.ref a_text, Value.int v1, Value.int 4, Value.int v_start, Value.int v_value, Value.ref a_nameStart, Value.ref a_nameEnd, Value.int v_hasElse, Value.int v_hasLeast, Value.int v_hasFeel])), (a_text, Sum.inl (k_a_text, 900, Sum.inl f_a_text))]) [0, 1] (by decide) rfl
          have bv_next := hv_next.u
          exact W.vret hx hb hr (fun t ht hW => ⟨⟨(), rfl, trivial, v1, 4, (iv.m (by omega)), (iv.m (by decide)), (by first | exact skI_stop1 hi0_0 (by omega) (by omega) | exact skI_stop2 hi0_0 (by omega) (by assumption) (by assumption) (by omega)), (by first | omega | (have hz4 : (4 : Int32).toInt = 4 := (by decide); omega)), by rw [ht]; exact hP9, hD9⟩, hS.F ht⟩) hS.2.2 dX7_takeRun_76
      · have c129 := i32_eq c12 rfl (show (1 : Int32).toInt = 1 by decide)
        refine lv_bipush (v := 8) hx hb dX7_takeRun_51 (by decide) ?_
        refine lv_goto (tgt := 57) hx hb dX7_takeRun_53 (by decide) ?_
        refine lv_istore_n (lv' := [(1, Value.int 8), (0, Value.ref o)]) hx hb dX7_takeRun_57 rfl hl (by decide) rfl (fun ls hl => ?_)
        refine lv_aload_n hx hb dX7_takeRun_58 rfl (lv_at hl 1 rfl) ?_
        refine va_get (D := (dC, dI)) (ci := 7) (v := Value.int v1) (C := RX7) (T := TX7) (N := 14) hx hb hts iw_X7_takeRun_X7 hown hK hP 0 rfl rfl 5 (by decide) (hts _ kk_X7_takeRun_0) (fun _ h9 => h9) rfl dX7_takeRun_59 ?_
        refine lv_aload_n hx hb dX7_takeRun_62 rfl (lv_at hl 1 rfl) ?_
        refine va_get (D := (dC, dI)) (ci := 7) (v := Value.int v_start) (C := RX7) (T := TX7) (N := 14) hx hb hts iw_X7_takeRun_X7 hown hK hP 0 rfl rfl 7 (by decide) (hts _ kk_X7_takeRun_3) (fun _ h9 => h9) rfl dX7_takeRun_63 ?_
        refine lv_isub hx hb dX7_takeRun_66 ?_
        refine lv_topi (fun x15 ex15 => ?_)
        have bv_start := hv_start.u
        have tx15 := i32_sub ex15 rfl rfl (by omega) (by omega)
        refine lv_iload_n hx hb dX7_takeRun_67 rfl (lv_at hl 0 rfl) ?_
        refine lv_icmp_le (tgt := 76) hx hb dX7_takeRun_68 (by decide) (fun c16 => ?_) (fun c16 => ?_)
        · have c169 := i32_le c16 rfl (show (8 : Int32).toInt = 8 by decide)
          have hP9 := hP.sub (ws' := [(o, Sum.inr (7, [Value.int v_length, Value.int v_faultKind, Value.int v_faultPlace, Value.ref o_into, Value.ref a_text, Value.int v1, Value.int v_token, Value.int v_start, Value.int v_value, Value.ref a_nameStart, Value.ref a_nameEnd, Value.int v_hasElse, Value.int v_hasLeast, Value.int v_hasFeel])), (a_text, Sum.inl (k_a_text, 900, Sum.inl f_a_text))]) [0, 1] rfl
          have hD9 := hD.sub (ws' := [(o, Sum.inr (7, [Value.int v_length, Value.int v_faultKind, Value.int v_faultPlace, Value.ref o_into, Value.ref a_text, Value.int v1, Value.int v_token, Value.int v_start, Value.int v_value, Value.ref a_nameStart, Value.ref a_nameEnd, Value.int v_hasElse, Value.int v_hasLeast, Value.int v_hasFeel])), (a_text, Sum.inl (k_a_text, 900, Sum.inl f_a_text))]) [0, 1] (by decide) rfl
          have bv_next := hv_next.u
          exact W.vret hx hb hr (fun t ht hW => ⟨⟨(), rfl, trivial, v1, v_token, (iv.m (by omega)), (iv.m (by omega)), (by first | exact skI_stop1 hi0_0 (by omega) (by omega) | exact skI_stop2 hi0_0 (by omega) (by assumption) (by assumption) (by omega)), (by first | omega | (have hz4 : (4 : Int32).toInt = 4 := (by decide); omega)), by rw [ht]; exact hP9, hD9⟩, hS.F ht⟩) hS.2.2 dX7_takeRun_76
        · have c169 := i32_nle c16 rfl (show (8 : Int32).toInt = 8 by decide)
          refine lv_aload_n hx hb dX7_takeRun_71 rfl (lv_at hl 1 rfl) ?_
          refine lv_iconst (v := 4) hx hb dX7_takeRun_72 (by decide) ?_
          refine va_put (D := (dC, dI)) (ci := 7) (v := Value.int 4) (ty := FieldType.int) (C := RX7) (T := TX7) (N := 14) hx hb hts iw_X7_takeRun_X7 tyX7 tyX7_ok nmX7 hown hK hP hD hS 0 rfl rfl 6 (by decide) (hts _ kk_X7_takeRun_2) (fun _ h9 => h9) rfl (by decide +kernel) rfl rfl (Nat.le_of_ble_eq_true rfl) dX7_takeRun_73 (fun H locs hP hD hS => ?_)
          have hP : va_P (dC, dI) vwCl [(o, Sum.inr (7, [Value.int v_length, Value.int v_faultKind, Value.int v_faultPlace, Value.ref o_into, Value.ref a_text, Value.int v1, Value.int 4, Value.int v_start, Value.int v_value, Value.ref a_nameStart, Value.ref a_nameEnd, Value.int v_hasElse, Value.int v_hasLeast, Value.int v_hasFeel])), (a_text, Sum.inl (k_a_text, 900, Sum.inl f_a_text))] H := hP
          have hD : va_D A [(o, Sum.inr (7, [Value.int v_length, Value.int v_faultKind, Value.int v_faultPlace, Value.ref o_into, Value.ref a_text, Value.int v1, Value.int 4, Value.int v_start, Value.int v_value, Value.ref a_nameStart, Value.ref a_nameEnd, Value.int v_hasElse, Value.int v_hasLeast, Value.int v_hasFeel])), (a_text, Sum.inl (k_a_text, 900, Sum.inl f_a_text))] := hD
          have hP9 := hP.sub (ws' := [(o, Sum.inr (7, [Value.int v_length, Value.int v_faultKind, Value.int v_faultPlace, Value.ref o_into, Value.ref a_text, Value.int v1, Value.int 4, Value.int v_start, Value.int v_value, Value.ref a_nameStart, Value.ref a_nameEnd, Value.int v_hasElse, Value.int v_hasLeast, Value.int v_hasFeel])), (a_text, Sum.inl (k_a_text, 900, Sum.inl f_a_text))]) [0, 1] rfl
          have hD9 := hD.sub (ws' := [(o, Sum.inr (7, [Value.int v_length, Value.int v_faultKind, Value.int v_faultPlace, Value.ref o_into, Value.ref a_text, Value.int v1, Value.int 4, Value.int v_start, Value.int v_value, Value.ref a_nameStart, Value.ref a_nameEnd, Value.int v_hasElse, Value.int v_hasLeast, Value.int v_hasFeel])), (a_text, Sum.inl (k_a_text, 900, Sum.inl f_a_text))]) [0, 1] (by decide) rfl
          have bv_next := hv_next.u
          exact W.vret hx hb hr (fun t ht hW => ⟨⟨(), rfl, trivial, v1, 4, (iv.m (by omega)), (iv.m (by decide)), (by first | exact skI_stop1 hi0_0 (by omega) (by omega) | exact skI_stop2 hi0_0 (by omega) (by assumption) (by assumption) (by omega)), (by first | omega | (have hz4 : (4 : Int32).toInt = 4 := (by decide); omega)), by rw [ht]; exact hP9, hD9⟩, hS.F ht⟩) hS.2.2 dX7_takeRun_76
    · have c119 := i32_eq c11 rfl rfl
      refine lv_aload_n hx hb dX7_takeRun_30 rfl (lv_at hl 0 rfl) ?_
      refine lv_dup hx hb dX7_takeRun_31 rfl ?_
      refine va_get (D := (dC, dI)) (ci := 7) (v := Value.int v1) (C := RX7) (T := TX7) (N := 14) hx hb hts iw_X7_takeRun_X7 hown hK hP 0 rfl rfl 5 (by decide) (hts _ kk_X7_takeRun_0) (fun _ h9 => h9) rfl dX7_takeRun_32 ?_
      refine lv_iconst (v := 1) hx hb dX7_takeRun_35 (by decide) ?_
      refine lv_iadd hx hb dX7_takeRun_36 ?_
      refine lv_topi (fun x17 ex17 => ?_)
      have tx17 := i32_add ex17 rfl (show (1 : Int32).toInt = 1 by decide) (by omega) (by omega)
      refine va_put (D := (dC, dI)) (ci := 7) (v := Value.int x17) (ty := FieldType.int) (C := RX7) (T := TX7) (N := 14) hx hb hts iw_X7_takeRun_X7 tyX7 tyX7_ok nmX7 hown hK hP hD hS 0 rfl rfl 5 (by decide) (hts _ kk_X7_takeRun_0) (fun _ h9 => h9) rfl (by decide +kernel) rfl rfl (Nat.le_of_ble_eq_true rfl) dX7_takeRun_37 (fun H locs hP hD hS => ?_)
      have hP : va_P (dC, dI) vwCl [(o, Sum.inr (7, [Value.int v_length, Value.int v_faultKind, Value.int v_faultPlace, Value.ref o_into, Value.ref a_text, Value.int x17, Value.int v_token, Value.int v_start, Value.int v_value, Value.ref a_nameStart, Value.ref a_nameEnd, Value.int v_hasElse, Value.int v_hasLeast, Value.int v_hasFeel])), (a_text, Sum.inl (k_a_text, 900, Sum.inl f_a_text))] H := hP
      have hD : va_D A [(o, Sum.inr (7, [Value.int v_length, Value.int v_faultKind, Value.int v_faultPlace, Value.ref o_into, Value.ref a_text, Value.int x17, Value.int v_token, Value.int v_start, Value.int v_value, Value.ref a_nameStart, Value.ref a_nameEnd, Value.int v_hasElse, Value.int v_hasLeast, Value.int v_hasFeel])), (a_text, Sum.inl (k_a_text, 900, Sum.inl f_a_text))] := hD
      refine lv_goto (tgt := 0) hx hb dX7_takeRun_40 (by decide) ?_
      exact ih0 _ _ _ _ (ms_up hn0 tx17 (by decide) (by omega)) ⟨x17, rfl, (iv.m (by omega)), (by first | rfl | exact skI_step hi0_0 (by assumption) (by assumption) (by omega) (by omega) (by omega) (by omega)), hP, hD, hS, lv_sub hl [0] rfl⟩

set_option maxHeartbeats 4000000 in
set_option maxRecDepth 100000 in
theorem ct_X7_advance (l : Launch) (dC : Nat → ClassId) (dI : Nat → Nat → Nat) (o : Nat) (v_length : Int32) (v_faultKind : Int32) (v_faultPlace : Int32) (o_into : Nat) (a_text : Nat) (v_next : Int32) (v_token : Int32) (v_start : Int32) (v_value : Int32) (a_nameStart : Nat) (a_nameEnd : Nat) (v_hasElse : Int32) (v_hasLeast : Int32) (v_hasFeel : Int32) (k_a_text : ClassId) (f_a_text : Nat → Int32) (hv_length : iv v_length 0 900) (hv_next : iv v_next 0 900) (sz : Nat) : Met l yX7_advance wsX7_advance ({ frames := 2, cells := 0, slots := 0, locals := 41 }) (va_Pc [Value.ref o] (fun U => U.heap.size = sz ∧ va_P (dC, dI) vwCl [(o, Sum.inr (7, [Value.int v_length, Value.int v_faultKind, Value.int v_faultPlace, Value.ref o_into, Value.ref a_text, Value.int v_next, Value.int v_token, Value.int v_start, Value.int v_value, Value.ref a_nameStart, Value.ref a_nameEnd, Value.int v_hasElse, Value.int v_hasLeast, Value.int v_hasFeel])), (a_text, Sum.inl (k_a_text, 900, Sum.inl f_a_text))] U.heap ∧ va_K (dC, dI) vwCl [(k_a_text, FieldType.byte)] U ∧ va_D (fun _ => True) [(o, Sum.inr (7, [Value.int v_length, Value.int v_faultKind, Value.int v_faultPlace, Value.ref o_into, Value.ref a_text, Value.int v_next, Value.int v_token, Value.int v_start, Value.int v_value, Value.ref a_nameStart, Value.ref a_nameEnd, Value.int v_hasElse, Value.int v_hasLeast, Value.int v_hasFeel])), (a_text, Sum.inl (k_a_text, 900, Sum.inl f_a_text))])) (va_Qv (fun _ : Unit => True) (fun _ t => ∃ (e_v_next : Int32) (e_v_token : Int32) (e_v_start : Int32), iv e_v_next 0 900 ∧ iv e_v_token 0 5 ∧ iv e_v_start 0 900 ∧ (cuK f_a_text v_length.toNatClampNeg v_next.toNatClampNeg e_v_next e_v_token e_v_start) ∧ va_P (dC, dI) vwCl [(o, Sum.inr (7, [Value.int v_length, Value.int v_faultKind, Value.int v_faultPlace, Value.ref o_into, Value.ref a_text, Value.int e_v_next, Value.int e_v_token, Value.int e_v_start, Value.int v_value, Value.ref a_nameStart, Value.ref a_nameEnd, Value.int v_hasElse, Value.int v_hasLeast, Value.int v_hasFeel])), (a_text, Sum.inl (k_a_text, 900, Sum.inl f_a_text))] t.heap ∧ va_D (va_A [(o, Sum.inr (7, [Value.int v_length, Value.int v_faultKind, Value.int v_faultPlace, Value.ref o_into, Value.ref a_text, Value.int v_next, Value.int v_token, Value.int v_start, Value.int v_value, Value.ref a_nameStart, Value.ref a_nameEnd, Value.int v_hasElse, Value.int v_hasLeast, Value.int v_hasFeel])), (a_text, Sum.inl (k_a_text, 900, Sum.inl f_a_text))] sz) [(o, Sum.inr (7, [Value.int v_length, Value.int v_faultKind, Value.int v_faultPlace, Value.ref o_into, Value.ref a_text, Value.int e_v_next, Value.int e_v_token, Value.int e_v_start, Value.int v_value, Value.ref a_nameStart, Value.ref a_nameEnd, Value.int v_hasElse, Value.int v_hasLeast, Value.int v_hasFeel])), (a_text, Sum.inl (k_a_text, 900, Sum.inl f_a_text))]) (va_A [(o, Sum.inr (7, [Value.int v_length, Value.int v_faultKind, Value.int v_faultPlace, Value.ref o_into, Value.ref a_text, Value.int v_next, Value.int v_token, Value.int v_start, Value.int v_value, Value.ref a_nameStart, Value.ref a_nameEnd, Value.int v_hasElse, Value.int v_hasLeast, Value.int v_hasFeel])), (a_text, Sum.inl (k_a_text, 900, Sum.inl f_a_text))] sz)) 0 0 (va_A [(o, Sum.inr (7, [Value.int v_length, Value.int v_faultKind, Value.int v_faultPlace, Value.ref o_into, Value.ref a_text, Value.int v_next, Value.int v_token, Value.int v_start, Value.int v_value, Value.ref a_nameStart, Value.ref a_nameEnd, Value.int v_hasElse, Value.int v_hasLeast, Value.int v_hasFeel])), (a_text, Sum.inl (k_a_text, 900, Sum.inl f_a_text))] sz) := by
  refine Met.ofW (cc := cX7_advance) (maxL := 1) (ret := none) pn_X7 rfl ?_
  intro p e s m args below meth c s₁ B hml hv
  obtain ⟨rfl, hsz, hP, hK, hD0⟩ := hv
  have hx := B.exec
  have hb := B.bytes
  have hr := B.returns
  have hts := atoms_spec (ws := wsX7_advance) B.pre
  have hown : s.vm.findClass RX7 = some m.cls := findClass_of_methodNamed B.named
  have hlocks := B.notSynchronized
  subst hsz
  have hD := hD0.self (sz := s.heap.size)
  generalize hAe : va_A [(o, Sum.inr (7, [Value.int v_length, Value.int v_faultKind, Value.int v_faultPlace, Value.ref o_into, Value.ref a_text, Value.int v_next, Value.int v_token, Value.int v_start, Value.int v_value, Value.ref a_nameStart, Value.ref a_nameEnd, Value.int v_hasElse, Value.int v_hasLeast, Value.int v_hasFeel])), (a_text, Sum.inl (k_a_text, 900, Sum.inl f_a_text))] s.heap.size = A at hD ⊢
  have hA : ∀ q : Nat, s.heap.size ≤ q → A q := fun q h => by rw [← hAe]; exact Or.inr h
  have hS : va_S A s.heap s.heap [] := va_S.rf
  have hP : va_P (dC, dI) vwCl [(o, Sum.inr (7, [Value.int v_length, Value.int v_faultKind, Value.int v_faultPlace, Value.ref o_into, Value.ref a_text, Value.int v_next, Value.int v_token, Value.int v_start, Value.int v_value, Value.ref a_nameStart, Value.ref a_nameEnd, Value.int v_hasElse, Value.int v_hasLeast, Value.int v_hasFeel])), (a_text, Sum.inl (k_a_text, 900, Sum.inl f_a_text))] s.heap := hP
  have hl := lv_entry ([Value.ref o]) (n := 1) (Nat.le_of_ble_eq_true rfl)
  rw [lg_entry_eq]
  generalize (lg_sl ([Value.ref o]) ++ List.replicate (1 - (lg_sl ([Value.ref o])).length) Slot.unset).toArray = ls at hl ⊢
  have hl : lv_has ls 1 [(0, Value.ref o)] := hl
  refine tl_loop (I := fun nn H locs ls => ∃ (v1 : Int32), nn = (900 - v1.toInt).toNat ∧ iv v1 0 900 ∧ (skv f_a_text v_length.toNatClampNeg 5 v1.toNatClampNeg = skv f_a_text v_length.toNatClampNeg 5 v_next.toNatClampNeg) ∧  va_P (dC, dI) vwCl [(o, Sum.inr (7, [Value.int v_length, Value.int v_faultKind, Value.int v_faultPlace, Value.ref o_into, Value.ref a_text, Value.int v1, Value.int v_token, Value.int v_start, Value.int v_value, Value.ref a_nameStart, Value.ref a_nameEnd, Value.int v_hasElse, Value.int v_hasLeast, Value.int v_hasFeel])), (a_text, Sum.inl (k_a_text, 900, Sum.inl f_a_text))] H ∧ va_D A [(o, Sum.inr (7, [Value.int v_length, Value.int v_faultKind, Value.int v_faultPlace, Value.ref o_into, Value.ref a_text, Value.int v1, Value.int v_token, Value.int v_start, Value.int v_value, Value.ref a_nameStart, Value.ref a_nameEnd, Value.int v_hasElse, Value.int v_hasLeast, Value.int v_hasFeel])), (a_text, Sum.inl (k_a_text, 900, Sum.inl f_a_text))] ∧ va_S A s.heap H locs ∧ lv_has ls 1 [(0, Value.ref o)]) ?_ ⟨v_next, rfl, hv_next, (by first | rfl | exact skI_step hi0_0 (by assumption) (by assumption) (by omega) (by omega) (by omega) (by omega)), hP, hD, hS, lv_sub hl [0] rfl⟩
  clear hP hD hS hl
  intro nn0 H locs ls hI ih0
  obtain ⟨v1, hn0, hv1, hi0_0, hP, hD, hS, hl⟩ := hI
  refine lv_aload_n hx hb dX7_advance_0 rfl (lv_at hl 0 rfl) ?_
  refine va_get (D := (dC, dI)) (ci := 7) (v := Value.int v1) (C := RX7) (T := TX7) (N := 14) hx hb hts iw_X7_advance_X7 hown hK hP 0 rfl rfl 5 (by decide) (hts _ kk_X7_advance_0) (fun _ h9 => h9) rfl dX7_advance_1 ?_
  refine lv_aload_n hx hb dX7_advance_4 rfl (lv_at hl 0 rfl) ?_
  refine va_get (D := (dC, dI)) (ci := 7) (v := Value.int v_length) (C := RX7) (T := TX7) (N := 14) hx hb hts iw_X7_advance_X7 hown hK hP 0 rfl rfl 0 (by decide) (hts _ kk_X7_advance_1) (fun _ h9 => h9) rfl dX7_advance_5 ?_
  have bv1 := hv1.u
  have bv_length := hv_length.u
  refine lv_icmp_ge (tgt := 40) hx hb dX7_advance_8 (by decide) (fun c2 => ?_) (fun c2 => ?_)
  · have c29 := i32_le c2 rfl rfl
    refine lv_aload_n hx hb dX7_advance_40 rfl (lv_at hl 0 rfl) ?_
    refine lv_aload_n hx hb dX7_advance_41 rfl (lv_at hl 0 rfl) ?_
    refine va_get (D := (dC, dI)) (ci := 7) (v := Value.int v1) (C := RX7) (T := TX7) (N := 14) hx hb hts iw_X7_advance_X7 hown hK hP 0 rfl rfl 5 (by decide) (hts _ kk_X7_advance_0) (fun _ h9 => h9) rfl dX7_advance_42 ?_
    refine va_put (D := (dC, dI)) (ci := 7) (v := Value.int v1) (ty := FieldType.int) (C := RX7) (T := TX7) (N := 14) hx hb hts iw_X7_advance_X7 tyX7 tyX7_ok nmX7 hown hK hP hD hS 0 rfl rfl 7 (by decide) (hts _ kk_X7_advance_2) (fun _ h9 => h9) rfl (by decide +kernel) rfl rfl (Nat.le_of_ble_eq_true rfl) dX7_advance_45 (fun H locs hP hD hS => ?_)
    have hP : va_P (dC, dI) vwCl [(o, Sum.inr (7, [Value.int v_length, Value.int v_faultKind, Value.int v_faultPlace, Value.ref o_into, Value.ref a_text, Value.int v1, Value.int v_token, Value.int v1, Value.int v_value, Value.ref a_nameStart, Value.ref a_nameEnd, Value.int v_hasElse, Value.int v_hasLeast, Value.int v_hasFeel])), (a_text, Sum.inl (k_a_text, 900, Sum.inl f_a_text))] H := hP
    have hD : va_D A [(o, Sum.inr (7, [Value.int v_length, Value.int v_faultKind, Value.int v_faultPlace, Value.ref o_into, Value.ref a_text, Value.int v1, Value.int v_token, Value.int v1, Value.int v_value, Value.ref a_nameStart, Value.ref a_nameEnd, Value.int v_hasElse, Value.int v_hasLeast, Value.int v_hasFeel])), (a_text, Sum.inl (k_a_text, 900, Sum.inl f_a_text))] := hD
    refine lv_aload_n hx hb dX7_advance_48 rfl (lv_at hl 0 rfl) ?_
    refine va_get (D := (dC, dI)) (ci := 7) (v := Value.int v1) (C := RX7) (T := TX7) (N := 14) hx hb hts iw_X7_advance_X7 hown hK hP 0 rfl rfl 5 (by decide) (hts _ kk_X7_advance_0) (fun _ h9 => h9) rfl dX7_advance_49 ?_
    refine lv_aload_n hx hb dX7_advance_52 rfl (lv_at hl 0 rfl) ?_
    refine va_get (D := (dC, dI)) (ci := 7) (v := Value.int v_length) (C := RX7) (T := TX7) (N := 14) hx hb hts iw_X7_advance_X7 hown hK hP 0 rfl rfl 0 (by decide) (hts _ kk_X7_advance_1) (fun _ h9 => h9) rfl dX7_advance_53 ?_
    refine lv_icmp_lt (tgt := 65) hx hb dX7_advance_56 (by decide) (fun c3 => ?_) (fun c3 => ?_)
    · have c39 := i32_lt c3 rfl rfl
      refine lv_aload_n hx hb dX7_advance_65 rfl (lv_at hl 0 rfl) ?_
      refine lv_aload_n hx hb dX7_advance_66 rfl (lv_at hl 0 rfl) ?_
      refine va_get (D := (dC, dI)) (ci := 7) (v := Value.ref a_text) (C := RX7) (T := TX7) (N := 14) hx hb hts iw_X7_advance_X7 hown hK hP 0 rfl rfl 4 (by decide) (hts _ kk_X7_advance_3) (fun _ h9 => h9) rfl dX7_advance_67 ?_
      refine lv_aload_n hx hb dX7_advance_70 rfl (lv_at hl 0 rfl) ?_
      refine va_get (D := (dC, dI)) (ci := 7) (v := Value.int v1) (C := RX7) (T := TX7) (N := 14) hx hb hts iw_X7_advance_X7 hown hK hP 0 rfl rfl 5 (by decide) (hts _ kk_X7_advance_0) (fun _ h9 => h9) rfl dX7_advance_71 ?_
      refine va_bald hx hb hK hP 1 0 rfl rfl (vq_in v1 900 (by omega)) dX7_advance_74 ?_
      refine lv_topi (fun x4 ex4 => ?_)
      have hPc := hP.sub (ws' := []) [] rfl
      have hDc := hD.sub (ws' := []) [] (by decide) rfl
      have hKc := hK.sub (tys' := []) [] rfl
      have hFc := va_free (wc := []) hD hS hA [] rfl
      refine va_calli (va_runS (As := [Value.int x4]) (rest := [Value.ref o]) ⟨hx, hb, hml, hown, hts⟩ (ct_X7_kindOf l dC dI x4 H.size) (va_cwS 1 hts gX7_advance_X7_kindOf rfl rfl rfl ⟨cn_X7.1, cn_X7.2, ds_32⟩ ⟨Nat.le_of_ble_eq_true rfl, Nat.le_of_ble_eq_true rfl⟩) ⟨fun a U g mk q => by obtain ⟨q0, q1, qP, qK, qD⟩ := q; exact ⟨q0, q1, qP, va_K.moved (u := U) (U := U.calling g mk a) (Vm.Alike.refl U.vm) qK, qD⟩, fun U hU hW => ⟨rfl, by rw [hU], by rw [hU]; exact hPc, va_K.moved hW.alike hKc, hDc.weaken (fun _ _ _ _ => trivial)⟩⟩ rfl rfl hl.1 rfl (lv_room (Nat.le_of_ble_eq_true rfl)) dX7_advance_75 ⟨Nat.le_of_ble_eq_true rfl, Nat.le_of_ble_eq_true rfl⟩) hS (fun q _ h => hFc q h) hFc (fun r5 u t H1 locs ht hvm hw hB hz1 hk1 hS => ?_)
      have hw : r5 = u := hw.symm
      subst hw
      obtain ⟨hr5, w6, hP1, hD1⟩ := hB
      rw [ht] at hP1
      obtain ⟨hP, hD⟩ := va_join (wr := [(o, Sum.inr (7, [Value.int v_length, Value.int v_faultKind, Value.int v_faultPlace, Value.ref o_into, Value.ref a_text, Value.int v1, Value.int v_token, Value.int v1, Value.int v_value, Value.ref a_nameStart, Value.ref a_nameEnd, Value.int v_hasElse, Value.int v_hasLeast, Value.int v_hasFeel])), (a_text, Sum.inl (k_a_text, 900, Sum.inl f_a_text))]) (w1 := []) hP hD [] [0, 1] rfl rfl (by decide) (by decide) hk1 hFc hP1 hD1
      clear hPc hDc hKc hFc hP1 hD1 hk1 hz1
      generalize H1 = H at hP hS ⊢
      have hP : va_P (dC, dI) vwCl [(o, Sum.inr (7, [Value.int v_length, Value.int v_faultKind, Value.int v_faultPlace, Value.ref o_into, Value.ref a_text, Value.int v1, Value.int v_token, Value.int v1, Value.int v_value, Value.ref a_nameStart, Value.ref a_nameEnd, Value.int v_hasElse, Value.int v_hasLeast, Value.int v_hasFeel])), (a_text, Sum.inl (k_a_text, 900, Sum.inl f_a_text))] H := hP
      have hD : va_D A [(o, Sum.inr (7, [Value.int v_length, Value.int v_faultKind, Value.int v_faultPlace, Value.ref o_into, Value.ref a_text, Value.int v1, Value.int v_token, Value.int v1, Value.int v_value, Value.ref a_nameStart, Value.ref a_nameEnd, Value.int v_hasElse, Value.int v_hasLeast, Value.int v_hasFeel])), (a_text, Sum.inl (k_a_text, 900, Sum.inl f_a_text))] := hD
      refine W.widen (k := 0) (n := 0) (by decide) (by decide) ?_
      have br5 := hr5.u
      refine va_put (D := (dC, dI)) (ci := 7) (v := Value.int r5) (ty := FieldType.int) (C := RX7) (T := TX7) (N := 14) hx hb hts iw_X7_advance_X7 tyX7 tyX7_ok nmX7 hown hK hP hD hS 0 rfl rfl 6 (by decide) (hts _ kk_X7_advance_4) (fun _ h9 => h9) rfl (by decide +kernel) rfl rfl (Nat.le_of_ble_eq_true rfl) dX7_advance_78 (fun H locs hP hD hS => ?_)
      have hP : va_P (dC, dI) vwCl [(o, Sum.inr (7, [Value.int v_length, Value.int v_faultKind, Value.int v_faultPlace, Value.ref o_into, Value.ref a_text, Value.int v1, Value.int r5, Value.int v1, Value.int v_value, Value.ref a_nameStart, Value.ref a_nameEnd, Value.int v_hasElse, Value.int v_hasLeast, Value.int v_hasFeel])), (a_text, Sum.inl (k_a_text, 900, Sum.inl f_a_text))] H := hP
      have hD : va_D A [(o, Sum.inr (7, [Value.int v_length, Value.int v_faultKind, Value.int v_faultPlace, Value.ref o_into, Value.ref a_text, Value.int v1, Value.int r5, Value.int v1, Value.int v_value, Value.ref a_nameStart, Value.ref a_nameEnd, Value.int v_hasElse, Value.int v_hasLeast, Value.int v_hasFeel])), (a_text, Sum.inl (k_a_text, 900, Sum.inl f_a_text))] := hD
      refine lv_aload_n hx hb dX7_advance_81 rfl (lv_at hl 0 rfl) ?_
      refine lv_dup hx hb dX7_advance_82 rfl ?_
      refine va_get (D := (dC, dI)) (ci := 7) (v := Value.int v1) (C := RX7) (T := TX7) (N := 14) hx hb hts iw_X7_advance_X7 hown hK hP 0 rfl rfl 5 (by decide) (hts _ kk_X7_advance_0) (fun _ h9 => h9) rfl dX7_advance_83 ?_
      refine lv_iconst (v := 1) hx hb dX7_advance_86 (by decide) ?_
      refine lv_iadd hx hb dX7_advance_87 ?_
      refine lv_topi (fun x7 ex7 => ?_)
      have tx7 := i32_add ex7 rfl (show (1 : Int32).toInt = 1 by decide) (by omega) (by omega)
      refine va_put (D := (dC, dI)) (ci := 7) (v := Value.int x7) (ty := FieldType.int) (C := RX7) (T := TX7) (N := 14) hx hb hts iw_X7_advance_X7 tyX7 tyX7_ok nmX7 hown hK hP hD hS 0 rfl rfl 5 (by decide) (hts _ kk_X7_advance_0) (fun _ h9 => h9) rfl (by decide +kernel) rfl rfl (Nat.le_of_ble_eq_true rfl) dX7_advance_88 (fun H locs hP hD hS => ?_)
      have hP : va_P (dC, dI) vwCl [(o, Sum.inr (7, [Value.int v_length, Value.int v_faultKind, Value.int v_faultPlace, Value.ref o_into, Value.ref a_text, Value.int x7, Value.int r5, Value.int v1, Value.int v_value, Value.ref a_nameStart, Value.ref a_nameEnd, Value.int v_hasElse, Value.int v_hasLeast, Value.int v_hasFeel])), (a_text, Sum.inl (k_a_text, 900, Sum.inl f_a_text))] H := hP
      have hD : va_D A [(o, Sum.inr (7, [Value.int v_length, Value.int v_faultKind, Value.int v_faultPlace, Value.ref o_into, Value.ref a_text, Value.int x7, Value.int r5, Value.int v1, Value.int v_value, Value.ref a_nameStart, Value.ref a_nameEnd, Value.int v_hasElse, Value.int v_hasLeast, Value.int v_hasFeel])), (a_text, Sum.inl (k_a_text, 900, Sum.inl f_a_text))] := hD
      refine lv_aload_n hx hb dX7_advance_91 rfl (lv_at hl 0 rfl) ?_
      refine va_get (D := (dC, dI)) (ci := 7) (v := Value.int r5) (C := RX7) (T := TX7) (N := 14) hx hb hts iw_X7_advance_X7 hown hK hP 0 rfl rfl 6 (by decide) (hts _ kk_X7_advance_4) (fun _ h9 => h9) rfl dX7_advance_92 ?_
      refine lv_iconst (v := 1) hx hb dX7_advance_95 (by decide) ?_
      refine lv_icmp_eq (tgt := 107) hx hb dX7_advance_96 (by decide) (fun c8 => ?_) (fun c8 => ?_)
      · have c89 := i32_eq c8 rfl (show (1 : Int32).toInt = 1 by decide)
        refine lv_aload_n hx hb dX7_advance_107 rfl (lv_at hl 0 rfl) ?_
        have hPc := hP.sub (ws' := [(o, Sum.inr (7, [Value.int v_length, Value.int v_faultKind, Value.int v_faultPlace, Value.ref o_into, Value.ref a_text, Value.int x7, Value.int r5, Value.int v1, Value.int v_value, Value.ref a_nameStart, Value.ref a_nameEnd, Value.int v_hasElse, Value.int v_hasLeast, Value.int v_hasFeel])), (a_text, Sum.inl (k_a_text, 900, Sum.inl f_a_text))]) [0, 1] rfl
        have hDc := hD.sub (ws' := [(o, Sum.inr (7, [Value.int v_length, Value.int v_faultKind, Value.int v_faultPlace, Value.ref o_into, Value.ref a_text, Value.int x7, Value.int r5, Value.int v1, Value.int v_value, Value.ref a_nameStart, Value.ref a_nameEnd, Value.int v_hasElse, Value.int v_hasLeast, Value.int v_hasFeel])), (a_text, Sum.inl (k_a_text, 900, Sum.inl f_a_text))]) [0, 1] (by decide) rfl
        have hKc := hK.sub (tys' := [(k_a_text, FieldType.byte)]) [0] rfl
        have hFc := va_free (wc := [(o, Sum.inr (7, [Value.int v_length, Value.int v_faultKind, Value.int v_faultPlace, Value.ref o_into, Value.ref a_text, Value.int x7, Value.int r5, Value.int v1, Value.int v_value, Value.ref a_nameStart, Value.ref a_nameEnd, Value.int v_hasElse, Value.int v_hasLeast, Value.int v_hasFeel])), (a_text, Sum.inl (k_a_text, 900, Sum.inl f_a_text))]) hD hS hA [0, 1] rfl
        refine va_callv (va_runV (As := []) (rest := []) ⟨hx, hb, hml, hown, hts⟩ (ct_X7_takeRun l dC dI o v_length v_faultKind v_faultPlace o_into a_text x7 r5 v1 v_value a_nameStart a_nameEnd v_hasElse v_hasLeast v_hasFeel k_a_text f_a_text (iv.m (by omega)) (iv.m (by omega)) (iv.m (by omega)) (iv.m (by omega)) (by omega) H.size) (cwV 0 hts gX7_advance_X7_takeRun rfl rfl rfl ⟨rfl, cn_X7.1, cn_X7.2, ds_7⟩ ⟨Nat.le_of_ble_eq_true rfl, Nat.le_of_ble_eq_true rfl⟩) ⟨fun a U g mk q => by obtain ⟨q0, q1, qP, qK, qD⟩ := q; exact ⟨q0, q1, qP, va_K.moved (u := U) (U := U.calling g mk a) (Vm.Alike.refl U.vm) qK, qD⟩, va_recv hKc hPc (ci := 7) (q0 := 0) rfl rfl, fun U hU hW => ⟨rfl, by rw [hU], by rw [hU]; exact hPc, va_K.moved hW.alike hKc, hDc.weaken (fun _ _ _ _ => trivial)⟩⟩ rfl rfl hl.1 rfl (lv_room (Nat.le_of_ble_eq_true rfl)) dX7_advance_108 ⟨Nat.le_of_ble_eq_true rfl, Nat.le_of_ble_eq_true rfl⟩) hS (fun q _ h => hFc q h) hFc (fun u t H1 locs ht hvm hw hB hz1 hk1 hS => ?_)
        obtain ⟨v10, v11, hv10, hv11, w12, w13, hP1, hD1⟩ := hB
        rw [ht] at hP1
        obtain ⟨hP, hD⟩ := va_join (wr := []) (w1 := [(o, Sum.inr (7, [Value.int v_length, Value.int v_faultKind, Value.int v_faultPlace, Value.ref o_into, Value.ref a_text, Value.int v10, Value.int v11, Value.int v1, Value.int v_value, Value.ref a_nameStart, Value.ref a_nameEnd, Value.int v_hasElse, Value.int v_hasLeast, Value.int v_hasFeel])), (a_text, Sum.inl (k_a_text, 900, Sum.inl f_a_text))]) hP hD [0, 1] [] rfl rfl (by decide) (by decide) hk1 hFc hP1 hD1
        clear hPc hDc hKc hFc hP1 hD1 hk1 hz1
        generalize H1 = H at hP hS ⊢
        have hP : va_P (dC, dI) vwCl [(o, Sum.inr (7, [Value.int v_length, Value.int v_faultKind, Value.int v_faultPlace, Value.ref o_into, Value.ref a_text, Value.int v10, Value.int v11, Value.int v1, Value.int v_value, Value.ref a_nameStart, Value.ref a_nameEnd, Value.int v_hasElse, Value.int v_hasLeast, Value.int v_hasFeel])), (a_text, Sum.inl (k_a_text, 900, Sum.inl f_a_text))] H := hP
        have hD : va_D A [(o, Sum.inr (7, [Value.int v_length, Value.int v_faultKind, Value.int v_faultPlace, Value.ref o_into, Value.ref a_text, Value.int v10, Value.int v11, Value.int v1, Value.int v_value, Value.ref a_nameStart, Value.ref a_nameEnd, Value.int v_hasElse, Value.int v_hasLeast, Value.int v_hasFeel])), (a_text, Sum.inl (k_a_text, 900, Sum.inl f_a_text))] := hD
        refine W.widen (k := 0) (n := 0) (by decide) (by decide) ?_
        have hP9 := hP.sub (ws' := [(o, Sum.inr (7, [Value.int v_length, Value.int v_faultKind, Value.int v_faultPlace, Value.ref o_into, Value.ref a_text, Value.int v10, Value.int v11, Value.int v1, Value.int v_value, Value.ref a_nameStart, Value.ref a_nameEnd, Value.int v_hasElse, Value.int v_hasLeast, Value.int v_hasFeel])), (a_text, Sum.inl (k_a_text, 900, Sum.inl f_a_text))]) [0, 1] rfl
        have hD9 := hD.sub (ws' := [(o, Sum.inr (7, [Value.int v_length, Value.int v_faultKind, Value.int v_faultPlace, Value.ref o_into, Value.ref a_text, Value.int v10, Value.int v11, Value.int v1, Value.int v_value, Value.ref a_nameStart, Value.ref a_nameEnd, Value.int v_hasElse, Value.int v_hasLeast, Value.int v_hasFeel])), (a_text, Sum.inl (k_a_text, 900, Sum.inl f_a_text))]) [0, 1] (by decide) rfl
        have bv_next := hv_next.u
        exact W.vret hx hb hr (fun t ht hW => ⟨⟨(), rfl, trivial, v10, v11, v1, hv10, hv11, (iv.m (by omega)), (by first | exact adv_end hi0_0 (by omega) (by omega) (by omega) | exact adv_run hi0_0 (by assumption) (by assumption) (by assumption) (by assumption) (by omega) (by omega) (by omega) (by omega) | exact adv_one hi0_0 (by assumption) (by assumption) (by omega) (by omega) (by omega) (by omega) (by omega) (by omega)), by rw [ht]; exact hP9, hD9⟩, hS.F ht⟩) hS.2.2 dX7_advance_111
      · have c89 := i32_ne c8 rfl (show (1 : Int32).toInt = 1 by decide)
        refine lv_aload_n hx hb dX7_advance_99 rfl (lv_at hl 0 rfl) ?_
        refine va_get (D := (dC, dI)) (ci := 7) (v := Value.int r5) (C := RX7) (T := TX7) (N := 14) hx hb hts iw_X7_advance_X7 hown hK hP 0 rfl rfl 6 (by decide) (hts _ kk_X7_advance_4) (fun _ h9 => h9) rfl dX7_advance_100 ?_
        refine lv_iconst (v := 2) hx hb dX7_advance_103 (by decide) ?_
        refine lv_icmp_ne (tgt := 111) hx hb dX7_advance_104 (by decide) (fun c14 => ?_) (fun c14 => ?_)
        · have c149 := i32_ne c14 rfl (show (2 : Int32).toInt = 2 by decide)
          have hP9 := hP.sub (ws' := [(o, Sum.inr (7, [Value.int v_length, Value.int v_faultKind, Value.int v_faultPlace, Value.ref o_into, Value.ref a_text, Value.int x7, Value.int r5, Value.int v1, Value.int v_value, Value.ref a_nameStart, Value.ref a_nameEnd, Value.int v_hasElse, Value.int v_hasLeast, Value.int v_hasFeel])), (a_text, Sum.inl (k_a_text, 900, Sum.inl f_a_text))]) [0, 1] rfl
          have hD9 := hD.sub (ws' := [(o, Sum.inr (7, [Value.int v_length, Value.int v_faultKind, Value.int v_faultPlace, Value.ref o_into, Value.ref a_text, Value.int x7, Value.int r5, Value.int v1, Value.int v_value, Value.ref a_nameStart, Value.ref a_nameEnd, Value.int v_hasElse, Value.int v_hasLeast, Value.int v_hasFeel])), (a_text, Sum.inl (k_a_text, 900, Sum.inl f_a_text))]) [0, 1] (by decide) rfl
          have bv_next := hv_next.u
          exact W.vret hx hb hr (fun t ht hW => ⟨⟨(), rfl, trivial, x7, r5, v1, (iv.m (by omega)), (iv.m (by omega)), (iv.m (by omega)), (by first | exact adv_end hi0_0 (by omega) (by omega) (by omega) | exact adv_run hi0_0 (by assumption) (by assumption) (by assumption) (by assumption) (by omega) (by omega) (by omega) (by omega) | exact adv_one hi0_0 (by assumption) (by assumption) (by omega) (by omega) (by omega) (by omega) (by omega) (by omega)), by rw [ht]; exact hP9, hD9⟩, hS.F ht⟩) hS.2.2 dX7_advance_111
        · have c149 := i32_eq c14 rfl (show (2 : Int32).toInt = 2 by decide)
          refine lv_aload_n hx hb dX7_advance_107 rfl (lv_at hl 0 rfl) ?_
          have hPc := hP.sub (ws' := [(o, Sum.inr (7, [Value.int v_length, Value.int v_faultKind, Value.int v_faultPlace, Value.ref o_into, Value.ref a_text, Value.int x7, Value.int r5, Value.int v1, Value.int v_value, Value.ref a_nameStart, Value.ref a_nameEnd, Value.int v_hasElse, Value.int v_hasLeast, Value.int v_hasFeel])), (a_text, Sum.inl (k_a_text, 900, Sum.inl f_a_text))]) [0, 1] rfl
          have hDc := hD.sub (ws' := [(o, Sum.inr (7, [Value.int v_length, Value.int v_faultKind, Value.int v_faultPlace, Value.ref o_into, Value.ref a_text, Value.int x7, Value.int r5, Value.int v1, Value.int v_value, Value.ref a_nameStart, Value.ref a_nameEnd, Value.int v_hasElse, Value.int v_hasLeast, Value.int v_hasFeel])), (a_text, Sum.inl (k_a_text, 900, Sum.inl f_a_text))]) [0, 1] (by decide) rfl
          have hKc := hK.sub (tys' := [(k_a_text, FieldType.byte)]) [0] rfl
          have hFc := va_free (wc := [(o, Sum.inr (7, [Value.int v_length, Value.int v_faultKind, Value.int v_faultPlace, Value.ref o_into, Value.ref a_text, Value.int x7, Value.int r5, Value.int v1, Value.int v_value, Value.ref a_nameStart, Value.ref a_nameEnd, Value.int v_hasElse, Value.int v_hasLeast, Value.int v_hasFeel])), (a_text, Sum.inl (k_a_text, 900, Sum.inl f_a_text))]) hD hS hA [0, 1] rfl
          refine va_callv (va_runV (As := []) (rest := []) ⟨hx, hb, hml, hown, hts⟩ (ct_X7_takeRun l dC dI o v_length v_faultKind v_faultPlace o_into a_text x7 r5 v1 v_value a_nameStart a_nameEnd v_hasElse v_hasLeast v_hasFeel k_a_text f_a_text (iv.m (by omega)) (iv.m (by omega)) (iv.m (by omega)) (iv.m (by omega)) (by omega) H.size) (cwV 0 hts gX7_advance_X7_takeRun rfl rfl rfl ⟨rfl, cn_X7.1, cn_X7.2, ds_7⟩ ⟨Nat.le_of_ble_eq_true rfl, Nat.le_of_ble_eq_true rfl⟩) ⟨fun a U g mk q => by obtain ⟨q0, q1, qP, qK, qD⟩ := q; exact ⟨q0, q1, qP, va_K.moved (u := U) (U := U.calling g mk a) (Vm.Alike.refl U.vm) qK, qD⟩, va_recv hKc hPc (ci := 7) (q0 := 0) rfl rfl, fun U hU hW => ⟨rfl, by rw [hU], by rw [hU]; exact hPc, va_K.moved hW.alike hKc, hDc.weaken (fun _ _ _ _ => trivial)⟩⟩ rfl rfl hl.1 rfl (lv_room (Nat.le_of_ble_eq_true rfl)) dX7_advance_108 ⟨Nat.le_of_ble_eq_true rfl, Nat.le_of_ble_eq_true rfl⟩) hS (fun q _ h => hFc q h) hFc (fun u t H1 locs ht hvm hw hB hz1 hk1 hS => ?_)
          obtain ⟨v16, v17, hv16, hv17, w18, w19, hP1, hD1⟩ := hB
          rw [ht] at hP1
          obtain ⟨hP, hD⟩ := va_join (wr := []) (w1 := [(o, Sum.inr (7, [Value.int v_length, Value.int v_faultKind, Value.int v_faultPlace, Value.ref o_into, Value.ref a_text, Value.int v16, Value.int v17, Value.int v1, Value.int v_value, Value.ref a_nameStart, Value.ref a_nameEnd, Value.int v_hasElse, Value.int v_hasLeast, Value.int v_hasFeel])), (a_text, Sum.inl (k_a_text, 900, Sum.inl f_a_text))]) hP hD [0, 1] [] rfl rfl (by decide) (by decide) hk1 hFc hP1 hD1
          clear hPc hDc hKc hFc hP1 hD1 hk1 hz1
          generalize H1 = H at hP hS ⊢
          have hP : va_P (dC, dI) vwCl [(o, Sum.inr (7, [Value.int v_length, Value.int v_faultKind, Value.int v_faultPlace, Value.ref o_into, Value.ref a_text, Value.int v16, Value.int v17, Value.int v1, Value.int v_value, Value.ref a_nameStart, Value.ref a_nameEnd, Value.int v_hasElse, Value.int v_hasLeast, Value.int v_hasFeel])), (a_text, Sum.inl (k_a_text, 900, Sum.inl f_a_text))] H := hP
          have hD : va_D A [(o, Sum.inr (7, [Value.int v_length, Value.int v_faultKind, Value.int v_faultPlace, Value.ref o_into, Value.ref a_text, Value.int v16, Value.int v17, Value.int v1, Value.int v_value, Value.ref a_nameStart, Value.ref a_nameEnd, Value.int v_hasElse, Value.int v_hasLeast, Value.int v_hasFeel])), (a_text, Sum.inl (k_a_text, 900, Sum.inl f_a_text))] := hD
          refine W.widen (k := 0) (n := 0) (by decide) (by decide) ?_
          have hP9 := hP.sub (ws' := [(o, Sum.inr (7, [Value.int v_length, Value.int v_faultKind, Value.int v_faultPlace, Value.ref o_into, Value.ref a_text, Value.int v16, Value.int v17, Value.int v1, Value.int v_value, Value.ref a_nameStart, Value.ref a_nameEnd, Value.int v_hasElse, Value.int v_hasLeast, Value.int v_hasFeel])), (a_text, Sum.inl (k_a_text, 900, Sum.inl f_a_text))]) [0, 1] rfl
          have hD9 := hD.sub (ws' := [(o, Sum.inr (7, [Value.int v_length, Value.int v_faultKind, Value.int v_faultPlace, Value.ref o_into, Value.ref a_text, Value.int v16, Value.int v17, Value.int v1, Value.int v_value, Value.ref a_nameStart, Value.ref a_nameEnd, Value.int v_hasElse, Value.int v_hasLeast, Value.int v_hasFeel])), (a_text, Sum.inl (k_a_text, 900, Sum.inl f_a_text))]) [0, 1] (by decide) rfl
          have bv_next := hv_next.u
          exact W.vret hx hb hr (fun t ht hW => ⟨⟨(), rfl, trivial, v16, v17, v1, hv16, hv17, (iv.m (by omega)), (by first | exact adv_end hi0_0 (by omega) (by omega) (by omega) | exact adv_run hi0_0 (by assumption) (by assumption) (by assumption) (by assumption) (by omega) (by omega) (by omega) (by omega) | exact adv_one hi0_0 (by assumption) (by assumption) (by omega) (by omega) (by omega) (by omega) (by omega) (by omega)), by rw [ht]; exact hP9, hD9⟩, hS.F ht⟩) hS.2.2 dX7_advance_111
    · have c39 := i32_nlt c3 rfl rfl
      refine lv_aload_n hx hb dX7_advance_59 rfl (lv_at hl 0 rfl) ?_
      refine lv_iconst (v := 0) hx hb dX7_advance_60 (by decide) ?_
      refine va_put (D := (dC, dI)) (ci := 7) (v := Value.int 0) (ty := FieldType.int) (C := RX7) (T := TX7) (N := 14) hx hb hts iw_X7_advance_X7 tyX7 tyX7_ok nmX7 hown hK hP hD hS 0 rfl rfl 6 (by decide) (hts _ kk_X7_advance_4) (fun _ h9 => h9) rfl (by decide +kernel) rfl rfl (Nat.le_of_ble_eq_true rfl) dX7_advance_61 (fun H locs hP hD hS => ?_)
      have hP : va_P (dC, dI) vwCl [(o, Sum.inr (7, [Value.int v_length, Value.int v_faultKind, Value.int v_faultPlace, Value.ref o_into, Value.ref a_text, Value.int v1, Value.int 0, Value.int v1, Value.int v_value, Value.ref a_nameStart, Value.ref a_nameEnd, Value.int v_hasElse, Value.int v_hasLeast, Value.int v_hasFeel])), (a_text, Sum.inl (k_a_text, 900, Sum.inl f_a_text))] H := hP
      have hD : va_D A [(o, Sum.inr (7, [Value.int v_length, Value.int v_faultKind, Value.int v_faultPlace, Value.ref o_into, Value.ref a_text, Value.int v1, Value.int 0, Value.int v1, Value.int v_value, Value.ref a_nameStart, Value.ref a_nameEnd, Value.int v_hasElse, Value.int v_hasLeast, Value.int v_hasFeel])), (a_text, Sum.inl (k_a_text, 900, Sum.inl f_a_text))] := hD
      have hP9 := hP.sub (ws' := [(o, Sum.inr (7, [Value.int v_length, Value.int v_faultKind, Value.int v_faultPlace, Value.ref o_into, Value.ref a_text, Value.int v1, Value.int 0, Value.int v1, Value.int v_value, Value.ref a_nameStart, Value.ref a_nameEnd, Value.int v_hasElse, Value.int v_hasLeast, Value.int v_hasFeel])), (a_text, Sum.inl (k_a_text, 900, Sum.inl f_a_text))]) [0, 1] rfl
      have hD9 := hD.sub (ws' := [(o, Sum.inr (7, [Value.int v_length, Value.int v_faultKind, Value.int v_faultPlace, Value.ref o_into, Value.ref a_text, Value.int v1, Value.int 0, Value.int v1, Value.int v_value, Value.ref a_nameStart, Value.ref a_nameEnd, Value.int v_hasElse, Value.int v_hasLeast, Value.int v_hasFeel])), (a_text, Sum.inl (k_a_text, 900, Sum.inl f_a_text))]) [0, 1] (by decide) rfl
      have bv_next := hv_next.u
      exact W.vret hx hb hr (fun t ht hW => ⟨⟨(), rfl, trivial, v1, 0, v1, hv1, (iv.m (by decide)), hv1, (by first | exact adv_end hi0_0 (by omega) (by omega) (by omega) | exact adv_run hi0_0 (by assumption) (by assumption) (by assumption) (by assumption) (by omega) (by omega) (by omega) (by omega) | exact adv_one hi0_0 (by assumption) (by assumption) (by omega) (by omega) (by omega) (by omega) (by omega) (by omega)), by rw [ht]; exact hP9, hD9⟩, hS.F ht⟩) hS.2.2 dX7_advance_64
  · have c29 := i32_nle c2 rfl rfl
    refine lv_aload_n hx hb dX7_advance_11 rfl (lv_at hl 0 rfl) ?_
    refine va_get (D := (dC, dI)) (ci := 7) (v := Value.ref a_text) (C := RX7) (T := TX7) (N := 14) hx hb hts iw_X7_advance_X7 hown hK hP 0 rfl rfl 4 (by decide) (hts _ kk_X7_advance_3) (fun _ h9 => h9) rfl dX7_advance_12 ?_
    refine lv_aload_n hx hb dX7_advance_15 rfl (lv_at hl 0 rfl) ?_
    refine va_get (D := (dC, dI)) (ci := 7) (v := Value.int v1) (C := RX7) (T := TX7) (N := 14) hx hb hts iw_X7_advance_X7 hown hK hP 0 rfl rfl 5 (by decide) (hts _ kk_X7_advance_0) (fun _ h9 => h9) rfl dX7_advance_16 ?_
    refine va_bald hx hb hK hP 1 0 rfl rfl (vq_in v1 900 (by omega)) dX7_advance_19 ?_
    refine lv_topi (fun x20 ex20 => ?_)
    have hPc := hP.sub (ws' := []) [] rfl
    have hDc := hD.sub (ws' := []) [] (by decide) rfl
    have hKc := hK.sub (tys' := []) [] rfl
    have hFc := va_free (wc := []) hD hS hA [] rfl
    refine va_calli (va_runS (As := [Value.int x20]) (rest := []) ⟨hx, hb, hml, hown, hts⟩ (ct_X7_kindOf l dC dI x20 H.size) (va_cwS 1 hts gX7_advance_X7_kindOf rfl rfl rfl ⟨cn_X7.1, cn_X7.2, ds_32⟩ ⟨Nat.le_of_ble_eq_true rfl, Nat.le_of_ble_eq_true rfl⟩) ⟨fun a U g mk q => by obtain ⟨q0, q1, qP, qK, qD⟩ := q; exact ⟨q0, q1, qP, va_K.moved (u := U) (U := U.calling g mk a) (Vm.Alike.refl U.vm) qK, qD⟩, fun U hU hW => ⟨rfl, by rw [hU], by rw [hU]; exact hPc, va_K.moved hW.alike hKc, hDc.weaken (fun _ _ _ _ => trivial)⟩⟩ rfl rfl hl.1 rfl (lv_room (Nat.le_of_ble_eq_true rfl)) dX7_advance_20 ⟨Nat.le_of_ble_eq_true rfl, Nat.le_of_ble_eq_true rfl⟩) hS (fun q _ h => hFc q h) hFc (fun r21 u t H1 locs ht hvm hw hB hz1 hk1 hS => ?_)
    have hw : r21 = u := hw.symm
    subst hw
    obtain ⟨hr21, w22, hP1, hD1⟩ := hB
    rw [ht] at hP1
    obtain ⟨hP, hD⟩ := va_join (wr := [(o, Sum.inr (7, [Value.int v_length, Value.int v_faultKind, Value.int v_faultPlace, Value.ref o_into, Value.ref a_text, Value.int v1, Value.int v_token, Value.int v_start, Value.int v_value, Value.ref a_nameStart, Value.ref a_nameEnd, Value.int v_hasElse, Value.int v_hasLeast, Value.int v_hasFeel])), (a_text, Sum.inl (k_a_text, 900, Sum.inl f_a_text))]) (w1 := []) hP hD [] [0, 1] rfl rfl (by decide) (by decide) hk1 hFc hP1 hD1
    clear hPc hDc hKc hFc hP1 hD1 hk1 hz1
    generalize H1 = H at hP hS ⊢
    have hP : va_P (dC, dI) vwCl [(o, Sum.inr (7, [Value.int v_length, Value.int v_faultKind, Value.int v_faultPlace, Value.ref o_into, Value.ref a_text, Value.int v1, Value.int v_token, Value.int v_start, Value.int v_value, Value.ref a_nameStart, Value.ref a_nameEnd, Value.int v_hasElse, Value.int v_hasLeast, Value.int v_hasFeel])), (a_text, Sum.inl (k_a_text, 900, Sum.inl f_a_text))] H := hP
    have hD : va_D A [(o, Sum.inr (7, [Value.int v_length, Value.int v_faultKind, Value.int v_faultPlace, Value.ref o_into, Value.ref a_text, Value.int v1, Value.int v_token, Value.int v_start, Value.int v_value, Value.ref a_nameStart, Value.ref a_nameEnd, Value.int v_hasElse, Value.int v_hasLeast, Value.int v_hasFeel])), (a_text, Sum.inl (k_a_text, 900, Sum.inl f_a_text))] := hD
    refine W.widen (k := 0) (n := 0) (by decide) (by decide) ?_
    have br21 := hr21.u
    refine lv_iconst (v := 5) hx hb dX7_advance_23 (by decide) ?_
    refine lv_icmp_ne (tgt := 40) hx hb dX7_advance_24 (by decide) (fun c23 => ?_) (fun c23 => ?_)
    · have c239 := i32_ne c23 rfl (show (5 : Int32).toInt = 5 by decide)
      refine lv_aload_n hx hb dX7_advance_40 rfl (lv_at hl 0 rfl) ?_
      refine lv_aload_n hx hb dX7_advance_41 rfl (lv_at hl 0 rfl) ?_
      refine va_get (D := (dC, dI)) (ci := 7) (v := Value.int v1) (C := RX7) (T := TX7) (N := 14) hx hb hts iw_X7_advance_X7 hown hK hP 0 rfl rfl 5 (by decide) (hts _ kk_X7_advance_0) (fun _ h9 => h9) rfl dX7_advance_42 ?_
      refine va_put (D := (dC, dI)) (ci := 7) (v := Value.int v1) (ty := FieldType.int) (C := RX7) (T := TX7) (N := 14) hx hb hts iw_X7_advance_X7 tyX7 tyX7_ok nmX7 hown hK hP hD hS 0 rfl rfl 7 (by decide) (hts _ kk_X7_advance_2) (fun _ h9 => h9) rfl (by decide +kernel) rfl rfl (Nat.le_of_ble_eq_true rfl) dX7_advance_45 (fun H locs hP hD hS => ?_)
      have hP : va_P (dC, dI) vwCl [(o, Sum.inr (7, [Value.int v_length, Value.int v_faultKind, Value.int v_faultPlace, Value.ref o_into, Value.ref a_text, Value.int v1, Value.int v_token, Value.int v1, Value.int v_value, Value.ref a_nameStart, Value.ref a_nameEnd, Value.int v_hasElse, Value.int v_hasLeast, Value.int v_hasFeel])), (a_text, Sum.inl (k_a_text, 900, Sum.inl f_a_text))] H := hP
      have hD : va_D A [(o, Sum.inr (7, [Value.int v_length, Value.int v_faultKind, Value.int v_faultPlace, Value.ref o_into, Value.ref a_text, Value.int v1, Value.int v_token, Value.int v1, Value.int v_value, Value.ref a_nameStart, Value.ref a_nameEnd, Value.int v_hasElse, Value.int v_hasLeast, Value.int v_hasFeel])), (a_text, Sum.inl (k_a_text, 900, Sum.inl f_a_text))] := hD
      refine lv_aload_n hx hb dX7_advance_48 rfl (lv_at hl 0 rfl) ?_
      refine va_get (D := (dC, dI)) (ci := 7) (v := Value.int v1) (C := RX7) (T := TX7) (N := 14) hx hb hts iw_X7_advance_X7 hown hK hP 0 rfl rfl 5 (by decide) (hts _ kk_X7_advance_0) (fun _ h9 => h9) rfl dX7_advance_49 ?_
      refine lv_aload_n hx hb dX7_advance_52 rfl (lv_at hl 0 rfl) ?_
      refine va_get (D := (dC, dI)) (ci := 7) (v := Value.int v_length) (C := RX7) (T := TX7) (N := 14) hx hb hts iw_X7_advance_X7 hown hK hP 0 rfl rfl 0 (by decide) (hts _ kk_X7_advance_1) (fun _ h9 => h9) rfl dX7_advance_53 ?_
      refine lv_icmp_lt (tgt := 65) hx hb dX7_advance_56 (by decide) (fun c24 => ?_) (fun c24 => ?_)
      · have c249 := i32_lt c24 rfl rfl
        refine lv_aload_n hx hb dX7_advance_65 rfl (lv_at hl 0 rfl) ?_
        refine lv_aload_n hx hb dX7_advance_66 rfl (lv_at hl 0 rfl) ?_
        refine va_get (D := (dC, dI)) (ci := 7) (v := Value.ref a_text) (C := RX7) (T := TX7) (N := 14) hx hb hts iw_X7_advance_X7 hown hK hP 0 rfl rfl 4 (by decide) (hts _ kk_X7_advance_3) (fun _ h9 => h9) rfl dX7_advance_67 ?_
        refine lv_aload_n hx hb dX7_advance_70 rfl (lv_at hl 0 rfl) ?_
        refine va_get (D := (dC, dI)) (ci := 7) (v := Value.int v1) (C := RX7) (T := TX7) (N := 14) hx hb hts iw_X7_advance_X7 hown hK hP 0 rfl rfl 5 (by decide) (hts _ kk_X7_advance_0) (fun _ h9 => h9) rfl dX7_advance_71 ?_
        refine va_bald hx hb hK hP 1 0 rfl rfl (vq_in v1 900 (by omega)) dX7_advance_74 ?_
        refine px_i (v := x20) ex20.symm ?_
        have hPc := hP.sub (ws' := []) [] rfl
        have hDc := hD.sub (ws' := []) [] (by decide) rfl
        have hKc := hK.sub (tys' := []) [] rfl
        have hFc := va_free (wc := []) hD hS hA [] rfl
        refine va_calli (va_runS (As := [Value.int x20]) (rest := [Value.ref o]) ⟨hx, hb, hml, hown, hts⟩ (ct_X7_kindOf l dC dI x20 H.size) (va_cwS 1 hts gX7_advance_X7_kindOf rfl rfl rfl ⟨cn_X7.1, cn_X7.2, ds_32⟩ ⟨Nat.le_of_ble_eq_true rfl, Nat.le_of_ble_eq_true rfl⟩) ⟨fun a U g mk q => by obtain ⟨q0, q1, qP, qK, qD⟩ := q; exact ⟨q0, q1, qP, va_K.moved (u := U) (U := U.calling g mk a) (Vm.Alike.refl U.vm) qK, qD⟩, fun U hU hW => ⟨rfl, by rw [hU], by rw [hU]; exact hPc, va_K.moved hW.alike hKc, hDc.weaken (fun _ _ _ _ => trivial)⟩⟩ rfl rfl hl.1 rfl (lv_room (Nat.le_of_ble_eq_true rfl)) dX7_advance_75 ⟨Nat.le_of_ble_eq_true rfl, Nat.le_of_ble_eq_true rfl⟩) hS (fun q _ h => hFc q h) hFc (fun r25 u t H1 locs ht hvm hw hB hz1 hk1 hS => ?_)
        have hw : r25 = u := hw.symm
        subst hw
        obtain ⟨hr25, w26, hP1, hD1⟩ := hB
        rw [ht] at hP1
        obtain ⟨hP, hD⟩ := va_join (wr := [(o, Sum.inr (7, [Value.int v_length, Value.int v_faultKind, Value.int v_faultPlace, Value.ref o_into, Value.ref a_text, Value.int v1, Value.int v_token, Value.int v1, Value.int v_value, Value.ref a_nameStart, Value.ref a_nameEnd, Value.int v_hasElse, Value.int v_hasLeast, Value.int v_hasFeel])), (a_text, Sum.inl (k_a_text, 900, Sum.inl f_a_text))]) (w1 := []) hP hD [] [0, 1] rfl rfl (by decide) (by decide) hk1 hFc hP1 hD1
        clear hPc hDc hKc hFc hP1 hD1 hk1 hz1
        generalize H1 = H at hP hS ⊢
        have hP : va_P (dC, dI) vwCl [(o, Sum.inr (7, [Value.int v_length, Value.int v_faultKind, Value.int v_faultPlace, Value.ref o_into, Value.ref a_text, Value.int v1, Value.int v_token, Value.int v1, Value.int v_value, Value.ref a_nameStart, Value.ref a_nameEnd, Value.int v_hasElse, Value.int v_hasLeast, Value.int v_hasFeel])), (a_text, Sum.inl (k_a_text, 900, Sum.inl f_a_text))] H := hP
        have hD : va_D A [(o, Sum.inr (7, [Value.int v_length, Value.int v_faultKind, Value.int v_faultPlace, Value.ref o_into, Value.ref a_text, Value.int v1, Value.int v_token, Value.int v1, Value.int v_value, Value.ref a_nameStart, Value.ref a_nameEnd, Value.int v_hasElse, Value.int v_hasLeast, Value.int v_hasFeel])), (a_text, Sum.inl (k_a_text, 900, Sum.inl f_a_text))] := hD
        refine W.widen (k := 0) (n := 0) (by decide) (by decide) ?_
        have br25 := hr25.u
        refine va_put (D := (dC, dI)) (ci := 7) (v := Value.int r25) (ty := FieldType.int) (C := RX7) (T := TX7) (N := 14) hx hb hts iw_X7_advance_X7 tyX7 tyX7_ok nmX7 hown hK hP hD hS 0 rfl rfl 6 (by decide) (hts _ kk_X7_advance_4) (fun _ h9 => h9) rfl (by decide +kernel) rfl rfl (Nat.le_of_ble_eq_true rfl) dX7_advance_78 (fun H locs hP hD hS => ?_)
        have hP : va_P (dC, dI) vwCl [(o, Sum.inr (7, [Value.int v_length, Value.int v_faultKind, Value.int v_faultPlace, Value.ref o_into, Value.ref a_text, Value.int v1, Value.int r25, Value.int v1, Value.int v_value, Value.ref a_nameStart, Value.ref a_nameEnd, Value.int v_hasElse, Value.int v_hasLeast, Value.int v_hasFeel])), (a_text, Sum.inl (k_a_text, 900, Sum.inl f_a_text))] H := hP
        have hD : va_D A [(o, Sum.inr (7, [Value.int v_length, Value.int v_faultKind, Value.int v_faultPlace, Value.ref o_into, Value.ref a_text, Value.int v1, Value.int r25, Value.int v1, Value.int v_value, Value.ref a_nameStart, Value.ref a_nameEnd, Value.int v_hasElse, Value.int v_hasLeast, Value.int v_hasFeel])), (a_text, Sum.inl (k_a_text, 900, Sum.inl f_a_text))] := hD
        refine lv_aload_n hx hb dX7_advance_81 rfl (lv_at hl 0 rfl) ?_
        refine lv_dup hx hb dX7_advance_82 rfl ?_
        refine va_get (D := (dC, dI)) (ci := 7) (v := Value.int v1) (C := RX7) (T := TX7) (N := 14) hx hb hts iw_X7_advance_X7 hown hK hP 0 rfl rfl 5 (by decide) (hts _ kk_X7_advance_0) (fun _ h9 => h9) rfl dX7_advance_83 ?_
        refine lv_iconst (v := 1) hx hb dX7_advance_86 (by decide) ?_
        refine lv_iadd hx hb dX7_advance_87 ?_
        refine lv_topi (fun x27 ex27 => ?_)
        have tx27 := i32_add ex27 rfl (show (1 : Int32).toInt = 1 by decide) (by omega) (by omega)
        refine va_put (D := (dC, dI)) (ci := 7) (v := Value.int x27) (ty := FieldType.int) (C := RX7) (T := TX7) (N := 14) hx hb hts iw_X7_advance_X7 tyX7 tyX7_ok nmX7 hown hK hP hD hS 0 rfl rfl 5 (by decide) (hts _ kk_X7_advance_0) (fun _ h9 => h9) rfl (by decide +kernel) rfl rfl (Nat.le_of_ble_eq_true rfl) dX7_advance_88 (fun H locs hP hD hS => ?_)
        have hP : va_P (dC, dI) vwCl [(o, Sum.inr (7, [Value.int v_length, Value.int v_faultKind, Value.int v_faultPlace, Value.ref o_into, Value.ref a_text, Value.int x27, Value.int r25, Value.int v1, Value.int v_value, Value.ref a_nameStart, Value.ref a_nameEnd, Value.int v_hasElse, Value.int v_hasLeast, Value.int v_hasFeel])), (a_text, Sum.inl (k_a_text, 900, Sum.inl f_a_text))] H := hP
        have hD : va_D A [(o, Sum.inr (7, [Value.int v_length, Value.int v_faultKind, Value.int v_faultPlace, Value.ref o_into, Value.ref a_text, Value.int x27, Value.int r25, Value.int v1, Value.int v_value, Value.ref a_nameStart, Value.ref a_nameEnd, Value.int v_hasElse, Value.int v_hasLeast, Value.int v_hasFeel])), (a_text, Sum.inl (k_a_text, 900, Sum.inl f_a_text))] := hD
        refine lv_aload_n hx hb dX7_advance_91 rfl (lv_at hl 0 rfl) ?_
        refine va_get (D := (dC, dI)) (ci := 7) (v := Value.int r25) (C := RX7) (T := TX7) (N := 14) hx hb hts iw_X7_advance_X7 hown hK hP 0 rfl rfl 6 (by decide) (hts _ kk_X7_advance_4) (fun _ h9 => h9) rfl dX7_advance_92 ?_
        refine lv_iconst (v := 1) hx hb dX7_advance_95 (by decide) ?_
        refine lv_icmp_eq (tgt := 107) hx hb dX7_advance_96 (by decide) (fun c28 => ?_) (fun c28 => ?_)
        · have c289 := i32_eq c28 rfl (show (1 : Int32).toInt = 1 by decide)
          refine lv_aload_n hx hb dX7_advance_107 rfl (lv_at hl 0 rfl) ?_
          have hPc := hP.sub (ws' := [(o, Sum.inr (7, [Value.int v_length, Value.int v_faultKind, Value.int v_faultPlace, Value.ref o_into, Value.ref a_text, Value.int x27, Value.int r25, Value.int v1, Value.int v_value, Value.ref a_nameStart, Value.ref a_nameEnd, Value.int v_hasElse, Value.int v_hasLeast, Value.int v_hasFeel])), (a_text, Sum.inl (k_a_text, 900, Sum.inl f_a_text))]) [0, 1] rfl
          have hDc := hD.sub (ws' := [(o, Sum.inr (7, [Value.int v_length, Value.int v_faultKind, Value.int v_faultPlace, Value.ref o_into, Value.ref a_text, Value.int x27, Value.int r25, Value.int v1, Value.int v_value, Value.ref a_nameStart, Value.ref a_nameEnd, Value.int v_hasElse, Value.int v_hasLeast, Value.int v_hasFeel])), (a_text, Sum.inl (k_a_text, 900, Sum.inl f_a_text))]) [0, 1] (by decide) rfl
          have hKc := hK.sub (tys' := [(k_a_text, FieldType.byte)]) [0] rfl
          have hFc := va_free (wc := [(o, Sum.inr (7, [Value.int v_length, Value.int v_faultKind, Value.int v_faultPlace, Value.ref o_into, Value.ref a_text, Value.int x27, Value.int r25, Value.int v1, Value.int v_value, Value.ref a_nameStart, Value.ref a_nameEnd, Value.int v_hasElse, Value.int v_hasLeast, Value.int v_hasFeel])), (a_text, Sum.inl (k_a_text, 900, Sum.inl f_a_text))]) hD hS hA [0, 1] rfl
          refine va_callv (va_runV (As := []) (rest := []) ⟨hx, hb, hml, hown, hts⟩ (ct_X7_takeRun l dC dI o v_length v_faultKind v_faultPlace o_into a_text x27 r25 v1 v_value a_nameStart a_nameEnd v_hasElse v_hasLeast v_hasFeel k_a_text f_a_text (iv.m (by omega)) (iv.m (by omega)) (iv.m (by omega)) (iv.m (by omega)) (by omega) H.size) (cwV 0 hts gX7_advance_X7_takeRun rfl rfl rfl ⟨rfl, cn_X7.1, cn_X7.2, ds_7⟩ ⟨Nat.le_of_ble_eq_true rfl, Nat.le_of_ble_eq_true rfl⟩) ⟨fun a U g mk q => by obtain ⟨q0, q1, qP, qK, qD⟩ := q; exact ⟨q0, q1, qP, va_K.moved (u := U) (U := U.calling g mk a) (Vm.Alike.refl U.vm) qK, qD⟩, va_recv hKc hPc (ci := 7) (q0 := 0) rfl rfl, fun U hU hW => ⟨rfl, by rw [hU], by rw [hU]; exact hPc, va_K.moved hW.alike hKc, hDc.weaken (fun _ _ _ _ => trivial)⟩⟩ rfl rfl hl.1 rfl (lv_room (Nat.le_of_ble_eq_true rfl)) dX7_advance_108 ⟨Nat.le_of_ble_eq_true rfl, Nat.le_of_ble_eq_true rfl⟩) hS (fun q _ h => hFc q h) hFc (fun u t H1 locs ht hvm hw hB hz1 hk1 hS => ?_)
          obtain ⟨v30, v31, hv30, hv31, w32, w33, hP1, hD1⟩ := hB
          rw [ht] at hP1
          obtain ⟨hP, hD⟩ := va_join (wr := []) (w1 := [(o, Sum.inr (7, [Value.int v_length, Value.int v_faultKind, Value.int v_faultPlace, Value.ref o_into, Value.ref a_text, Value.int v30, Value.int v31, Value.int v1, Value.int v_value, Value.ref a_nameStart, Value.ref a_nameEnd, Value.int v_hasElse, Value.int v_hasLeast, Value.int v_hasFeel])), (a_text, Sum.inl (k_a_text, 900, Sum.inl f_a_text))]) hP hD [0, 1] [] rfl rfl (by decide) (by decide) hk1 hFc hP1 hD1
          clear hPc hDc hKc hFc hP1 hD1 hk1 hz1
          generalize H1 = H at hP hS ⊢
          have hP : va_P (dC, dI) vwCl [(o, Sum.inr (7, [Value.int v_length, Value.int v_faultKind, Value.int v_faultPlace, Value.ref o_into, Value.ref a_text, Value.int v30, Value.int v31, Value.int v1, Value.int v_value, Value.ref a_nameStart, Value.ref a_nameEnd, Value.int v_hasElse, Value.int v_hasLeast, Value.int v_hasFeel])), (a_text, Sum.inl (k_a_text, 900, Sum.inl f_a_text))] H := hP
          have hD : va_D A [(o, Sum.inr (7, [Value.int v_length, Value.int v_faultKind, Value.int v_faultPlace, Value.ref o_into, Value.ref a_text, Value.int v30, Value.int v31, Value.int v1, Value.int v_value, Value.ref a_nameStart, Value.ref a_nameEnd, Value.int v_hasElse, Value.int v_hasLeast, Value.int v_hasFeel])), (a_text, Sum.inl (k_a_text, 900, Sum.inl f_a_text))] := hD
          refine W.widen (k := 0) (n := 0) (by decide) (by decide) ?_
          have hP9 := hP.sub (ws' := [(o, Sum.inr (7, [Value.int v_length, Value.int v_faultKind, Value.int v_faultPlace, Value.ref o_into, Value.ref a_text, Value.int v30, Value.int v31, Value.int v1, Value.int v_value, Value.ref a_nameStart, Value.ref a_nameEnd, Value.int v_hasElse, Value.int v_hasLeast, Value.int v_hasFeel])), (a_text, Sum.inl (k_a_text, 900, Sum.inl f_a_text))]) [0, 1] rfl
          have hD9 := hD.sub (ws' := [(o, Sum.inr (7, [Value.int v_length, Value.int v_faultKind, Value.int v_faultPlace, Value.ref o_into, Value.ref a_text, Value.int v30, Value.int v31, Value.int v1, Value.int v_value, Value.ref a_nameStart, Value.ref a_nameEnd, Value.int v_hasElse, Value.int v_hasLeast, Value.int v_hasFeel])), (a_text, Sum.inl (k_a_text, 900, Sum.inl f_a_text))]) [0, 1] (by decide) rfl
          have bv_next := hv_next.u
          exact W.vret hx hb hr (fun t ht hW => ⟨⟨(), rfl, trivial, v30, v31, v1, hv30, hv31, (iv.m (by omega)), (by first | exact adv_end hi0_0 (by omega) (by omega) (by omega) | exact adv_run hi0_0 (by assumption) (by assumption) (by assumption) (by assumption) (by omega) (by omega) (by omega) (by omega) | exact adv_one hi0_0 (by assumption) (by assumption) (by omega) (by omega) (by omega) (by omega) (by omega) (by omega)), by rw [ht]; exact hP9, hD9⟩, hS.F ht⟩) hS.2.2 dX7_advance_111
        · have c289 := i32_ne c28 rfl (show (1 : Int32).toInt = 1 by decide)
          refine lv_aload_n hx hb dX7_advance_99 rfl (lv_at hl 0 rfl) ?_
          refine va_get (D := (dC, dI)) (ci := 7) (v := Value.int r25) (C := RX7) (T := TX7) (N := 14) hx hb hts iw_X7_advance_X7 hown hK hP 0 rfl rfl 6 (by decide) (hts _ kk_X7_advance_4) (fun _ h9 => h9) rfl dX7_advance_100 ?_
          refine lv_iconst (v := 2) hx hb dX7_advance_103 (by decide) ?_
          refine lv_icmp_ne (tgt := 111) hx hb dX7_advance_104 (by decide) (fun c34 => ?_) (fun c34 => ?_)
          · have c349 := i32_ne c34 rfl (show (2 : Int32).toInt = 2 by decide)
            have hP9 := hP.sub (ws' := [(o, Sum.inr (7, [Value.int v_length, Value.int v_faultKind, Value.int v_faultPlace, Value.ref o_into, Value.ref a_text, Value.int x27, Value.int r25, Value.int v1, Value.int v_value, Value.ref a_nameStart, Value.ref a_nameEnd, Value.int v_hasElse, Value.int v_hasLeast, Value.int v_hasFeel])), (a_text, Sum.inl (k_a_text, 900, Sum.inl f_a_text))]) [0, 1] rfl
            have hD9 := hD.sub (ws' := [(o, Sum.inr (7, [Value.int v_length, Value.int v_faultKind, Value.int v_faultPlace, Value.ref o_into, Value.ref a_text, Value.int x27, Value.int r25, Value.int v1, Value.int v_value, Value.ref a_nameStart, Value.ref a_nameEnd, Value.int v_hasElse, Value.int v_hasLeast, Value.int v_hasFeel])), (a_text, Sum.inl (k_a_text, 900, Sum.inl f_a_text))]) [0, 1] (by decide) rfl
            have bv_next := hv_next.u
            exact W.vret hx hb hr (fun t ht hW => ⟨⟨(), rfl, trivial, x27, r25, v1, (iv.m (by omega)), (iv.m (by omega)), (iv.m (by omega)), (by first | exact adv_end hi0_0 (by omega) (by omega) (by omega) | exact adv_run hi0_0 (by assumption) (by assumption) (by assumption) (by assumption) (by omega) (by omega) (by omega) (by omega) | exact adv_one hi0_0 (by assumption) (by assumption) (by omega) (by omega) (by omega) (by omega) (by omega) (by omega)), by rw [ht]; exact hP9, hD9⟩, hS.F ht⟩) hS.2.2 dX7_advance_111
          · have c349 := i32_eq c34 rfl (show (2 : Int32).toInt = 2 by decide)
            refine lv_aload_n hx hb dX7_advance_107 rfl (lv_at hl 0 rfl) ?_
            have hPc := hP.sub (ws' := [(o, Sum.inr (7, [Value.int v_length, Value.int v_faultKind, Value.int v_faultPlace, Value.ref o_into, Value.ref a_text, Value.int x27, Value.int r25, Value.int v1, Value.int v_value, Value.ref a_nameStart, Value.ref a_nameEnd, Value.int v_hasElse, Value.int v_hasLeast, Value.int v_hasFeel])), (a_text, Sum.inl (k_a_text, 900, Sum.inl f_a_text))]) [0, 1] rfl
            have hDc := hD.sub (ws' := [(o, Sum.inr (7, [Value.int v_length, Value.int v_faultKind, Value.int v_faultPlace, Value.ref o_into, Value.ref a_text, Value.int x27, Value.int r25, Value.int v1, Value.int v_value, Value.ref a_nameStart, Value.ref a_nameEnd, Value.int v_hasElse, Value.int v_hasLeast, Value.int v_hasFeel])), (a_text, Sum.inl (k_a_text, 900, Sum.inl f_a_text))]) [0, 1] (by decide) rfl
            have hKc := hK.sub (tys' := [(k_a_text, FieldType.byte)]) [0] rfl
            have hFc := va_free (wc := [(o, Sum.inr (7, [Value.int v_length, Value.int v_faultKind, Value.int v_faultPlace, Value.ref o_into, Value.ref a_text, Value.int x27, Value.int r25, Value.int v1, Value.int v_value, Value.ref a_nameStart, Value.ref a_nameEnd, Value.int v_hasElse, Value.int v_hasLeast, Value.int v_hasFeel])), (a_text, Sum.inl (k_a_text, 900, Sum.inl f_a_text))]) hD hS hA [0, 1] rfl
            refine va_callv (va_runV (As := []) (rest := []) ⟨hx, hb, hml, hown, hts⟩ (ct_X7_takeRun l dC dI o v_length v_faultKind v_faultPlace o_into a_text x27 r25 v1 v_value a_nameStart a_nameEnd v_hasElse v_hasLeast v_hasFeel k_a_text f_a_text (iv.m (by omega)) (iv.m (by omega)) (iv.m (by omega)) (iv.m (by omega)) (by omega) H.size) (cwV 0 hts gX7_advance_X7_takeRun rfl rfl rfl ⟨rfl, cn_X7.1, cn_X7.2, ds_7⟩ ⟨Nat.le_of_ble_eq_true rfl, Nat.le_of_ble_eq_true rfl⟩) ⟨fun a U g mk q => by obtain ⟨q0, q1, qP, qK, qD⟩ := q; exact ⟨q0, q1, qP, va_K.moved (u := U) (U := U.calling g mk a) (Vm.Alike.refl U.vm) qK, qD⟩, va_recv hKc hPc (ci := 7) (q0 := 0) rfl rfl, fun U hU hW => ⟨rfl, by rw [hU], by rw [hU]; exact hPc, va_K.moved hW.alike hKc, hDc.weaken (fun _ _ _ _ => trivial)⟩⟩ rfl rfl hl.1 rfl (lv_room (Nat.le_of_ble_eq_true rfl)) dX7_advance_108 ⟨Nat.le_of_ble_eq_true rfl, Nat.le_of_ble_eq_true rfl⟩) hS (fun q _ h => hFc q h) hFc (fun u t H1 locs ht hvm hw hB hz1 hk1 hS => ?_)
            obtain ⟨v36, v37, hv36, hv37, w38, w39, hP1, hD1⟩ := hB
            rw [ht] at hP1
            obtain ⟨hP, hD⟩ := va_join (wr := []) (w1 := [(o, Sum.inr (7, [Value.int v_length, Value.int v_faultKind, Value.int v_faultPlace, Value.ref o_into, Value.ref a_text, Value.int v36, Value.int v37, Value.int v1, Value.int v_value, Value.ref a_nameStart, Value.ref a_nameEnd, Value.int v_hasElse, Value.int v_hasLeast, Value.int v_hasFeel])), (a_text, Sum.inl (k_a_text, 900, Sum.inl f_a_text))]) hP hD [0, 1] [] rfl rfl (by decide) (by decide) hk1 hFc hP1 hD1
            clear hPc hDc hKc hFc hP1 hD1 hk1 hz1
            generalize H1 = H at hP hS ⊢
            have hP : va_P (dC, dI) vwCl [(o, Sum.inr (7, [Value.int v_length, Value.int v_faultKind, Value.int v_faultPlace, Value.ref o_into, Value.ref a_text, Value.int v36, Value.int v37, Value.int v1, Value.int v_value, Value.ref a_nameStart, Value.ref a_nameEnd, Value.int v_hasElse, Value.int v_hasLeast, Value.int v_hasFeel])), (a_text, Sum.inl (k_a_text, 900, Sum.inl f_a_text))] H := hP
            have hD : va_D A [(o, Sum.inr (7, [Value.int v_length, Value.int v_faultKind, Value.int v_faultPlace, Value.ref o_into, Value.ref a_text, Value.int v36, Value.int v37, Value.int v1, Value.int v_value, Value.ref a_nameStart, Value.ref a_nameEnd, Value.int v_hasElse, Value.int v_hasLeast, Value.int v_hasFeel])), (a_text, Sum.inl (k_a_text, 900, Sum.inl f_a_text))] := hD
            refine W.widen (k := 0) (n := 0) (by decide) (by decide) ?_
            have hP9 := hP.sub (ws' := [(o, Sum.inr (7, [Value.int v_length, Value.int v_faultKind, Value.int v_faultPlace, Value.ref o_into, Value.ref a_text, Value.int v36, Value.int v37, Value.int v1, Value.int v_value, Value.ref a_nameStart, Value.ref a_nameEnd, Value.int v_hasElse, Value.int v_hasLeast, Value.int v_hasFeel])), (a_text, Sum.inl (k_a_text, 900, Sum.inl f_a_text))]) [0, 1] rfl
            have hD9 := hD.sub (ws' := [(o, Sum.inr (7, [Value.int v_length, Value.int v_faultKind, Value.int v_faultPlace, Value.ref o_into, Value.ref a_text, Value.int v36, Value.int v37, Value.int v1, Value.int v_value, Value.ref a_nameStart, Value.ref a_nameEnd, Value.int v_hasElse, Value.int v_hasLeast, Value.int v_hasFeel])), (a_text, Sum.inl (k_a_text, 900, Sum.inl f_a_text))]) [0, 1] (by decide) rfl
            have bv_next := hv_next.u
            exact W.vret hx hb hr (fun t ht hW => ⟨⟨(), rfl, trivial, v36, v37, v1, hv36, hv37, (iv.m (by omega)), (by first | exact adv_end hi0_0 (by omega) (by omega) (by omega) | exact adv_run hi0_0 (by assumption) (by assumption) (by assumption) (by assumption) (by omega) (by omega) (by omega) (by omega) | exact adv_one hi0_0 (by assumption) (by assumption) (by omega) (by omega) (by omega) (by omega) (by omega) (by omega)), by rw [ht]; exact hP9, hD9⟩, hS.F ht⟩) hS.2.2 dX7_advance_111
      · have c249 := i32_nlt c24 rfl rfl
        refine lv_aload_n hx hb dX7_advance_59 rfl (lv_at hl 0 rfl) ?_
        refine lv_iconst (v := 0) hx hb dX7_advance_60 (by decide) ?_
        refine va_put (D := (dC, dI)) (ci := 7) (v := Value.int 0) (ty := FieldType.int) (C := RX7) (T := TX7) (N := 14) hx hb hts iw_X7_advance_X7 tyX7 tyX7_ok nmX7 hown hK hP hD hS 0 rfl rfl 6 (by decide) (hts _ kk_X7_advance_4) (fun _ h9 => h9) rfl (by decide +kernel) rfl rfl (Nat.le_of_ble_eq_true rfl) dX7_advance_61 (fun H locs hP hD hS => ?_)
        have hP : va_P (dC, dI) vwCl [(o, Sum.inr (7, [Value.int v_length, Value.int v_faultKind, Value.int v_faultPlace, Value.ref o_into, Value.ref a_text, Value.int v1, Value.int 0, Value.int v1, Value.int v_value, Value.ref a_nameStart, Value.ref a_nameEnd, Value.int v_hasElse, Value.int v_hasLeast, Value.int v_hasFeel])), (a_text, Sum.inl (k_a_text, 900, Sum.inl f_a_text))] H := hP
        have hD : va_D A [(o, Sum.inr (7, [Value.int v_length, Value.int v_faultKind, Value.int v_faultPlace, Value.ref o_into, Value.ref a_text, Value.int v1, Value.int 0, Value.int v1, Value.int v_value, Value.ref a_nameStart, Value.ref a_nameEnd, Value.int v_hasElse, Value.int v_hasLeast, Value.int v_hasFeel])), (a_text, Sum.inl (k_a_text, 900, Sum.inl f_a_text))] := hD
        have hP9 := hP.sub (ws' := [(o, Sum.inr (7, [Value.int v_length, Value.int v_faultKind, Value.int v_faultPlace, Value.ref o_into, Value.ref a_text, Value.int v1, Value.int 0, Value.int v1, Value.int v_value, Value.ref a_nameStart, Value.ref a_nameEnd, Value.int v_hasElse, Value.int v_hasLeast, Value.int v_hasFeel])), (a_text, Sum.inl (k_a_text, 900, Sum.inl f_a_text))]) [0, 1] rfl
        have hD9 := hD.sub (ws' := [(o, Sum.inr (7, [Value.int v_length, Value.int v_faultKind, Value.int v_faultPlace, Value.ref o_into, Value.ref a_text, Value.int v1, Value.int 0, Value.int v1, Value.int v_value, Value.ref a_nameStart, Value.ref a_nameEnd, Value.int v_hasElse, Value.int v_hasLeast, Value.int v_hasFeel])), (a_text, Sum.inl (k_a_text, 900, Sum.inl f_a_text))]) [0, 1] (by decide) rfl
        have bv_next := hv_next.u
        exact W.vret hx hb hr (fun t ht hW => ⟨⟨(), rfl, trivial, v1, 0, v1, (iv.m (by omega)), (iv.m (by decide)), (iv.m (by omega)), (by first | exact adv_end hi0_0 (by omega) (by omega) (by omega) | exact adv_run hi0_0 (by assumption) (by assumption) (by assumption) (by assumption) (by omega) (by omega) (by omega) (by omega) | exact adv_one hi0_0 (by assumption) (by assumption) (by omega) (by omega) (by omega) (by omega) (by omega) (by omega)), by rw [ht]; exact hP9, hD9⟩, hS.F ht⟩) hS.2.2 dX7_advance_64
    · have c239 := i32_eq c23 rfl (show (5 : Int32).toInt = 5 by decide)
      refine lv_aload_n hx hb dX7_advance_27 rfl (lv_at hl 0 rfl) ?_
      refine lv_dup hx hb dX7_advance_28 rfl ?_
      refine va_get (D := (dC, dI)) (ci := 7) (v := Value.int v1) (C := RX7) (T := TX7) (N := 14) hx hb hts iw_X7_advance_X7 hown hK hP 0 rfl rfl 5 (by decide) (hts _ kk_X7_advance_0) (fun _ h9 => h9) rfl dX7_advance_29 ?_
      refine lv_iconst (v := 1) hx hb dX7_advance_32 (by decide) ?_
      refine lv_iadd hx hb dX7_advance_33 ?_
      refine lv_topi (fun x40 ex40 => ?_)
      have tx40 := i32_add ex40 rfl (show (1 : Int32).toInt = 1 by decide) (by omega) (by omega)
      refine va_put (D := (dC, dI)) (ci := 7) (v := Value.int x40) (ty := FieldType.int) (C := RX7) (T := TX7) (N := 14) hx hb hts iw_X7_advance_X7 tyX7 tyX7_ok nmX7 hown hK hP hD hS 0 rfl rfl 5 (by decide) (hts _ kk_X7_advance_0) (fun _ h9 => h9) rfl (by decide +kernel) rfl rfl (Nat.le_of_ble_eq_true rfl) dX7_advance_34 (fun H locs hP hD hS => ?_)
      have hP : va_P (dC, dI) vwCl [(o, Sum.inr (7, [Value.int v_length, Value.int v_faultKind, Value.int v_faultPlace, Value.ref o_into, Value.ref a_text, Value.int x40, Value.int v_token, Value.int v_start, Value.int v_value, Value.ref a_nameStart, Value.ref a_nameEnd, Value.int v_hasElse, Value.int v_hasLeast, Value.int v_hasFeel])), (a_text, Sum.inl (k_a_text, 900, Sum.inl f_a_text))] H := hP
      have hD : va_D A [(o, Sum.inr (7, [Value.int v_length, Value.int v_faultKind, Value.int v_faultPlace, Value.ref o_into, Value.ref a_text, Value.int x40, Value.int v_token, Value.int v_start, Value.int v_value, Value.ref a_nameStart, Value.ref a_nameEnd, Value.int v_hasElse, Value.int v_hasLeast, Value.int v_hasFeel])), (a_text, Sum.inl (k_a_text, 900, Sum.inl f_a_text))] := hD
      refine lv_goto (tgt := 0) hx hb dX7_advance_37 (by decide) ?_
      exact ih0 _ _ _ _ (ms_up hn0 tx40 (by decide) (by omega)) ⟨x40, rfl, (iv.m (by omega)), (by first | rfl | exact skI_step hi0_0 (by assumption) (by assumption) (by omega) (by omega) (by omega) (by omega)), hP, hD, hS, lv_sub hl [0] rfl⟩

set_option maxHeartbeats 4000000 in
set_option maxRecDepth 100000 in
theorem ct_X7_fail (l : Launch) (dC : Nat → ClassId) (dI : Nat → Nat → Nat) (o : Nat) (p0 : Int32) (v_length : Int32) (v_faultKind : Int32) (v_faultPlace : Int32) (o_into : Nat) (a_text : Nat) (v_next : Int32) (v_token : Int32) (v_start : Int32) (v_value : Int32) (a_nameStart : Nat) (a_nameEnd : Nat) (v_hasElse : Int32) (v_hasLeast : Int32) (v_hasFeel : Int32) (sz : Nat) : Met l yX7_fail wsX7_fail ({ frames := 0, cells := 0, slots := 0, locals := 0 }) (va_Pc [Value.ref o, Value.int p0] (fun U => U.heap.size = sz ∧ va_P (dC, dI) vwCl [(o, Sum.inr (7, [Value.int v_length, Value.int v_faultKind, Value.int v_faultPlace, Value.ref o_into, Value.ref a_text, Value.int v_next, Value.int v_token, Value.int v_start, Value.int v_value, Value.ref a_nameStart, Value.ref a_nameEnd, Value.int v_hasElse, Value.int v_hasLeast, Value.int v_hasFeel]))] U.heap ∧ va_K (dC, dI) vwCl [] U ∧ va_D (fun _ => True) [(o, Sum.inr (7, [Value.int v_length, Value.int v_faultKind, Value.int v_faultPlace, Value.ref o_into, Value.ref a_text, Value.int v_next, Value.int v_token, Value.int v_start, Value.int v_value, Value.ref a_nameStart, Value.ref a_nameEnd, Value.int v_hasElse, Value.int v_hasLeast, Value.int v_hasFeel]))])) (va_Qi (fun (r u : Int32) => u = r) (fun (r : Int32) t => r = 0 ∧ va_P (dC, dI) vwCl [(o, Sum.inr (7, [Value.int v_length, Value.int p0, Value.int v_start, Value.ref o_into, Value.ref a_text, Value.int v_next, Value.int v_token, Value.int v_start, Value.int v_value, Value.ref a_nameStart, Value.ref a_nameEnd, Value.int v_hasElse, Value.int v_hasLeast, Value.int v_hasFeel]))] t.heap ∧ va_D (va_A [(o, Sum.inr (7, [Value.int v_length, Value.int v_faultKind, Value.int v_faultPlace, Value.ref o_into, Value.ref a_text, Value.int v_next, Value.int v_token, Value.int v_start, Value.int v_value, Value.ref a_nameStart, Value.ref a_nameEnd, Value.int v_hasElse, Value.int v_hasLeast, Value.int v_hasFeel]))] sz) [(o, Sum.inr (7, [Value.int v_length, Value.int p0, Value.int v_start, Value.ref o_into, Value.ref a_text, Value.int v_next, Value.int v_token, Value.int v_start, Value.int v_value, Value.ref a_nameStart, Value.ref a_nameEnd, Value.int v_hasElse, Value.int v_hasLeast, Value.int v_hasFeel]))]) (va_A [(o, Sum.inr (7, [Value.int v_length, Value.int v_faultKind, Value.int v_faultPlace, Value.ref o_into, Value.ref a_text, Value.int v_next, Value.int v_token, Value.int v_start, Value.int v_value, Value.ref a_nameStart, Value.ref a_nameEnd, Value.int v_hasElse, Value.int v_hasLeast, Value.int v_hasFeel]))] sz)) 0 0 (va_A [(o, Sum.inr (7, [Value.int v_length, Value.int v_faultKind, Value.int v_faultPlace, Value.ref o_into, Value.ref a_text, Value.int v_next, Value.int v_token, Value.int v_start, Value.int v_value, Value.ref a_nameStart, Value.ref a_nameEnd, Value.int v_hasElse, Value.int v_hasLeast, Value.int v_hasFeel]))] sz) := by
  refine Met.ofW (cc := cX7_fail) (maxL := 2) (ret := (some .boolean)) pn_X7 rfl ?_
  intro p e s m args below meth c s₁ B hml hv
  obtain ⟨rfl, hsz, hP, hK, hD0⟩ := hv
  have hx := B.exec
  have hb := B.bytes
  have hr := B.returns
  have hts := atoms_spec (ws := wsX7_fail) B.pre
  have hown : s.vm.findClass RX7 = some m.cls := findClass_of_methodNamed B.named
  have hlocks := B.notSynchronized
  subst hsz
  have hD := hD0.self (sz := s.heap.size)
  generalize hAe : va_A [(o, Sum.inr (7, [Value.int v_length, Value.int v_faultKind, Value.int v_faultPlace, Value.ref o_into, Value.ref a_text, Value.int v_next, Value.int v_token, Value.int v_start, Value.int v_value, Value.ref a_nameStart, Value.ref a_nameEnd, Value.int v_hasElse, Value.int v_hasLeast, Value.int v_hasFeel]))] s.heap.size = A at hD ⊢
  have hA : ∀ q : Nat, s.heap.size ≤ q → A q := fun q h => by rw [← hAe]; exact Or.inr h
  have hS : va_S A s.heap s.heap [] := va_S.rf
  have hP : va_P (dC, dI) vwCl [(o, Sum.inr (7, [Value.int v_length, Value.int v_faultKind, Value.int v_faultPlace, Value.ref o_into, Value.ref a_text, Value.int v_next, Value.int v_token, Value.int v_start, Value.int v_value, Value.ref a_nameStart, Value.ref a_nameEnd, Value.int v_hasElse, Value.int v_hasLeast, Value.int v_hasFeel]))] s.heap := hP
  have hl := lv_entry ([Value.ref o, Value.int p0]) (n := 2) (Nat.le_of_ble_eq_true rfl)
  rw [lg_entry_eq]
  generalize (lg_sl ([Value.ref o, Value.int p0]) ++ List.replicate (2 - (lg_sl ([Value.ref o, Value.int p0])).length) Slot.unset).toArray = ls at hl ⊢
  have hl : lv_has ls 2 [(0, Value.ref o), (1, Value.int p0)] := hl
  refine lv_aload_n hx hb dX7_fail_0 rfl (lv_at hl 0 rfl) ?_
  refine lv_iload_n hx hb dX7_fail_1 rfl (lv_at hl 1 rfl) ?_
  refine va_put (D := (dC, dI)) (ci := 7) (v := Value.int p0) (ty := FieldType.int) (C := RX7) (T := TX7) (N := 14) hx hb hts iw_X7_fail_X7 tyX7 tyX7_ok nmX7 hown hK hP hD hS 0 rfl rfl 1 (by decide) (hts _ kk_X7_fail_0) (fun _ h9 => h9) rfl (by decide +kernel) rfl rfl (Nat.le_of_ble_eq_true rfl) dX7_fail_2 (fun H locs hP hD hS => ?_)
  have hP : va_P (dC, dI) vwCl [(o, Sum.inr (7, [Value.int v_length, Value.int p0, Value.int v_faultPlace, Value.ref o_into, Value.ref a_text, Value.int v_next, Value.int v_token, Value.int v_start, Value.int v_value, Value.ref a_nameStart, Value.ref a_nameEnd, Value.int v_hasElse, Value.int v_hasLeast, Value.int v_hasFeel]))] H := hP
  have hD : va_D A [(o, Sum.inr (7, [Value.int v_length, Value.int p0, Value.int v_faultPlace, Value.ref o_into, Value.ref a_text, Value.int v_next, Value.int v_token, Value.int v_start, Value.int v_value, Value.ref a_nameStart, Value.ref a_nameEnd, Value.int v_hasElse, Value.int v_hasLeast, Value.int v_hasFeel]))] := hD
  refine lv_aload_n hx hb dX7_fail_5 rfl (lv_at hl 0 rfl) ?_
  refine lv_aload_n hx hb dX7_fail_6 rfl (lv_at hl 0 rfl) ?_
  refine va_get (D := (dC, dI)) (ci := 7) (v := Value.int v_start) (C := RX7) (T := TX7) (N := 14) hx hb hts iw_X7_fail_X7 hown hK hP 0 rfl rfl 7 (by decide) (hts _ kk_X7_fail_1) (fun _ h9 => h9) rfl dX7_fail_7 ?_
  refine va_put (D := (dC, dI)) (ci := 7) (v := Value.int v_start) (ty := FieldType.int) (C := RX7) (T := TX7) (N := 14) hx hb hts iw_X7_fail_X7 tyX7 tyX7_ok nmX7 hown hK hP hD hS 0 rfl rfl 2 (by decide) (hts _ kk_X7_fail_2) (fun _ h9 => h9) rfl (by decide +kernel) rfl rfl (Nat.le_of_ble_eq_true rfl) dX7_fail_10 (fun H locs hP hD hS => ?_)
  have hP : va_P (dC, dI) vwCl [(o, Sum.inr (7, [Value.int v_length, Value.int p0, Value.int v_start, Value.ref o_into, Value.ref a_text, Value.int v_next, Value.int v_token, Value.int v_start, Value.int v_value, Value.ref a_nameStart, Value.ref a_nameEnd, Value.int v_hasElse, Value.int v_hasLeast, Value.int v_hasFeel]))] H := hP
  have hD : va_D A [(o, Sum.inr (7, [Value.int v_length, Value.int p0, Value.int v_start, Value.ref o_into, Value.ref a_text, Value.int v_next, Value.int v_token, Value.int v_start, Value.int v_value, Value.ref a_nameStart, Value.ref a_nameEnd, Value.int v_hasElse, Value.int v_hasLeast, Value.int v_hasFeel]))] := hD
  refine lv_iconst (v := 0) hx hb dX7_fail_13 (by decide) ?_
  have hP9 := hP.sub (ws' := [(o, Sum.inr (7, [Value.int v_length, Value.int p0, Value.int v_start, Value.ref o_into, Value.ref a_text, Value.int v_next, Value.int v_token, Value.int v_start, Value.int v_value, Value.ref a_nameStart, Value.ref a_nameEnd, Value.int v_hasElse, Value.int v_hasLeast, Value.int v_hasFeel]))]) [0] rfl
  have hD9 := hD.sub (ws' := [(o, Sum.inr (7, [Value.int v_length, Value.int p0, Value.int v_start, Value.ref o_into, Value.ref a_text, Value.int v_next, Value.int v_token, Value.int v_start, Value.int v_value, Value.ref a_nameStart, Value.ref a_nameEnd, Value.int v_hasElse, Value.int v_hasLeast, Value.int v_hasFeel]))]) [0] (by decide) rfl
  exact W.zret (v := 0) hx hb hr rfl (fun t ht hW => ⟨⟨0, 0, rfl, rfl, rfl, by rw [ht]; exact hP9, hD9⟩, hS.F ht⟩) hS.2.2 dX7_fail_14

set_option maxHeartbeats 4000000 in
set_option maxRecDepth 100000 in
theorem ct_X7_isNumber (l : Launch) (dC : Nat → ClassId) (dI : Nat → Nat → Nat) (o : Nat) (p0 : Int32) (p1 : Int32) (v_length : Int32) (v_faultKind : Int32) (v_faultPlace : Int32) (o_into : Nat) (a_text : Nat) (v_next : Int32) (v_token : Int32) (v_start : Int32) (v_value : Int32) (a_nameStart : Nat) (a_nameEnd : Nat) (v_hasElse : Int32) (v_hasLeast : Int32) (v_hasFeel : Int32) (k_a_text : ClassId) (f_a_text : Nat → Int32) (cc : Nat) (hv_next : iv v_next 0 900) (hv_token : iv v_token 0 5) (hv_start : iv v_start 0 900) (hcu : cuK f_a_text v_length.toNatClampNeg cc v_next v_token v_start) (sz : Nat) : Met l yX7_isNumber wsX7_isNumber ({ frames := 1, cells := 0, slots := 0, locals := 21 }) (va_Pc [Value.ref o, Value.int p0, Value.int p1] (fun U => U.heap.size = sz ∧ va_P (dC, dI) vwCl [(o, Sum.inr (7, [Value.int v_length, Value.int v_faultKind, Value.int v_faultPlace, Value.ref o_into, Value.ref a_text, Value.int v_next, Value.int v_token, Value.int v_start, Value.int v_value, Value.ref a_nameStart, Value.ref a_nameEnd, Value.int v_hasElse, Value.int v_hasLeast, Value.int v_hasFeel])), (a_text, Sum.inl (k_a_text, 900, Sum.inl f_a_text))] U.heap ∧ va_K (dC, dI) vwCl [(k_a_text, FieldType.byte)] U ∧ va_D (fun _ => True) [(o, Sum.inr (7, [Value.int v_length, Value.int v_faultKind, Value.int v_faultPlace, Value.ref o_into, Value.ref a_text, Value.int v_next, Value.int v_token, Value.int v_start, Value.int v_value, Value.ref a_nameStart, Value.ref a_nameEnd, Value.int v_hasElse, Value.int v_hasLeast, Value.int v_hasFeel])), (a_text, Sum.inl (k_a_text, 900, Sum.inl f_a_text))])) (va_Qi (fun (r u : Int32) => u = r) (fun (r : Int32) t => ∃ (e_v_faultKind : Int32) (e_v_faultPlace : Int32) (e_v_value : Int32), ((r = 0 ∧ (pnum f_a_text v_length.toNatClampNeg p0.toInt p1.toInt cc = .error (e_v_faultKind.toInt, e_v_faultPlace.toInt))) ∨ (r = 1 ∧ (pnum f_a_text v_length.toNatClampNeg p0.toInt p1.toInt cc = .ok (e_v_value.toInt, tkE f_a_text v_length.toNatClampNeg cc)) ∧ (p0.toInt ≤ e_v_value.toInt) ∧ (e_v_value.toInt ≤ p1.toInt) ∧ (v_faultKind = e_v_faultKind) ∧ (v_faultPlace = e_v_faultPlace))) ∧ va_P (dC, dI) vwCl [(o, Sum.inr (7, [Value.int v_length, Value.int e_v_faultKind, Value.int e_v_faultPlace, Value.ref o_into, Value.ref a_text, Value.int v_next, Value.int v_token, Value.int v_start, Value.int e_v_value, Value.ref a_nameStart, Value.ref a_nameEnd, Value.int v_hasElse, Value.int v_hasLeast, Value.int v_hasFeel])), (a_text, Sum.inl (k_a_text, 900, Sum.inl f_a_text))] t.heap ∧ va_D (va_A [(o, Sum.inr (7, [Value.int v_length, Value.int v_faultKind, Value.int v_faultPlace, Value.ref o_into, Value.ref a_text, Value.int v_next, Value.int v_token, Value.int v_start, Value.int v_value, Value.ref a_nameStart, Value.ref a_nameEnd, Value.int v_hasElse, Value.int v_hasLeast, Value.int v_hasFeel])), (a_text, Sum.inl (k_a_text, 900, Sum.inl f_a_text))] sz) [(o, Sum.inr (7, [Value.int v_length, Value.int e_v_faultKind, Value.int e_v_faultPlace, Value.ref o_into, Value.ref a_text, Value.int v_next, Value.int v_token, Value.int v_start, Value.int e_v_value, Value.ref a_nameStart, Value.ref a_nameEnd, Value.int v_hasElse, Value.int v_hasLeast, Value.int v_hasFeel])), (a_text, Sum.inl (k_a_text, 900, Sum.inl f_a_text))]) (va_A [(o, Sum.inr (7, [Value.int v_length, Value.int v_faultKind, Value.int v_faultPlace, Value.ref o_into, Value.ref a_text, Value.int v_next, Value.int v_token, Value.int v_start, Value.int v_value, Value.ref a_nameStart, Value.ref a_nameEnd, Value.int v_hasElse, Value.int v_hasLeast, Value.int v_hasFeel])), (a_text, Sum.inl (k_a_text, 900, Sum.inl f_a_text))] sz)) 0 0 (va_A [(o, Sum.inr (7, [Value.int v_length, Value.int v_faultKind, Value.int v_faultPlace, Value.ref o_into, Value.ref a_text, Value.int v_next, Value.int v_token, Value.int v_start, Value.int v_value, Value.ref a_nameStart, Value.ref a_nameEnd, Value.int v_hasElse, Value.int v_hasLeast, Value.int v_hasFeel])), (a_text, Sum.inl (k_a_text, 900, Sum.inl f_a_text))] sz) := by
  refine Met.ofW (cc := cX7_isNumber) (maxL := 4) (ret := (some .boolean)) pn_X7 rfl ?_
  intro p e s m args below meth c s₁ B hml hv
  obtain ⟨rfl, hsz, hP, hK, hD0⟩ := hv
  have hx := B.exec
  have hb := B.bytes
  have hr := B.returns
  have hts := atoms_spec (ws := wsX7_isNumber) B.pre
  have hown : s.vm.findClass RX7 = some m.cls := findClass_of_methodNamed B.named
  have hlocks := B.notSynchronized
  subst hsz
  have hD := hD0.self (sz := s.heap.size)
  generalize hAe : va_A [(o, Sum.inr (7, [Value.int v_length, Value.int v_faultKind, Value.int v_faultPlace, Value.ref o_into, Value.ref a_text, Value.int v_next, Value.int v_token, Value.int v_start, Value.int v_value, Value.ref a_nameStart, Value.ref a_nameEnd, Value.int v_hasElse, Value.int v_hasLeast, Value.int v_hasFeel])), (a_text, Sum.inl (k_a_text, 900, Sum.inl f_a_text))] s.heap.size = A at hD ⊢
  have hA : ∀ q : Nat, s.heap.size ≤ q → A q := fun q h => by rw [← hAe]; exact Or.inr h
  have hS : va_S A s.heap s.heap [] := va_S.rf
  have hP : va_P (dC, dI) vwCl [(o, Sum.inr (7, [Value.int v_length, Value.int v_faultKind, Value.int v_faultPlace, Value.ref o_into, Value.ref a_text, Value.int v_next, Value.int v_token, Value.int v_start, Value.int v_value, Value.ref a_nameStart, Value.ref a_nameEnd, Value.int v_hasElse, Value.int v_hasLeast, Value.int v_hasFeel])), (a_text, Sum.inl (k_a_text, 900, Sum.inl f_a_text))] s.heap := hP
  have hl := lv_entry ([Value.ref o, Value.int p0, Value.int p1]) (n := 4) (Nat.le_of_ble_eq_true rfl)
  rw [lg_entry_eq]
  generalize (lg_sl ([Value.ref o, Value.int p0, Value.int p1]) ++ List.replicate (4 - (lg_sl ([Value.ref o, Value.int p0, Value.int p1])).length) Slot.unset).toArray = ls at hl ⊢
  have hl : lv_has ls 4 [(0, Value.ref o), (1, Value.int p0), (2, Value.int p1)] := hl
  refine lv_aload_n hx hb dX7_isNumber_0 rfl (lv_at hl 0 rfl) ?_
  refine va_get (D := (dC, dI)) (ci := 7) (v := Value.int v_token) (C := RX7) (T := TX7) (N := 14) hx hb hts iw_X7_isNumber_X7 hown hK hP 0 rfl rfl 6 (by decide) (hts _ kk_X7_isNumber_0) (fun _ h9 => h9) rfl dX7_isNumber_1 ?_
  refine lv_iconst (v := 2) hx hb dX7_isNumber_4 (by decide) ?_
  have bv_token := hv_token.u
  refine lv_icmp_eq (tgt := 14) hx hb dX7_isNumber_5 (by decide) (fun c1 => ?_) (fun c1 => ?_)
  · have c19 := i32_eq c1 rfl (show (2 : Int32).toInt = 2 by decide)
    refine lv_aload_n hx hb dX7_isNumber_14 rfl (lv_at hl 0 rfl) ?_
    refine lv_iconst (v := 0) hx hb dX7_isNumber_15 (by decide) ?_
    refine va_put (D := (dC, dI)) (ci := 7) (v := Value.int 0) (ty := FieldType.int) (C := RX7) (T := TX7) (N := 14) hx hb hts iw_X7_isNumber_X7 tyX7 tyX7_ok nmX7 hown hK hP hD hS 0 rfl rfl 8 (by decide) (hts _ kk_X7_isNumber_1) (fun _ h9 => h9) rfl (by decide +kernel) rfl rfl (Nat.le_of_ble_eq_true rfl) dX7_isNumber_16 (fun H locs hP hD hS => ?_)
    have hP : va_P (dC, dI) vwCl [(o, Sum.inr (7, [Value.int v_length, Value.int v_faultKind, Value.int v_faultPlace, Value.ref o_into, Value.ref a_text, Value.int v_next, Value.int v_token, Value.int v_start, Value.int 0, Value.ref a_nameStart, Value.ref a_nameEnd, Value.int v_hasElse, Value.int v_hasLeast, Value.int v_hasFeel])), (a_text, Sum.inl (k_a_text, 900, Sum.inl f_a_text))] H := hP
    have hD : va_D A [(o, Sum.inr (7, [Value.int v_length, Value.int v_faultKind, Value.int v_faultPlace, Value.ref o_into, Value.ref a_text, Value.int v_next, Value.int v_token, Value.int v_start, Value.int 0, Value.ref a_nameStart, Value.ref a_nameEnd, Value.int v_hasElse, Value.int v_hasLeast, Value.int v_hasFeel])), (a_text, Sum.inl (k_a_text, 900, Sum.inl f_a_text))] := hD
    refine lv_aload_n hx hb dX7_isNumber_19 rfl (lv_at hl 0 rfl) ?_
    refine va_get (D := (dC, dI)) (ci := 7) (v := Value.int v_start) (C := RX7) (T := TX7) (N := 14) hx hb hts iw_X7_isNumber_X7 hown hK hP 0 rfl rfl 7 (by decide) (hts _ kk_X7_isNumber_2) (fun _ h9 => h9) rfl dX7_isNumber_20 ?_
    refine lv_istore_n (lv' := [(3, Value.int v_start), (0, Value.ref o), (1, Value.int p0), (2, Value.int p1)]) hx hb dX7_isNumber_23 rfl hl (by decide) rfl (fun ls hl => ?_)
    refine tl_loop (I := fun nn H locs ls => ∃ (v2 : Int32) (v3 : Int32), nn = (900 - v2.toInt).toNat ∧ iv v2 0 900 ∧ iv v3 0 9999 ∧ (v3.toInt = nvd f_a_text v_start.toNatClampNeg (v2.toInt - v_start.toInt).toNat) ∧ (v_start.toInt ≤ v2.toInt) ∧ (v2.toInt ≤ v_next.toInt) ∧  va_P (dC, dI) vwCl [(o, Sum.inr (7, [Value.int v_length, Value.int v_faultKind, Value.int v_faultPlace, Value.ref o_into, Value.ref a_text, Value.int v_next, Value.int v_token, Value.int v_start, Value.int v3, Value.ref a_nameStart, Value.ref a_nameEnd, Value.int v_hasElse, Value.int v_hasLeast, Value.int v_hasFeel])), (a_text, Sum.inl (k_a_text, 900, Sum.inl f_a_text))] H ∧ va_D A [(o, Sum.inr (7, [Value.int v_length, Value.int v_faultKind, Value.int v_faultPlace, Value.ref o_into, Value.ref a_text, Value.int v_next, Value.int v_token, Value.int v_start, Value.int v3, Value.ref a_nameStart, Value.ref a_nameEnd, Value.int v_hasElse, Value.int v_hasLeast, Value.int v_hasFeel])), (a_text, Sum.inl (k_a_text, 900, Sum.inl f_a_text))] ∧ va_S A s.heap H locs ∧ lv_has ls 4 [(3, Value.int v2), (0, Value.ref o), (1, Value.int p0), (2, Value.int p1)]) ?_ ⟨v_start, 0, rfl, hv_start, (iv.m (by decide)), (by first | exact nm_0 | exact nm_up hi24_0 (by assumption) (by omega) (by omega) (by omega) (by omega)), (by omega), (by first | omega | (have hq9 := nm_len hcu (by omega); omega)), hP, hD, hS, lv_sub hl [0, 1, 2, 3] rfl⟩
    clear hP hD hS hl
    intro nn24 H locs ls hI ih24
    obtain ⟨v2, v3, hn24, hv2, hv3, hi24_0, hi24_1, hi24_2, hP, hD, hS, hl⟩ := hI
    have bv2 := hv2.u
    refine lv_iload_n hx hb dX7_isNumber_24 rfl (lv_at hl 0 rfl) ?_
    refine lv_aload_n hx hb dX7_isNumber_25 rfl (lv_at hl 1 rfl) ?_
    refine va_get (D := (dC, dI)) (ci := 7) (v := Value.int v_next) (C := RX7) (T := TX7) (N := 14) hx hb hts iw_X7_isNumber_X7 hown hK hP 0 rfl rfl 5 (by decide) (hts _ kk_X7_isNumber_3) (fun _ h9 => h9) rfl dX7_isNumber_26 ?_
    have bv_next := hv_next.u
    refine lv_icmp_ge (tgt := 59) hx hb dX7_isNumber_29 (by decide) (fun c4 => ?_) (fun c4 => ?_)
    · have c49 := i32_le c4 rfl rfl
      refine lv_aload_n hx hb dX7_isNumber_59 rfl (lv_at hl 1 rfl) ?_
      refine va_get (D := (dC, dI)) (ci := 7) (v := Value.int v3) (C := RX7) (T := TX7) (N := 14) hx hb hts iw_X7_isNumber_X7 hown hK hP 0 rfl rfl 8 (by decide) (hts _ kk_X7_isNumber_1) (fun _ h9 => h9) rfl dX7_isNumber_60 ?_
      refine lv_iload_n hx hb dX7_isNumber_63 rfl (lv_at hl 2 rfl) ?_
      have bv3 := hv3.u
      have bp0 := i32_rng p0
      refine lv_icmp_lt (tgt := 75) hx hb dX7_isNumber_64 (by decide) (fun c5 => ?_) (fun c5 => ?_)
      · have c59 := i32_lt c5 rfl rfl
        refine lv_aload_n hx hb dX7_isNumber_75 rfl (lv_at hl 1 rfl) ?_
        refine lv_iconst (v := 2) hx hb dX7_isNumber_76 (by decide) ?_
        have hPc := hP.sub (ws' := [(o, Sum.inr (7, [Value.int v_length, Value.int v_faultKind, Value.int v_faultPlace, Value.ref o_into, Value.ref a_text, Value.int v_next, Value.int v_token, Value.int v_start, Value.int v3, Value.ref a_nameStart, Value.ref a_nameEnd, Value.int v_hasElse, Value.int v_hasLeast, Value.int v_hasFeel]))]) [0] rfl
        have hDc := hD.sub (ws' := [(o, Sum.inr (7, [Value.int v_length, Value.int v_faultKind, Value.int v_faultPlace, Value.ref o_into, Value.ref a_text, Value.int v_next, Value.int v_token, Value.int v_start, Value.int v3, Value.ref a_nameStart, Value.ref a_nameEnd, Value.int v_hasElse, Value.int v_hasLeast, Value.int v_hasFeel]))]) [0] (by decide) rfl
        have hKc := hK.sub (tys' := []) [] rfl
        have hFc := va_free (wc := [(o, Sum.inr (7, [Value.int v_length, Value.int v_faultKind, Value.int v_faultPlace, Value.ref o_into, Value.ref a_text, Value.int v_next, Value.int v_token, Value.int v_start, Value.int v3, Value.ref a_nameStart, Value.ref a_nameEnd, Value.int v_hasElse, Value.int v_hasLeast, Value.int v_hasFeel]))]) hD hS hA [0] rfl
        refine va_calli (va_runV (As := [Value.int 2]) (rest := []) ⟨hx, hb, hml, hown, hts⟩ (ct_X7_fail l dC dI o 2 v_length v_faultKind v_faultPlace o_into a_text v_next v_token v_start v3 a_nameStart a_nameEnd v_hasElse v_hasLeast v_hasFeel H.size) (cwV 1 hts gX7_isNumber_X7_fail rfl rfl rfl ⟨rfl, cn_X7.1, cn_X7.2, ds_8⟩ ⟨Nat.le_of_ble_eq_true rfl, Nat.le_of_ble_eq_true rfl⟩) ⟨fun a U g mk q => by obtain ⟨q0, q1, qP, qK, qD⟩ := q; exact ⟨q0, q1, qP, va_K.moved (u := U) (U := U.calling g mk a) (Vm.Alike.refl U.vm) qK, qD⟩, va_recv hKc hPc (ci := 7) (q0 := 0) rfl rfl, fun U hU hW => ⟨rfl, by rw [hU], by rw [hU]; exact hPc, va_K.moved hW.alike hKc, hDc.weaken (fun _ _ _ _ => trivial)⟩⟩ rfl rfl hl.1 rfl (lv_room (Nat.le_of_ble_eq_true rfl)) dX7_isNumber_77 ⟨Nat.le_of_ble_eq_true rfl, Nat.le_of_ble_eq_true rfl⟩) hS (fun q _ h => hFc q h) hFc (fun r6 u t H1 locs ht hvm hw hB hz1 hk1 hS => ?_)
        have hw : r6 = u := hw.symm
        subst hw
        obtain ⟨hr9, hP1, hD1⟩ := hB
        rw [ht] at hP1
        obtain ⟨hP, hD⟩ := va_join (wr := [(a_text, Sum.inl (k_a_text, 900, Sum.inl f_a_text))]) (w1 := [(o, Sum.inr (7, [Value.int v_length, Value.int 2, Value.int v_start, Value.ref o_into, Value.ref a_text, Value.int v_next, Value.int v_token, Value.int v_start, Value.int v3, Value.ref a_nameStart, Value.ref a_nameEnd, Value.int v_hasElse, Value.int v_hasLeast, Value.int v_hasFeel]))]) hP hD [0] [1] rfl rfl (by decide) (by decide) hk1 hFc hP1 hD1
        clear hPc hDc hKc hFc hP1 hD1 hk1 hz1
        generalize H1 = H at hP hS ⊢
        have hP : va_P (dC, dI) vwCl [(a_text, Sum.inl (k_a_text, 900, Sum.inl f_a_text)), (o, Sum.inr (7, [Value.int v_length, Value.int 2, Value.int v_start, Value.ref o_into, Value.ref a_text, Value.int v_next, Value.int v_token, Value.int v_start, Value.int v3, Value.ref a_nameStart, Value.ref a_nameEnd, Value.int v_hasElse, Value.int v_hasLeast, Value.int v_hasFeel]))] H := hP
        have hD : va_D A [(a_text, Sum.inl (k_a_text, 900, Sum.inl f_a_text)), (o, Sum.inr (7, [Value.int v_length, Value.int 2, Value.int v_start, Value.ref o_into, Value.ref a_text, Value.int v_next, Value.int v_token, Value.int v_start, Value.int v3, Value.ref a_nameStart, Value.ref a_nameEnd, Value.int v_hasElse, Value.int v_hasLeast, Value.int v_hasFeel]))] := hD
        refine W.widen (k := 0) (n := 0) (by decide) (by decide) ?_
        subst hr9
        refine lv_if_eq (tgt := 87) hx hb dX7_isNumber_80 (by decide) (fun _ => ?_) (fun cz => absurd cz (by decide))
        refine lv_iconst (v := 0) hx hb dX7_isNumber_87 (by decide) ?_
        have hP9 := hP.sub (ws' := [(o, Sum.inr (7, [Value.int v_length, Value.int 2, Value.int v_start, Value.ref o_into, Value.ref a_text, Value.int v_next, Value.int v_token, Value.int v_start, Value.int v3, Value.ref a_nameStart, Value.ref a_nameEnd, Value.int v_hasElse, Value.int v_hasLeast, Value.int v_hasFeel])), (a_text, Sum.inl (k_a_text, 900, Sum.inl f_a_text))]) [1, 0] rfl
        have hD9 := hD.sub (ws' := [(o, Sum.inr (7, [Value.int v_length, Value.int 2, Value.int v_start, Value.ref o_into, Value.ref a_text, Value.int v_next, Value.int v_token, Value.int v_start, Value.int v3, Value.ref a_nameStart, Value.ref a_nameEnd, Value.int v_hasElse, Value.int v_hasLeast, Value.int v_hasFeel])), (a_text, Sum.inl (k_a_text, 900, Sum.inl f_a_text))]) [1, 0] (by decide) rfl
        have bp1 := i32_rng p1
        have bv_start := hv_start.u
        exact W.zret (v := 0) hx hb hr rfl (fun t ht hW => ⟨⟨0, 0, rfl, rfl, 2, v_start, v3, (Or.inl ⟨rfl, (by first | exact pn_e1 hcu (by omega) | exact pn_e2 hcu (by omega) (nm_end hcu hi24_0 (by omega)) (by omega))⟩), by rw [ht]; exact hP9, hD9⟩, hS.F ht⟩) hS.2.2 dX7_isNumber_88
      · have c59 := i32_nlt c5 rfl rfl
        refine lv_aload_n hx hb dX7_isNumber_67 rfl (lv_at hl 1 rfl) ?_
        refine va_get (D := (dC, dI)) (ci := 7) (v := Value.int v3) (C := RX7) (T := TX7) (N := 14) hx hb hts iw_X7_isNumber_X7 hown hK hP 0 rfl rfl 8 (by decide) (hts _ kk_X7_isNumber_1) (fun _ h9 => h9) rfl dX7_isNumber_68 ?_
        refine lv_iload_n hx hb dX7_isNumber_71 rfl (lv_at hl 3 rfl) ?_
        have bp1 := i32_rng p1
        refine lv_icmp_le (tgt := 83) hx hb dX7_isNumber_72 (by decide) (fun c7 => ?_) (fun c7 => ?_)
        · have c79 := i32_le c7 rfl rfl
          refine lv_iconst (v := 1) hx hb dX7_isNumber_83 (by decide) ?_
          refine lv_goto (tgt := 88) hx hb dX7_isNumber_84 (by decide) ?_
          have hP9 := hP.sub (ws' := [(o, Sum.inr (7, [Value.int v_length, Value.int v_faultKind, Value.int v_faultPlace, Value.ref o_into, Value.ref a_text, Value.int v_next, Value.int v_token, Value.int v_start, Value.int v3, Value.ref a_nameStart, Value.ref a_nameEnd, Value.int v_hasElse, Value.int v_hasLeast, Value.int v_hasFeel])), (a_text, Sum.inl (k_a_text, 900, Sum.inl f_a_text))]) [0, 1] rfl
          have hD9 := hD.sub (ws' := [(o, Sum.inr (7, [Value.int v_length, Value.int v_faultKind, Value.int v_faultPlace, Value.ref o_into, Value.ref a_text, Value.int v_next, Value.int v_token, Value.int v_start, Value.int v3, Value.ref a_nameStart, Value.ref a_nameEnd, Value.int v_hasElse, Value.int v_hasLeast, Value.int v_hasFeel])), (a_text, Sum.inl (k_a_text, 900, Sum.inl f_a_text))]) [0, 1] (by decide) rfl
          have bv_start := hv_start.u
          exact W.zret (v := 1) hx hb hr rfl (fun t ht hW => ⟨⟨1, 1, rfl, rfl, v_faultKind, v_faultPlace, v3, (Or.inr (⟨rfl, (by exact pn_ok hcu (by omega) (nm_end hcu hi24_0 (by omega)) (by omega) (by omega)), (by first | assumption | omega), (by first | assumption | omega), (by rfl), (by rfl)⟩)), by rw [ht]; exact hP9, hD9⟩, hS.F ht⟩) hS.2.2 dX7_isNumber_88
        · have c79 := i32_nle c7 rfl rfl
          refine lv_aload_n hx hb dX7_isNumber_75 rfl (lv_at hl 1 rfl) ?_
          refine lv_iconst (v := 2) hx hb dX7_isNumber_76 (by decide) ?_
          have hPc := hP.sub (ws' := [(o, Sum.inr (7, [Value.int v_length, Value.int v_faultKind, Value.int v_faultPlace, Value.ref o_into, Value.ref a_text, Value.int v_next, Value.int v_token, Value.int v_start, Value.int v3, Value.ref a_nameStart, Value.ref a_nameEnd, Value.int v_hasElse, Value.int v_hasLeast, Value.int v_hasFeel]))]) [0] rfl
          have hDc := hD.sub (ws' := [(o, Sum.inr (7, [Value.int v_length, Value.int v_faultKind, Value.int v_faultPlace, Value.ref o_into, Value.ref a_text, Value.int v_next, Value.int v_token, Value.int v_start, Value.int v3, Value.ref a_nameStart, Value.ref a_nameEnd, Value.int v_hasElse, Value.int v_hasLeast, Value.int v_hasFeel]))]) [0] (by decide) rfl
          have hKc := hK.sub (tys' := []) [] rfl
          have hFc := va_free (wc := [(o, Sum.inr (7, [Value.int v_length, Value.int v_faultKind, Value.int v_faultPlace, Value.ref o_into, Value.ref a_text, Value.int v_next, Value.int v_token, Value.int v_start, Value.int v3, Value.ref a_nameStart, Value.ref a_nameEnd, Value.int v_hasElse, Value.int v_hasLeast, Value.int v_hasFeel]))]) hD hS hA [0] rfl
          refine va_calli (va_runV (As := [Value.int 2]) (rest := []) ⟨hx, hb, hml, hown, hts⟩ (ct_X7_fail l dC dI o 2 v_length v_faultKind v_faultPlace o_into a_text v_next v_token v_start v3 a_nameStart a_nameEnd v_hasElse v_hasLeast v_hasFeel H.size) (cwV 1 hts gX7_isNumber_X7_fail rfl rfl rfl ⟨rfl, cn_X7.1, cn_X7.2, ds_8⟩ ⟨Nat.le_of_ble_eq_true rfl, Nat.le_of_ble_eq_true rfl⟩) ⟨fun a U g mk q => by obtain ⟨q0, q1, qP, qK, qD⟩ := q; exact ⟨q0, q1, qP, va_K.moved (u := U) (U := U.calling g mk a) (Vm.Alike.refl U.vm) qK, qD⟩, va_recv hKc hPc (ci := 7) (q0 := 0) rfl rfl, fun U hU hW => ⟨rfl, by rw [hU], by rw [hU]; exact hPc, va_K.moved hW.alike hKc, hDc.weaken (fun _ _ _ _ => trivial)⟩⟩ rfl rfl hl.1 rfl (lv_room (Nat.le_of_ble_eq_true rfl)) dX7_isNumber_77 ⟨Nat.le_of_ble_eq_true rfl, Nat.le_of_ble_eq_true rfl⟩) hS (fun q _ h => hFc q h) hFc (fun r8 u t H1 locs ht hvm hw hB hz1 hk1 hS => ?_)
          have hw : r8 = u := hw.symm
          subst hw
          obtain ⟨hr9, hP1, hD1⟩ := hB
          rw [ht] at hP1
          obtain ⟨hP, hD⟩ := va_join (wr := [(a_text, Sum.inl (k_a_text, 900, Sum.inl f_a_text))]) (w1 := [(o, Sum.inr (7, [Value.int v_length, Value.int 2, Value.int v_start, Value.ref o_into, Value.ref a_text, Value.int v_next, Value.int v_token, Value.int v_start, Value.int v3, Value.ref a_nameStart, Value.ref a_nameEnd, Value.int v_hasElse, Value.int v_hasLeast, Value.int v_hasFeel]))]) hP hD [0] [1] rfl rfl (by decide) (by decide) hk1 hFc hP1 hD1
          clear hPc hDc hKc hFc hP1 hD1 hk1 hz1
          generalize H1 = H at hP hS ⊢
          have hP : va_P (dC, dI) vwCl [(a_text, Sum.inl (k_a_text, 900, Sum.inl f_a_text)), (o, Sum.inr (7, [Value.int v_length, Value.int 2, Value.int v_start, Value.ref o_into, Value.ref a_text, Value.int v_next, Value.int v_token, Value.int v_start, Value.int v3, Value.ref a_nameStart, Value.ref a_nameEnd, Value.int v_hasElse, Value.int v_hasLeast, Value.int v_hasFeel]))] H := hP
          have hD : va_D A [(a_text, Sum.inl (k_a_text, 900, Sum.inl f_a_text)), (o, Sum.inr (7, [Value.int v_length, Value.int 2, Value.int v_start, Value.ref o_into, Value.ref a_text, Value.int v_next, Value.int v_token, Value.int v_start, Value.int v3, Value.ref a_nameStart, Value.ref a_nameEnd, Value.int v_hasElse, Value.int v_hasLeast, Value.int v_hasFeel]))] := hD
          refine W.widen (k := 0) (n := 0) (by decide) (by decide) ?_
          subst hr9
          refine lv_if_eq (tgt := 87) hx hb dX7_isNumber_80 (by decide) (fun _ => ?_) (fun cz => absurd cz (by decide))
          refine lv_iconst (v := 0) hx hb dX7_isNumber_87 (by decide) ?_
          have hP9 := hP.sub (ws' := [(o, Sum.inr (7, [Value.int v_length, Value.int 2, Value.int v_start, Value.ref o_into, Value.ref a_text, Value.int v_next, Value.int v_token, Value.int v_start, Value.int v3, Value.ref a_nameStart, Value.ref a_nameEnd, Value.int v_hasElse, Value.int v_hasLeast, Value.int v_hasFeel])), (a_text, Sum.inl (k_a_text, 900, Sum.inl f_a_text))]) [1, 0] rfl
          have hD9 := hD.sub (ws' := [(o, Sum.inr (7, [Value.int v_length, Value.int 2, Value.int v_start, Value.ref o_into, Value.ref a_text, Value.int v_next, Value.int v_token, Value.int v_start, Value.int v3, Value.ref a_nameStart, Value.ref a_nameEnd, Value.int v_hasElse, Value.int v_hasLeast, Value.int v_hasFeel])), (a_text, Sum.inl (k_a_text, 900, Sum.inl f_a_text))]) [1, 0] (by decide) rfl
          have bv_start := hv_start.u
          exact W.zret (v := 0) hx hb hr rfl (fun t ht hW => ⟨⟨0, 0, rfl, rfl, 2, v_start, v3, (Or.inl ⟨rfl, (by first | exact pn_e1 hcu (by omega) | exact pn_e2 hcu (by omega) (nm_end hcu hi24_0 (by omega)) (by omega))⟩), by rw [ht]; exact hP9, hD9⟩, hS.F ht⟩) hS.2.2 dX7_isNumber_88
    · have c49 := i32_nle c4 rfl rfl
      refine lv_aload_n hx hb dX7_isNumber_32 rfl (lv_at hl 1 rfl) ?_
      refine lv_aload_n hx hb dX7_isNumber_33 rfl (lv_at hl 1 rfl) ?_
      refine va_get (D := (dC, dI)) (ci := 7) (v := Value.int v3) (C := RX7) (T := TX7) (N := 14) hx hb hts iw_X7_isNumber_X7 hown hK hP 0 rfl rfl 8 (by decide) (hts _ kk_X7_isNumber_1) (fun _ h9 => h9) rfl dX7_isNumber_34 ?_
      refine lv_bipush (v := 10) hx hb dX7_isNumber_37 (by decide) ?_
      refine lv_imul hx hb dX7_isNumber_39 ?_
      refine lv_topi (fun x9 ex9 => ?_)
      have bv3 := hv3.u
      have tx9 := i32_mul ex9 rfl (show (10 : Int32).toInt = 10 by decide) (by omega) (by omega)
      refine lv_aload_n hx hb dX7_isNumber_40 rfl (lv_at hl 1 rfl) ?_
      refine va_get (D := (dC, dI)) (ci := 7) (v := Value.ref a_text) (C := RX7) (T := TX7) (N := 14) hx hb hts iw_X7_isNumber_X7 hown hK hP 0 rfl rfl 4 (by decide) (hts _ kk_X7_isNumber_4) (fun _ h9 => h9) rfl dX7_isNumber_41 ?_
      refine lv_iload_n hx hb dX7_isNumber_44 rfl (lv_at hl 0 rfl) ?_
      refine va_bald hx hb hK hP 1 0 rfl rfl (vq_in v2 900 (by omega)) dX7_isNumber_45 ?_
      refine lv_topi (fun x10 ex10 => ?_)
      have bv_start := hv_start.u
      have hdx10 := nm_dig hcu (by omega) ex10 (by omega) (by omega)
      have hwx10 := nm_b hcu (by omega) hi24_0 (by omega) (by omega)
      refine lv_iadd hx hb dX7_isNumber_46 ?_
      refine lv_topi (fun x11 ex11 => ?_)
      have tx11 := i32_add ex11 rfl rfl (by omega) (by omega)
      refine lv_bipush (v := 48) hx hb dX7_isNumber_47 (by decide) ?_
      refine lv_isub hx hb dX7_isNumber_49 ?_
      refine lv_topi (fun x12 ex12 => ?_)
      have tx12 := i32_sub ex12 rfl (show (48 : Int32).toInt = 48 by decide) (by omega) (by omega)
      refine va_put (D := (dC, dI)) (ci := 7) (v := Value.int x12) (ty := FieldType.int) (C := RX7) (T := TX7) (N := 14) hx hb hts iw_X7_isNumber_X7 tyX7 tyX7_ok nmX7 hown hK hP hD hS 0 rfl rfl 8 (by decide) (hts _ kk_X7_isNumber_1) (fun _ h9 => h9) rfl (by decide +kernel) rfl rfl (Nat.le_of_ble_eq_true rfl) dX7_isNumber_50 (fun H locs hP hD hS => ?_)
      have hP : va_P (dC, dI) vwCl [(o, Sum.inr (7, [Value.int v_length, Value.int v_faultKind, Value.int v_faultPlace, Value.ref o_into, Value.ref a_text, Value.int v_next, Value.int v_token, Value.int v_start, Value.int x12, Value.ref a_nameStart, Value.ref a_nameEnd, Value.int v_hasElse, Value.int v_hasLeast, Value.int v_hasFeel])), (a_text, Sum.inl (k_a_text, 900, Sum.inl f_a_text))] H := hP
      have hD : va_D A [(o, Sum.inr (7, [Value.int v_length, Value.int v_faultKind, Value.int v_faultPlace, Value.ref o_into, Value.ref a_text, Value.int v_next, Value.int v_token, Value.int v_start, Value.int x12, Value.ref a_nameStart, Value.ref a_nameEnd, Value.int v_hasElse, Value.int v_hasLeast, Value.int v_hasFeel])), (a_text, Sum.inl (k_a_text, 900, Sum.inl f_a_text))] := hD
      obtain ⟨x13, ex13⟩ : ∃ z : Int32, v2 + Int32.ofInt 1 = z := ⟨_, rfl⟩
      have tx13 := i32_inc ex13 rfl (by decide) (by omega) (by omega)
      refine lv_iinc (v := x13) (lv' := [(3, Value.int x13), (0, Value.ref o), (1, Value.int p0), (2, Value.int p1)]) hx hb dX7_isNumber_53 hl (k := 0) rfl ex13 (by decide) rfl (fun ls hl => ?_)
      refine lv_goto (tgt := 24) hx hb dX7_isNumber_56 (by decide) ?_
      exact ih24 _ _ _ _ (ms_up hn24 tx13 (by decide) (by omega)) ⟨x13, x12, rfl, (iv.m (by omega)), (iv.m (by omega)), (by first | exact nm_0 | exact nm_up hi24_0 (by assumption) (by omega) (by omega) (by omega) (by omega)), (by omega), (by first | omega | (have hq9 := nm_len hcu (by omega); omega)), hP, hD, hS, lv_sub hl [0, 1, 2, 3] rfl⟩
  · have c19 := i32_ne c1 rfl (show (2 : Int32).toInt = 2 by decide)
    refine lv_aload_n hx hb dX7_isNumber_8 rfl (lv_at hl 0 rfl) ?_
    refine lv_iconst (v := 1) hx hb dX7_isNumber_9 (by decide) ?_
    have hPc := hP.sub (ws' := [(o, Sum.inr (7, [Value.int v_length, Value.int v_faultKind, Value.int v_faultPlace, Value.ref o_into, Value.ref a_text, Value.int v_next, Value.int v_token, Value.int v_start, Value.int v_value, Value.ref a_nameStart, Value.ref a_nameEnd, Value.int v_hasElse, Value.int v_hasLeast, Value.int v_hasFeel]))]) [0] rfl
    have hDc := hD.sub (ws' := [(o, Sum.inr (7, [Value.int v_length, Value.int v_faultKind, Value.int v_faultPlace, Value.ref o_into, Value.ref a_text, Value.int v_next, Value.int v_token, Value.int v_start, Value.int v_value, Value.ref a_nameStart, Value.ref a_nameEnd, Value.int v_hasElse, Value.int v_hasLeast, Value.int v_hasFeel]))]) [0] (by decide) rfl
    have hKc := hK.sub (tys' := []) [] rfl
    have hFc := va_free (wc := [(o, Sum.inr (7, [Value.int v_length, Value.int v_faultKind, Value.int v_faultPlace, Value.ref o_into, Value.ref a_text, Value.int v_next, Value.int v_token, Value.int v_start, Value.int v_value, Value.ref a_nameStart, Value.ref a_nameEnd, Value.int v_hasElse, Value.int v_hasLeast, Value.int v_hasFeel]))]) hD hS hA [0] rfl
    refine va_calli (va_runV (As := [Value.int 1]) (rest := []) ⟨hx, hb, hml, hown, hts⟩ (ct_X7_fail l dC dI o 1 v_length v_faultKind v_faultPlace o_into a_text v_next v_token v_start v_value a_nameStart a_nameEnd v_hasElse v_hasLeast v_hasFeel s.heap.size) (cwV 1 hts gX7_isNumber_X7_fail rfl rfl rfl ⟨rfl, cn_X7.1, cn_X7.2, ds_8⟩ ⟨Nat.le_of_ble_eq_true rfl, Nat.le_of_ble_eq_true rfl⟩) ⟨fun a U g mk q => by obtain ⟨q0, q1, qP, qK, qD⟩ := q; exact ⟨q0, q1, qP, va_K.moved (u := U) (U := U.calling g mk a) (Vm.Alike.refl U.vm) qK, qD⟩, va_recv hKc hPc (ci := 7) (q0 := 0) rfl rfl, fun U hU hW => ⟨rfl, by rw [hU], by rw [hU]; exact hPc, va_K.moved hW.alike hKc, hDc.weaken (fun _ _ _ _ => trivial)⟩⟩ rfl rfl hl.1 rfl (lv_room (Nat.le_of_ble_eq_true rfl)) dX7_isNumber_10 ⟨Nat.le_of_ble_eq_true rfl, Nat.le_of_ble_eq_true rfl⟩) hS (fun q _ h => hFc q h) hFc (fun r14 u t H1 locs ht hvm hw hB hz1 hk1 hS => ?_)
    have hw : r14 = u := hw.symm
    subst hw
    obtain ⟨hr9, hP1, hD1⟩ := hB
    rw [ht] at hP1
    obtain ⟨hP, hD⟩ := va_join (wr := [(a_text, Sum.inl (k_a_text, 900, Sum.inl f_a_text))]) (w1 := [(o, Sum.inr (7, [Value.int v_length, Value.int 1, Value.int v_start, Value.ref o_into, Value.ref a_text, Value.int v_next, Value.int v_token, Value.int v_start, Value.int v_value, Value.ref a_nameStart, Value.ref a_nameEnd, Value.int v_hasElse, Value.int v_hasLeast, Value.int v_hasFeel]))]) hP hD [0] [1] rfl rfl (by decide) (by decide) hk1 hFc hP1 hD1
    clear hPc hDc hKc hFc hP1 hD1 hk1 hz1
    generalize H1 = H at hP hS ⊢
    have hP : va_P (dC, dI) vwCl [(a_text, Sum.inl (k_a_text, 900, Sum.inl f_a_text)), (o, Sum.inr (7, [Value.int v_length, Value.int 1, Value.int v_start, Value.ref o_into, Value.ref a_text, Value.int v_next, Value.int v_token, Value.int v_start, Value.int v_value, Value.ref a_nameStart, Value.ref a_nameEnd, Value.int v_hasElse, Value.int v_hasLeast, Value.int v_hasFeel]))] H := hP
    have hD : va_D A [(a_text, Sum.inl (k_a_text, 900, Sum.inl f_a_text)), (o, Sum.inr (7, [Value.int v_length, Value.int 1, Value.int v_start, Value.ref o_into, Value.ref a_text, Value.int v_next, Value.int v_token, Value.int v_start, Value.int v_value, Value.ref a_nameStart, Value.ref a_nameEnd, Value.int v_hasElse, Value.int v_hasLeast, Value.int v_hasFeel]))] := hD
    refine W.widen (k := 0) (n := 0) (by decide) (by decide) ?_
    subst hr9
    have hP9 := hP.sub (ws' := [(o, Sum.inr (7, [Value.int v_length, Value.int 1, Value.int v_start, Value.ref o_into, Value.ref a_text, Value.int v_next, Value.int v_token, Value.int v_start, Value.int v_value, Value.ref a_nameStart, Value.ref a_nameEnd, Value.int v_hasElse, Value.int v_hasLeast, Value.int v_hasFeel])), (a_text, Sum.inl (k_a_text, 900, Sum.inl f_a_text))]) [1, 0] rfl
    have hD9 := hD.sub (ws' := [(o, Sum.inr (7, [Value.int v_length, Value.int 1, Value.int v_start, Value.ref o_into, Value.ref a_text, Value.int v_next, Value.int v_token, Value.int v_start, Value.int v_value, Value.ref a_nameStart, Value.ref a_nameEnd, Value.int v_hasElse, Value.int v_hasLeast, Value.int v_hasFeel])), (a_text, Sum.inl (k_a_text, 900, Sum.inl f_a_text))]) [1, 0] (by decide) rfl
    have bp0 := i32_rng p0
    have bp1 := i32_rng p1
    have bv_next := hv_next.u
    have bv_start := hv_start.u
    exact W.zret (v := 0) hx hb hr rfl (fun t ht hW => ⟨⟨0, 0, rfl, rfl, 1, v_start, v_value, (Or.inl ⟨rfl, (by first | exact pn_e1 hcu (by omega) | exact pn_e2 hcu (by omega) (nm_end hcu hi24_0 (by omega)) (by omega))⟩), by rw [ht]; exact hP9, hD9⟩, hS.F ht⟩) hS.2.2 dX7_isNumber_13

