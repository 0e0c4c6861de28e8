set_option maxHeartbeats 4000000 in
set_option maxRecDepth 100000 in
theorem ct_X7_append (l : Launch) (dC : Nat → ClassId) (dI : Nat → Nat → Nat) (o : Nat) (p0 : Int32) (v_length : Int32) (v_faultKind : Int32) (v_faultPlace : Int32) (o_into : Nat) (a_text : Nat) (v_next : Int32) (v_token : Int32) (v_start : Int32) (v_value : Int32) (a_nameStart : Nat) (a_nameEnd : Nat) (v_hasElse : Int32) (v_hasLeast : Int32) (v_hasFeel : Int32) (k_a_text : ClassId) (f_a_text : Nat → Int32) (hv_length : iv v_length 0 896) (sz : Nat) : Met l yX7_append wsX7_append ({ frames := 0, cells := 0, slots := 0, locals := 0 }) (va_Pc [Value.ref o, Value.int p0] (fun U => U.heap.size = sz ∧ va_P (dC, dI) vwCl [(o, Sum.inr (7, [Value.int v_length, Value.int v_faultKind, Value.int v_faultPlace, Value.ref o_into, Value.ref a_text, Value.int v_next, Value.int v_token, Value.int v_start, Value.int v_value, Value.ref a_nameStart, Value.ref a_nameEnd, Value.int v_hasElse, Value.int v_hasLeast, Value.int v_hasFeel])), (a_text, Sum.inl (k_a_text, 900, Sum.inl f_a_text))] U.heap ∧ va_K (dC, dI) vwCl [(k_a_text, FieldType.byte)] U ∧ va_D (fun _ => True) [(o, Sum.inr (7, [Value.int v_length, Value.int v_faultKind, Value.int v_faultPlace, Value.ref o_into, Value.ref a_text, Value.int v_next, Value.int v_token, Value.int v_start, Value.int v_value, Value.ref a_nameStart, Value.ref a_nameEnd, Value.int v_hasElse, Value.int v_hasLeast, Value.int v_hasFeel])), (a_text, Sum.inl (k_a_text, 900, Sum.inl f_a_text))])) (va_Qv (fun _ : Unit => True) (fun _ t => ∃ (e_v_length : Int32) (e_f_a_text : Nat → Int32), iv e_v_length 0 900 ∧ (e_v_length.toInt = v_length.toInt + 4) ∧ va_P (dC, dI) vwCl [(o, Sum.inr (7, [Value.int e_v_length, Value.int v_faultKind, Value.int v_faultPlace, Value.ref o_into, Value.ref a_text, Value.int v_next, Value.int v_token, Value.int v_start, Value.int v_value, Value.ref a_nameStart, Value.ref a_nameEnd, Value.int v_hasElse, Value.int v_hasLeast, Value.int v_hasFeel])), (a_text, Sum.inl (k_a_text, 900, Sum.inl e_f_a_text))] t.heap ∧ va_D (va_A [(o, Sum.inr (7, [Value.int v_length, Value.int v_faultKind, Value.int v_faultPlace, Value.ref o_into, Value.ref a_text, Value.int v_next, Value.int v_token, Value.int v_start, Value.int v_value, Value.ref a_nameStart, Value.ref a_nameEnd, Value.int v_hasElse, Value.int v_hasLeast, Value.int v_hasFeel])), (a_text, Sum.inl (k_a_text, 900, Sum.inl f_a_text))] sz) [(o, Sum.inr (7, [Value.int e_v_length, Value.int v_faultKind, Value.int v_faultPlace, Value.ref o_into, Value.ref a_text, Value.int v_next, Value.int v_token, Value.int v_start, Value.int v_value, Value.ref a_nameStart, Value.ref a_nameEnd, Value.int v_hasElse, Value.int v_hasLeast, Value.int v_hasFeel])), (a_text, Sum.inl (k_a_text, 900, Sum.inl e_f_a_text))]) (va_A [(o, Sum.inr (7, [Value.int v_length, Value.int v_faultKind, Value.int v_faultPlace, Value.ref o_into, Value.ref a_text, Value.int v_next, Value.int v_token, Value.int v_start, Value.int v_value, Value.ref a_nameStart, Value.ref a_nameEnd, Value.int v_hasElse, Value.int v_hasLeast, Value.int v_hasFeel])), (a_text, Sum.inl (k_a_text, 900, Sum.inl f_a_text))] sz)) 0 0 (va_A [(o, Sum.inr (7, [Value.int v_length, Value.int v_faultKind, Value.int v_faultPlace, Value.ref o_into, Value.ref a_text, Value.int v_next, Value.int v_token, Value.int v_start, Value.int v_value, Value.ref a_nameStart, Value.ref a_nameEnd, Value.int v_hasElse, Value.int v_hasLeast, Value.int v_hasFeel])), (a_text, Sum.inl (k_a_text, 900, Sum.inl f_a_text))] sz) := by
  refine Met.ofW (cc := cX7_append) (maxL := 3) (ret := none) pn_X7 rfl ?_
  intro p e s m args below meth c s₁ B hml hv
  obtain ⟨rfl, hsz, hP, hK, hD0⟩ := hv
  have hx := B.exec
  have hb := B.bytes
  have hr := B.returns
  have hts := atoms_spec (ws := wsX7_append) B.pre
  have hown : s.vm.findClass RX7 = some m.cls := findClass_of_methodNamed B.named
  have hlocks := B.notSynchronized
  subst hsz
  have hD := hD0.self (sz := s.heap.size)
  generalize hAe : va_A [(o, Sum.inr (7, [Value.int v_length, Value.int v_faultKind, Value.int v_faultPlace, Value.ref o_into, Value.ref a_text, Value.int v_next, Value.int v_token, Value.int v_start, Value.int v_value, Value.ref a_nameStart, Value.ref a_nameEnd, Value.int v_hasElse, Value.int v_hasLeast, Value.int v_hasFeel])), (a_text, Sum.inl (k_a_text, 900, Sum.inl f_a_text))] s.heap.size = A at hD ⊢
  have hA : ∀ q : Nat, s.heap.size ≤ q → A q := fun q h => by rw [← hAe]; exact Or.inr h
  have hS : va_S A s.heap s.heap [] := va_S.rf
  have hP : va_P (dC, dI) vwCl [(o, Sum.inr (7, [Value.int v_length, Value.int v_faultKind, Value.int v_faultPlace, Value.ref o_into, Value.ref a_text, Value.int v_next, Value.int v_token, Value.int v_start, Value.int v_value, Value.ref a_nameStart, Value.ref a_nameEnd, Value.int v_hasElse, Value.int v_hasLeast, Value.int v_hasFeel])), (a_text, Sum.inl (k_a_text, 900, Sum.inl f_a_text))] s.heap := hP
  have hl := lv_entry ([Value.ref o, Value.int p0]) (n := 3) (Nat.le_of_ble_eq_true rfl)
  rw [lg_entry_eq]
  generalize (lg_sl ([Value.ref o, Value.int p0]) ++ List.replicate (3 - (lg_sl ([Value.ref o, Value.int p0])).length) Slot.unset).toArray = ls at hl ⊢
  have hl : lv_has ls 3 [(0, Value.ref o), (1, Value.int p0)] := hl
  refine lv_bipush (v := 24) hx hb dX7_append_0 (by decide) ?_
  refine lv_istore_n (lv' := [(2, Value.int 24), (0, Value.ref o), (1, Value.int p0)]) hx hb dX7_append_2 rfl hl (by decide) rfl (fun ls hl => ?_)
  refine tl_loop (I := fun nn H locs ls => ∃ (v1 : Int32) (v2 : Int32) (f3 : Nat → Int32), nn = (v1.toInt - (-8)).toNat ∧ iv v1 (-8) 24 ∧ iv v2 0 900 ∧ (8 * (v2.toInt - v_length.toInt) = 24 - v1.toInt) ∧  va_P (dC, dI) vwCl [(o, Sum.inr (7, [Value.int v2, Value.int v_faultKind, Value.int v_faultPlace, Value.ref o_into, Value.ref a_text, Value.int v_next, Value.int v_token, Value.int v_start, Value.int v_value, Value.ref a_nameStart, Value.ref a_nameEnd, Value.int v_hasElse, Value.int v_hasLeast, Value.int v_hasFeel])), (a_text, Sum.inl (k_a_text, 900, Sum.inl f3))] H ∧ va_D A [(o, Sum.inr (7, [Value.int v2, Value.int v_faultKind, Value.int v_faultPlace, Value.ref o_into, Value.ref a_text, Value.int v_next, Value.int v_token, Value.int v_start, Value.int v_value, Value.ref a_nameStart, Value.ref a_nameEnd, Value.int v_hasElse, Value.int v_hasLeast, Value.int v_hasFeel])), (a_text, Sum.inl (k_a_text, 900, Sum.inl f3))] ∧ va_S A s.heap H locs ∧ lv_has ls 3 [(2, Value.int v1), (0, Value.ref o), (1, Value.int p0)]) ?_ ⟨24, v_length, f_a_text, rfl, (iv.m (by decide)), (hv_length.w (by decide) (by decide)), (by first | omega | (have hz9 : (24 : Int32).toInt = 24 := (by decide); omega)), hP, hD, hS, lv_sub hl [0, 1, 2] rfl⟩
  clear hP hD hS hl
  intro nn3 H locs ls hI ih3
  obtain ⟨v1, v2, f3, hn3, hv1, hv2, hi3_0, hP, hD, hS, hl⟩ := hI
  have bv1 := hv1.u
  refine lv_iload_n hx hb dX7_append_3 rfl (lv_at hl 0 rfl) ?_
  refine lv_if_lt (tgt := 46) hx hb dX7_append_4 (by decide) (fun c4 => ?_) (fun c4 => ?_)
  · have c49 := i32_lt c4 rfl (show (0 : Int32).toInt = 0 by decide)
    have hP9 := hP.sub (ws' := [(o, Sum.inr (7, [Value.int v2, Value.int v_faultKind, Value.int v_faultPlace, Value.ref o_into, Value.ref a_text, Value.int v_next, Value.int v_token, Value.int v_start, Value.int v_value, Value.ref a_nameStart, Value.ref a_nameEnd, Value.int v_hasElse, Value.int v_hasLeast, Value.int v_hasFeel])), (a_text, Sum.inl (k_a_text, 900, Sum.inl f3))]) [0, 1] rfl
    have hD9 := hD.sub (ws' := [(o, Sum.inr (7, [Value.int v2, Value.int v_faultKind, Value.int v_faultPlace, Value.ref o_into, Value.ref a_text, Value.int v_next, Value.int v_token, Value.int v_start, Value.int v_value, Value.ref a_nameStart, Value.ref a_nameEnd, Value.int v_hasElse, Value.int v_hasLeast, Value.int v_hasFeel])), (a_text, Sum.inl (k_a_text, 900, Sum.inl f3))]) [0, 1] (by decide) rfl
    have bv_length := hv_length.u
    exact W.vret hx hb hr (fun t ht hW => ⟨⟨(), rfl, trivial, v2, f3, hv2, (by omega), by rw [ht]; exact hP9, hD9⟩, hS.F ht⟩) hS.2.2 dX7_append_46
  · have c49 := i32_nlt c4 rfl (show (0 : Int32).toInt = 0 by decide)
    refine lv_aload_n hx hb dX7_append_7 rfl (lv_at hl 1 rfl) ?_
    refine va_get (D := (dC, dI)) (ci := 7) (v := Value.int v2) (C := RX7) (T := TX7) (N := 14) hx hb hts iw_X7_append_X7 hown hK hP 0 rfl rfl 0 (by decide) (hts _ kk_X7_append_0) (fun _ h9 => h9) rfl dX7_append_8 ?_
    refine lv_sipush (v := 900) hx hb dX7_append_11 (by decide) ?_
    have bv2 := hv2.u
    refine lv_icmp_ge (tgt := 46) hx hb dX7_append_14 (by decide) (fun c5 => ?_) (fun c5 => ?_)
    · have c59 := i32_le c5 (show (900 : Int32).toInt = 900 by decide) rfl
      have hP9 := hP.sub (ws' := [(o, Sum.inr (7, [Value.int v2, Value.int v_faultKind, Value.int v_faultPlace, Value.ref o_into, Value.ref a_text, Value.int v_next, Value.int v_token, Value.int v_start, Value.int v_value, Value.ref a_nameStart, Value.ref a_nameEnd, Value.int v_hasElse, Value.int v_hasLeast, Value.int v_hasFeel])), (a_text, Sum.inl (k_a_text, 900, Sum.inl f3))]) [0, 1] rfl
      have hD9 := hD.sub (ws' := [(o, Sum.inr (7, [Value.int v2, Value.int v_faultKind, Value.int v_faultPlace, Value.ref o_into, Value.ref a_text, Value.int v_next, Value.int v_token, Value.int v_start, Value.int v_value, Value.ref a_nameStart, Value.ref a_nameEnd, Value.int v_hasElse, Value.int v_hasLeast, Value.int v_hasFeel])), (a_text, Sum.inl (k_a_text, 900, Sum.inl f3))]) [0, 1] (by decide) rfl
      have bv_length := hv_length.u
      exact W.vret hx hb hr (fun t ht hW => ⟨⟨(), rfl, trivial, v2, f3, (iv.m (by omega)), (by omega), by rw [ht]; exact hP9, hD9⟩, hS.F ht⟩) hS.2.2 dX7_append_46
    · have c59 := i32_nle c5 (show (900 : Int32).toInt = 900 by decide) rfl
      refine lv_aload_n hx hb dX7_append_17 rfl (lv_at hl 1 rfl) ?_
      refine va_get (D := (dC, dI)) (ci := 7) (v := Value.ref a_text) (C := RX7) (T := TX7) (N := 14) hx hb hts iw_X7_append_X7 hown hK hP 0 rfl rfl 4 (by decide) (hts _ kk_X7_append_1) (fun _ h9 => h9) rfl dX7_append_18 ?_
      refine lv_aload_n hx hb dX7_append_21 rfl (lv_at hl 1 rfl) ?_
      refine va_get (D := (dC, dI)) (ci := 7) (v := Value.int v2) (C := RX7) (T := TX7) (N := 14) hx hb hts iw_X7_append_X7 hown hK hP 0 rfl rfl 0 (by decide) (hts _ kk_X7_append_0) (fun _ h9 => h9) rfl dX7_append_22 ?_
      refine lv_iload_n hx hb dX7_append_25 rfl (lv_at hl 2 rfl) ?_
      refine lv_iload_n hx hb dX7_append_26 rfl (lv_at hl 0 rfl) ?_
      obtain ⟨x6, ex6⟩ : ∃ v : Int32, ((p0 : Int32).toUInt32 >>> ((v1 : Int32).toUInt32 &&& Int32.toUInt32 31)).toInt32 = v := ⟨_, rfl⟩
      refine lv_iushr hx hb dX7_append_27 ex6 ?_
      obtain ⟨x7, ex7⟩ : ∃ v : Int32, (x6 : Int32).toInt8.toInt32 = v := ⟨_, rfl⟩
      refine lv_i2b hx hb dX7_append_28 ex7 ?_
      refine va_bast hx hb hK hP hD hS 1 0 rfl rfl (vq_in v2 900 (by omega)) dX7_append_29 (fun H locs hP hD hS => ?_)
      have hP : va_P (dC, dI) vwCl [(o, Sum.inr (7, [Value.int v2, Value.int v_faultKind, Value.int v_faultPlace, Value.ref o_into, Value.ref a_text, Value.int v_next, Value.int v_token, Value.int v_start, Value.int v_value, Value.ref a_nameStart, Value.ref a_nameEnd, Value.int v_hasElse, Value.int v_hasLeast, Value.int v_hasFeel])), (a_text, Sum.inl (k_a_text, 900, Sum.inl (upd f3 (Int32.toNatClampNeg v2) (vp_nar .byte x7))))] H := hP
      have hD : va_D A [(o, Sum.inr (7, [Value.int v2, Value.int v_faultKind, Value.int v_faultPlace, Value.ref o_into, Value.ref a_text, Value.int v_next, Value.int v_token, Value.int v_start, Value.int v_value, Value.ref a_nameStart, Value.ref a_nameEnd, Value.int v_hasElse, Value.int v_hasLeast, Value.int v_hasFeel])), (a_text, Sum.inl (k_a_text, 900, Sum.inl (upd f3 (Int32.toNatClampNeg v2) (vp_nar .byte x7))))] := hD
      generalize upd f3 (Int32.toNatClampNeg v2) (vp_nar .byte x7) = f8 at hP hD
      have hP : va_P (dC, dI) vwCl [(o, Sum.inr (7, [Value.int v2, Value.int v_faultKind, Value.int v_faultPlace, Value.ref o_into, Value.ref a_text, Value.int v_next, Value.int v_token, Value.int v_start, Value.int v_value, Value.ref a_nameStart, Value.ref a_nameEnd, Value.int v_hasElse, Value.int v_hasLeast, Value.int v_hasFeel])), (a_text, Sum.inl (k_a_text, 900, Sum.inl f8))] H := hP
      have hD : va_D A [(o, Sum.inr (7, [Value.int v2, Value.int v_faultKind, Value.int v_faultPlace, Value.ref o_into, Value.ref a_text, Value.int v_next, Value.int v_token, Value.int v_start, Value.int v_value, Value.ref a_nameStart, Value.ref a_nameEnd, Value.int v_hasElse, Value.int v_hasLeast, Value.int v_hasFeel])), (a_text, Sum.inl (k_a_text, 900, Sum.inl f8))] := hD
      refine lv_aload_n hx hb dX7_append_30 rfl (lv_at hl 1 rfl) ?_
      refine lv_dup hx hb dX7_append_31 rfl ?_
      refine va_get (D := (dC, dI)) (ci := 7) (v := Value.int v2) (C := RX7) (T := TX7) (N := 14) hx hb hts iw_X7_append_X7 hown hK hP 0 rfl rfl 0 (by decide) (hts _ kk_X7_append_0) (fun _ h9 => h9) rfl dX7_append_32 ?_
      refine lv_iconst (v := 1) hx hb dX7_append_35 (by decide) ?_
      refine lv_iadd hx hb dX7_append_36 ?_
      refine lv_topi (fun x9 ex9 => ?_)
      have tx9 := i32_add ex9 rfl (show (1 : Int32).toInt = 1 by decide) (by omega) (by omega)
      refine va_put (D := (dC, dI)) (ci := 7) (v := Value.int x9) (ty := FieldType.int) (C := RX7) (T := TX7) (N := 14) hx hb hts iw_X7_append_X7 tyX7 tyX7_ok nmX7 hown hK hP hD hS 0 rfl rfl 0 (by decide) (hts _ kk_X7_append_0) (fun _ h9 => h9) rfl (by decide +kernel) rfl rfl (Nat.le_of_ble_eq_true rfl) dX7_append_37 (fun H locs hP hD hS => ?_)
      have hP : va_P (dC, dI) vwCl [(o, Sum.inr (7, [Value.int x9, Value.int v_faultKind, Value.int v_faultPlace, Value.ref o_into, Value.ref a_text, Value.int v_next, Value.int v_token, Value.int v_start, Value.int v_value, Value.ref a_nameStart, Value.ref a_nameEnd, Value.int v_hasElse, Value.int v_hasLeast, Value.int v_hasFeel])), (a_text, Sum.inl (k_a_text, 900, Sum.inl f8))] H := hP
      have hD : va_D A [(o, Sum.inr (7, [Value.int x9, Value.int v_faultKind, Value.int v_faultPlace, Value.ref o_into, Value.ref a_text, Value.int v_next, Value.int v_token, Value.int v_start, Value.int v_value, Value.ref a_nameStart, Value.ref a_nameEnd, Value.int v_hasElse, Value.int v_hasLeast, Value.int v_hasFeel])), (a_text, Sum.inl (k_a_text, 900, Sum.inl f8))] := hD
      obtain ⟨x10, ex10⟩ : ∃ z : Int32, v1 + Int32.ofInt (-8) = z := ⟨_, rfl⟩
      have tx10 := i32_inc ex10 rfl (by decide) (by omega) (by omega)
      refine lv_iinc (v := x10) (lv' := [(2, Value.int x10), (0, Value.ref o), (1, Value.int p0)]) hx hb dX7_append_40 hl (k := 0) rfl ex10 (by decide) rfl (fun ls hl => ?_)
      refine lv_goto (tgt := 3) hx hb dX7_append_43 (by decide) ?_
      exact ih3 _ _ _ _ (by omega) ⟨x10, x9, f8, rfl, (iv.m (by omega)), (iv.m (by omega)), (by first | omega | (have hz9 : (24 : Int32).toInt = 24 := (by decide); omega)), hP, hD, hS, lv_sub hl [0, 1, 2] rfl⟩

set_option maxHeartbeats 4000000 in
set_option maxRecDepth 100000 in
theorem ct_X7_kindOf (l : Launch) (dC : Nat → ClassId) (dI : Nat → Nat → Nat) (p0 : Int32) (sz : Nat) : Met l yX7_kindOf wsX7_kindOf ({ frames := 0, cells := 0, slots := 0, locals := 0 }) (va_Pc [Value.int p0] (fun U => U.heap.size = sz ∧ va_P (dC, dI) vwCl [] U.heap ∧ va_K (dC, dI) vwCl [] U ∧ va_D (fun _ => True) [])) (va_Qi (fun (r u : Int32) => u = r) (fun (r : Int32) t => iv r 1 5 ∧ va_P (dC, dI) vwCl [] t.heap ∧ va_D (va_A [] sz) []) (va_A [] sz)) 0 0 (va_A [] sz) := by
  refine Met.ofW (cc := cX7_kindOf) (maxL := 1) (ret := (some .int)) pn_X7 rfl ?_
  intro p e s m args below meth c s₁ B hml hv
  obtain ⟨rfl, hsz, hP, hK, hD0⟩ := hv
  have hx := B.exec
  have hb := B.bytes
  have hr := B.returns
  have hts := atoms_spec (ws := wsX7_kindOf) B.pre
  have hown : s.vm.findClass RX7 = some m.cls := findClass_of_methodNamed B.named
  have hlocks := B.notSynchronized
  subst hsz
  have hD := hD0.self (sz := s.heap.size)
  generalize hAe : va_A [] s.heap.size = A at hD ⊢
  have hA : ∀ q : Nat, s.heap.size ≤ q → A q := fun q h => by rw [← hAe]; exact Or.inr h
  have hS : va_S A s.heap s.heap [] := va_S.rf
  have hP : va_P (dC, dI) vwCl [] s.heap := hP
  have hl := lv_entry ([Value.int p0]) (n := 1) (Nat.le_of_ble_eq_true rfl)
  rw [lg_entry_eq]
  generalize (lg_sl ([Value.int p0]) ++ List.replicate (1 - (lg_sl ([Value.int p0])).length) Slot.unset).toArray = ls at hl ⊢
  have hl : lv_has ls 1 [(0, Value.int p0)] := hl
  refine lv_iload_n hx hb dX7_kindOf_0 rfl (lv_at hl 0 rfl) ?_
  refine lv_bipush (v := 97) hx hb dX7_kindOf_1 (by decide) ?_
  have bp0 := i32_rng p0
  refine lv_icmp_lt (tgt := 14) hx hb dX7_kindOf_3 (by decide) (fun c1 => ?_) (fun c1 => ?_)
  · have c19 := i32_lt c1 rfl (show (97 : Int32).toInt = 97 by decide)
    refine lv_iload_n hx hb dX7_kindOf_14 rfl (lv_at hl 0 rfl) ?_
    refine lv_bipush (v := 48) hx hb dX7_kindOf_15 (by decide) ?_
    refine lv_icmp_lt (tgt := 28) hx hb dX7_kindOf_17 (by decide) (fun c2 => ?_) (fun c2 => ?_)
    · have c29 := i32_lt c2 rfl (show (48 : Int32).toInt = 48 by decide)
      refine lv_iload_n hx hb dX7_kindOf_28 rfl (lv_at hl 0 rfl) ?_
      refine lv_bipush (v := 32) hx hb dX7_kindOf_29 (by decide) ?_
      refine lv_icmp_eq (tgt := 40) hx hb dX7_kindOf_31 (by decide) (fun c3 => ?_) (fun c3 => ?_)
      · have c39 := i32_eq c3 rfl (show (32 : Int32).toInt = 32 by decide)
        refine lv_iconst (v := 5) hx hb dX7_kindOf_40 (by decide) ?_
        have hP9 := hP.sub (ws' := []) [] rfl
        have hD9 := hD.sub (ws' := []) [] (by decide) rfl
        exact W.iret (v := 5) hx hb hr (fun t ht hW => ⟨⟨5, 5, rfl, rfl, (iv.m (by decide)), by rw [ht]; exact hP9, hD9⟩, hS.F ht⟩) hS.2.2 dX7_kindOf_41
      · have c39 := i32_ne c3 rfl (show (32 : Int32).toInt = 32 by decide)
        refine lv_iload_n hx hb dX7_kindOf_34 rfl (lv_at hl 0 rfl) ?_
        refine lv_bipush (v := 10) hx hb dX7_kindOf_35 (by decide) ?_
        refine lv_icmp_ne (tgt := 42) hx hb dX7_kindOf_37 (by decide) (fun c4 => ?_) (fun c4 => ?_)
        · have c49 := i32_ne c4 rfl (show (10 : Int32).toInt = 10 by decide)
          refine lv_iload_n hx hb dX7_kindOf_42 rfl (lv_at hl 0 rfl) ?_
          refine lv_bipush (v := 59) hx hb dX7_kindOf_43 (by decide) ?_
          refine lv_icmp_ne (tgt := 52) hx hb dX7_kindOf_45 (by decide) (fun _ => ?_) (fun c5 => False.elim (by have c59 := i32_eq c5 rfl (show (59 : Int32).toInt = 59 by decide); omega))
          refine lv_iconst (v := 4) hx hb dX7_kindOf_52 (by decide) ?_
          have hP9 := hP.sub (ws' := []) [] rfl
          have hD9 := hD.sub (ws' := []) [] (by decide) rfl
          exact W.iret (v := 4) hx hb hr (fun t ht hW => ⟨⟨4, 4, rfl, rfl, (iv.m (by decide)), by rw [ht]; exact hP9, hD9⟩, hS.F ht⟩) hS.2.2 dX7_kindOf_53
        · have c49 := i32_eq c4 rfl (show (10 : Int32).toInt = 10 by decide)
          refine lv_iconst (v := 5) hx hb dX7_kindOf_40 (by decide) ?_
          have hP9 := hP.sub (ws' := []) [] rfl
          have hD9 := hD.sub (ws' := []) [] (by decide) rfl
          exact W.iret (v := 5) hx hb hr (fun t ht hW => ⟨⟨5, 5, rfl, rfl, (iv.m (by decide)), by rw [ht]; exact hP9, hD9⟩, hS.F ht⟩) hS.2.2 dX7_kindOf_41
    · have c29 := i32_nlt c2 rfl (show (48 : Int32).toInt = 48 by decide)
      refine lv_iload_n hx hb dX7_kindOf_20 rfl (lv_at hl 0 rfl) ?_
      refine lv_bipush (v := 57) hx hb dX7_kindOf_21 (by decide) ?_
      refine lv_icmp_gt (tgt := 28) hx hb dX7_kindOf_23 (by decide) (fun c6 => ?_) (fun c6 => ?_)
      · have c69 := i32_lt c6 (show (57 : Int32).toInt = 57 by decide) rfl
        refine lv_iload_n hx hb dX7_kindOf_28 rfl (lv_at hl 0 rfl) ?_
        refine lv_bipush (v := 32) hx hb dX7_kindOf_29 (by decide) ?_
        refine lv_icmp_eq (tgt := 40) hx hb dX7_kindOf_31 (by decide) (fun c7 => False.elim (by have c79 := i32_eq c7 rfl (show (32 : Int32).toInt = 32 by decide); omega)) (fun _ => ?_)
        refine lv_iload_n hx hb dX7_kindOf_34 rfl (lv_at hl 0 rfl) ?_
        refine lv_bipush (v := 10) hx hb dX7_kindOf_35 (by decide) ?_
        refine lv_icmp_ne (tgt := 42) hx hb dX7_kindOf_37 (by decide) (fun _ => ?_) (fun c8 => False.elim (by have c89 := i32_eq c8 rfl (show (10 : Int32).toInt = 10 by decide); omega))
        refine lv_iload_n hx hb dX7_kindOf_42 rfl (lv_at hl 0 rfl) ?_
        refine lv_bipush (v := 59) hx hb dX7_kindOf_43 (by decide) ?_
        refine lv_icmp_ne (tgt := 52) hx hb dX7_kindOf_45 (by decide) (fun c9 => ?_) (fun c9 => ?_)
        · have c99 := i32_ne c9 rfl (show (59 : Int32).toInt = 59 by decide)
          refine lv_iconst (v := 4) hx hb dX7_kindOf_52 (by decide) ?_
          have hP9 := hP.sub (ws' := []) [] rfl
          have hD9 := hD.sub (ws' := []) [] (by decide) rfl
          exact W.iret (v := 4) hx hb hr (fun t ht hW => ⟨⟨4, 4, rfl, rfl, (iv.m (by decide)), by rw [ht]; exact hP9, hD9⟩, hS.F ht⟩) hS.2.2 dX7_kindOf_53
        · have c99 := i32_eq c9 rfl (show (59 : Int32).toInt = 59 by decide)
          refine lv_iconst (v := 3) hx hb dX7_kindOf_48 (by decide) ?_
          refine lv_goto (tgt := 53) hx hb dX7_kindOf_49 (by decide) ?_
          have hP9 := hP.sub (ws' := []) [] rfl
          have hD9 := hD.sub (ws' := []) [] (by decide) rfl
          exact W.iret (v := 3) hx hb hr (fun t ht hW => ⟨⟨3, 3, rfl, rfl, (iv.m (by decide)), by rw [ht]; exact hP9, hD9⟩, hS.F ht⟩) hS.2.2 dX7_kindOf_53
      · have c69 := i32_nlt c6 (show (57 : Int32).toInt = 57 by decide) rfl
        refine lv_iconst (v := 2) hx hb dX7_kindOf_26 (by decide) ?_
        have hP9 := hP.sub (ws' := []) [] rfl
        have hD9 := hD.sub (ws' := []) [] (by decide) rfl
        exact W.iret (v := 2) hx hb hr (fun t ht hW => ⟨⟨2, 2, rfl, rfl, (iv.m (by decide)), by rw [ht]; exact hP9, hD9⟩, hS.F ht⟩) hS.2.2 dX7_kindOf_27
  · have c19 := i32_nlt c1 rfl (show (97 : Int32).toInt = 97 by decide)
    refine lv_iload_n hx hb dX7_kindOf_6 rfl (lv_at hl 0 rfl) ?_
    refine lv_bipush (v := 122) hx hb dX7_kindOf_7 (by decide) ?_
    refine lv_icmp_gt (tgt := 14) hx hb dX7_kindOf_9 (by decide) (fun c10 => ?_) (fun c10 => ?_)
    · have c109 := i32_lt c10 (show (122 : Int32).toInt = 122 by decide) rfl
      refine lv_iload_n hx hb dX7_kindOf_14 rfl (lv_at hl 0 rfl) ?_
      refine lv_bipush (v := 48) hx hb dX7_kindOf_15 (by decide) ?_
      refine lv_icmp_lt (tgt := 28) hx hb dX7_kindOf_17 (by decide) (fun c11 => False.elim (by have c119 := i32_lt c11 rfl (show (48 : Int32).toInt = 48 by decide); omega)) (fun _ => ?_)
      refine lv_iload_n hx hb dX7_kindOf_20 rfl (lv_at hl 0 rfl) ?_
      refine lv_bipush (v := 57) hx hb dX7_kindOf_21 (by decide) ?_
      refine lv_icmp_gt (tgt := 28) hx hb dX7_kindOf_23 (by decide) (fun _ => ?_) (fun c12 => False.elim (by have c129 := i32_nlt c12 (show (57 : Int32).toInt = 57 by decide) rfl; omega))
      refine lv_iload_n hx hb dX7_kindOf_28 rfl (lv_at hl 0 rfl) ?_
      refine lv_bipush (v := 32) hx hb dX7_kindOf_29 (by decide) ?_
      refine lv_icmp_eq (tgt := 40) hx hb dX7_kindOf_31 (by decide) (fun c13 => False.elim (by have c139 := i32_eq c13 rfl (show (32 : Int32).toInt = 32 by decide); omega)) (fun _ => ?_)
      refine lv_iload_n hx hb dX7_kindOf_34 rfl (lv_at hl 0 rfl) ?_
      refine lv_bipush (v := 10) hx hb dX7_kindOf_35 (by decide) ?_
      refine lv_icmp_ne (tgt := 42) hx hb dX7_kindOf_37 (by decide) (fun _ => ?_) (fun c14 => False.elim (by have c149 := i32_eq c14 rfl (show (10 : Int32).toInt = 10 by decide); omega))
      refine lv_iload_n hx hb dX7_kindOf_42 rfl (lv_at hl 0 rfl) ?_
      refine lv_bipush (v := 59) hx hb dX7_kindOf_43 (by decide) ?_
      refine lv_icmp_ne (tgt := 52) hx hb dX7_kindOf_45 (by decide) (fun _ => ?_) (fun c15 => False.elim (by have c159 := i32_eq c15 rfl (show (59 : Int32).toInt = 59 by decide); omega))
      refine lv_iconst (v := 4) hx hb dX7_kindOf_52 (by decide) ?_
      have hP9 := hP.sub (ws' := []) [] rfl
      have hD9 := hD.sub (ws' := []) [] (by decide) rfl
      exact W.iret (v := 4) hx hb hr (fun t ht hW => ⟨⟨4, 4, rfl, rfl, (iv.m (by decide)), by rw [ht]; exact hP9, hD9⟩, hS.F ht⟩) hS.2.2 dX7_kindOf_53
    · have c109 := i32_nlt c10 (show (122 : Int32).toInt = 122 by decide) rfl
      refine lv_iconst (v := 1) hx hb dX7_kindOf_12 (by decide) ?_
      have hP9 := hP.sub (ws' := []) [] rfl
      have hD9 := hD.sub (ws' := []) [] (by decide) rfl
      exact W.iret (v := 1) hx hb hr (fun t ht hW => ⟨⟨1, 1, rfl, rfl, (iv.m (by decide)), by rw [ht]; exact hP9, hD9⟩, hS.F ht⟩) hS.2.2 dX7_kindOf_13

set_option maxHeartbeats 4000000 in
set_option maxRecDepth 100000 in
theorem ct_X7_takeRun (l : Launch) (dC : Nat → ClassId) (dI : Nat → Nat → Nat) (o : Nat) (v_length : Int32) (v_faultKind : Int32) (v_faultPlace : Int32) (o_into : Nat) (a_text : Nat) (v_next : Int32) (v_token : Int32) (v_start : Int32) (v_value : Int32) (a_nameStart : Nat) (a_nameEnd : Nat) (v_hasElse : Int32) (v_hasLeast : Int32) (v_hasFeel : Int32) (k_a_text : ClassId) (f_a_text : Nat → Int32) (hv_length : iv v_length 0 900) (hv_next : iv v_next 0 900) (hv_token : iv v_token 0 5) (hv_start : iv v_start 0 900) (sz : Nat) : Met l yX7_takeRun wsX7_takeRun ({ frames := 1, cells := 0, slots := 0, locals := 20 }) (va_Pc [Value.ref o] (fun U => U.heap.size = sz ∧ va_P (dC, dI) vwCl [(o, Sum.inr (7, [Value.int v_length, Value.int v_faultKind, Value.int v_faultPlace, Value.ref o_into, Value.ref a_text, Value.int v_next, Value.int v_token, Value.int v_start, Value.int v_value, Value.ref a_nameStart, Value.ref a_nameEnd, Value.int v_hasElse, Value.int v_hasLeast, Value.int v_hasFeel])), (a_text, Sum.inl (k_a_text, 900, Sum.inl f_a_text))] U.heap ∧ va_K (dC, dI) vwCl [(k_a_text, FieldType.byte)] U ∧ va_D (fun _ => True) [(o, Sum.inr (7, [Value.int v_length, Value.int v_faultKind, Value.int v_faultPlace, Value.ref o_into, Value.ref a_text, Value.int v_next, Value.int v_token, Value.int v_start, Value.int v_value, Value.ref a_nameStart, Value.ref a_nameEnd, Value.int v_hasElse, Value.int v_hasLeast, Value.int v_hasFeel])), (a_text, Sum.inl (k_a_text, 900, Sum.inl f_a_text))])) (va_Qv (fun _ : Unit => True) (fun _ t => ∃ (e_v_next : Int32) (e_v_token : Int32), iv e_v_next 0 900 ∧ iv e_v_token 0 5 ∧ va_P (dC, dI) vwCl [(o, Sum.inr (7, [Value.int v_length, Value.int v_faultKind, Value.int v_faultPlace, Value.ref o_into, Value.ref a_text, Value.int e_v_next, Value.int e_v_token, Value.int v_start, Value.int v_value, Value.ref a_nameStart, Value.ref a_nameEnd, Value.int v_hasElse, Value.int v_hasLeast, Value.int v_hasFeel])), (a_text, Sum.inl (k_a_text, 900, Sum.inl f_a_text))] t.heap ∧ va_D (va_A [(o, Sum.inr (7, [Value.int v_length, Value.int v_faultKind, Value.int v_faultPlace, Value.ref o_into, Value.ref a_text, Value.int v_next, Value.int v_token, Value.int v_start, Value.int v_value, Value.ref a_nameStart, Value.ref a_nameEnd, Value.int v_hasElse, Value.int v_hasLeast, Value.int v_hasFeel])), (a_text, Sum.inl (k_a_text, 900, Sum.inl f_a_text))] sz) [(o, Sum.inr (7, [Value.int v_length, Value.int v_faultKind, Value.int v_faultPlace, Value.ref o_into, Value.ref a_text, Value.int e_v_next, Value.int e_v_token, Value.int v_start, Value.int v_value, Value.ref a_nameStart, Value.ref a_nameEnd, Value.int v_hasElse, Value.int v_hasLeast, Value.int v_hasFeel])), (a_text, Sum.inl (k_a_text, 900, Sum.inl f_a_text))]) (va_A [(o, Sum.inr (7, [Value.int v_length, Value.int v_faultKind, Value.int v_faultPlace, Value.ref o_into, Value.ref a_text, Value.int v_next, Value.int v_token, Value.int v_start, Value.int v_value, Value.ref a_nameStart, Value.ref a_nameEnd, Value.int v_hasElse, Value.int v_hasLeast, Value.int v_hasFeel])), (a_text, Sum.inl (k_a_text, 900, Sum.inl f_a_text))] sz)) 0 0 (va_A [(o, Sum.inr (7, [Value.int v_length, Value.int v_faultKind, Value.int v_faultPlace, Value.ref o_into, Value.ref a_text, Value.int v_next, Value.int v_token, Value.int v_start, Value.int v_value, Value.ref a_nameStart, Value.ref a_nameEnd, Value.int v_hasElse, Value.int v_hasLeast, Value.int v_hasFeel])), (a_text, Sum.inl (k_a_text, 900, Sum.inl f_a_text))] sz) := by
  refine Met.ofW (cc := cX7_takeRun) (maxL := 2) (ret := none) pn_X7 rfl ?_
  intro p e s m args below meth c s₁ B hml hv
  obtain ⟨rfl, hsz, hP, hK, hD0⟩ := hv
  have hx := B.exec
  have hb := B.bytes
  have hr := B.returns
  have hts := atoms_spec (ws := wsX7_takeRun) B.pre
  have hown : s.vm.findClass RX7 = some m.cls := findClass_of_methodNamed B.named
  have hlocks := B.notSynchronized
  subst hsz
  have hD := hD0.self (sz := s.heap.size)
  generalize hAe : va_A [(o, Sum.inr (7, [Value.int v_length, Value.int v_faultKind, Value.int v_faultPlace, Value.ref o_into, Value.ref a_text, Value.int v_next, Value.int v_token, Value.int v_start, Value.int v_value, Value.ref a_nameStart, Value.ref a_nameEnd, Value.int v_hasElse, Value.int v_hasLeast, Value.int v_hasFeel])), (a_text, Sum.inl (k_a_text, 900, Sum.inl f_a_text))] s.heap.size = A at hD ⊢
  have hA : ∀ q : Nat, s.heap.size ≤ q → A q := fun q h => by rw [← hAe]; exact Or.inr h
  have hS : va_S A s.heap s.heap [] := va_S.rf
  have hP : va_P (dC, dI) vwCl [(o, Sum.inr (7, [Value.int v_length, Value.int v_faultKind, Value.int v_faultPlace, Value.ref o_into, Value.ref a_text, Value.int v_next, Value.int v_token, Value.int v_start, Value.int v_value, Value.ref a_nameStart, Value.ref a_nameEnd, Value.int v_hasElse, Value.int v_hasLeast, Value.int v_hasFeel])), (a_text, Sum.inl (k_a_text, 900, Sum.inl f_a_text))] s.heap := hP
  have hl := lv_entry ([Value.ref o]) (n := 2) (Nat.le_of_ble_eq_true rfl)
  rw [lg_entry_eq]
  generalize (lg_sl ([Value.ref o]) ++ List.replicate (2 - (lg_sl ([Value.ref o])).length) Slot.unset).toArray = ls at hl ⊢
  have hl : lv_has ls 2 [(0, Value.ref o)] := hl
  refine tl_loop (I := fun nn H locs ls => ∃ (v1 : Int32), nn = (900 - v1.toInt).toNat ∧ iv v1 0 900 ∧  va_P (dC, dI) vwCl [(o, Sum.inr (7, [Value.int v_length, Value.int v_faultKind, Value.int v_faultPlace, Value.ref o_into, Value.ref a_text, Value.int v1, Value.int v_token, Value.int v_start, Value.int v_value, Value.ref a_nameStart, Value.ref a_nameEnd, Value.int v_hasElse, Value.int v_hasLeast, Value.int v_hasFeel])), (a_text, Sum.inl (k_a_text, 900, Sum.inl f_a_text))] H ∧ va_D A [(o, Sum.inr (7, [Value.int v_length, Value.int v_faultKind, Value.int v_faultPlace, Value.ref o_into, Value.ref a_text, Value.int v1, Value.int v_token, Value.int v_start, Value.int v_value, Value.ref a_nameStart, Value.ref a_nameEnd, Value.int v_hasElse, Value.int v_hasLeast, Value.int v_hasFeel])), (a_text, Sum.inl (k_a_text, 900, Sum.inl f_a_text))] ∧ va_S A s.heap H locs ∧ lv_has ls 2 [(0, Value.ref o)]) ?_ ⟨v_next, rfl, hv_next, hP, hD, hS, lv_sub hl [0] rfl⟩
  clear hP hD hS hl
  intro nn0 H locs ls hI ih0
  obtain ⟨v1, hn0, hv1, hP, hD, hS, hl⟩ := hI
  refine lv_aload_n hx hb dX7_takeRun_0 rfl (lv_at hl 0 rfl) ?_
  refine va_get (D := (dC, dI)) (ci := 7) (v := Value.int v1) (C := RX7) (T := TX7) (N := 14) hx hb hts iw_X7_takeRun_X7 hown hK hP 0 rfl rfl 5 (by decide) (hts _ kk_X7_takeRun_0) (fun _ h9 => h9) rfl dX7_takeRun_1 ?_
  refine lv_aload_n hx hb dX7_takeRun_4 rfl (lv_at hl 0 rfl) ?_
  refine va_get (D := (dC, dI)) (ci := 7) (v := Value.int v_length) (C := RX7) (T := TX7) (N := 14) hx hb hts iw_X7_takeRun_X7 hown hK hP 0 rfl rfl 0 (by decide) (hts _ kk_X7_takeRun_1) (fun _ h9 => h9) rfl dX7_takeRun_5 ?_
  have bv1 := hv1.u
  have bv_length := hv_length.u
  refine lv_icmp_ge (tgt := 43) hx hb dX7_takeRun_8 (by decide) (fun c2 => ?_) (fun c2 => ?_)
  · have c29 := i32_le c2 rfl rfl
    refine lv_aload_n hx hb dX7_takeRun_43 rfl (lv_at hl 0 rfl) ?_
    refine va_get (D := (dC, dI)) (ci := 7) (v := Value.int v_token) (C := RX7) (T := TX7) (N := 14) hx hb hts iw_X7_takeRun_X7 hown hK hP 0 rfl rfl 6 (by decide) (hts _ kk_X7_takeRun_2) (fun _ h9 => h9) rfl dX7_takeRun_44 ?_
    refine lv_iconst (v := 1) hx hb dX7_takeRun_47 (by decide) ?_
    have bv_token := hv_token.u
    refine lv_icmp_ne (tgt := 56) hx hb dX7_takeRun_48 (by decide) (fun c3 => ?_) (fun c3 => ?_)
    · have c39 := i32_ne c3 rfl (show (1 : Int32).toInt = 1 by decide)
      refine lv_iconst (v := 4) hx hb dX7_takeRun_56 (by decide) ?_
      refine lv_istore_n (lv' := [(1, Value.int 4), (0, Value.ref o)]) hx hb dX7_takeRun_57 rfl hl (by decide) rfl (fun ls hl => ?_)
      refine lv_aload_n hx hb dX7_takeRun_58 rfl (lv_at hl 1 rfl) ?_
      refine va_get (D := (dC, dI)) (ci := 7) (v := Value.int v1) (C := RX7) (T := TX7) (N := 14) hx hb hts iw_X7_takeRun_X7 hown hK hP 0 rfl rfl 5 (by decide) (hts _ kk_X7_takeRun_0) (fun _ h9 => h9) rfl dX7_takeRun_59 ?_
      refine lv_aload_n hx hb dX7_takeRun_62 rfl (lv_at hl 1 rfl) ?_
      refine va_get (D := (dC, dI)) (ci := 7) (v := Value.int v_start) (C := RX7) (T := TX7) (N := 14) hx hb hts iw_X7_takeRun_X7 hown hK hP 0 rfl rfl 7 (by decide) (hts _ kk_X7_takeRun_3) (fun _ h9 => h9) rfl dX7_takeRun_63 ?_
      refine lv_isub hx hb dX7_takeRun_66 ?_
      refine lv_topi (fun x4 ex4 => ?_)
      have bv_start := hv_start.u
      have tx4 := i32_sub ex4 rfl rfl (by omega) (by omega)
      refine lv_iload_n hx hb dX7_takeRun_67 rfl (lv_at hl 0 rfl) ?_
      refine lv_icmp_le (tgt := 76) hx hb dX7_takeRun_68 (by decide) (fun c5 => ?_) (fun c5 => ?_)
      · have c59 := i32_le c5 rfl (show (4 : Int32).toInt = 4 by decide)
        have hP9 := hP.sub (ws' := [(o, Sum.inr (7, [Value.int v_length, Value.int v_faultKind, Value.int v_faultPlace, Value.ref o_into, Value.ref a_text, Value.int v1, Value.int v_token, Value.int v_start, Value.int v_value, Value.ref a_nameStart, Value.ref a_nameEnd, Value.int v_hasElse, Value.int v_hasLeast, Value.int v_hasFeel])), (a_text, Sum.inl (k_a_text, 900, Sum.inl f_a_text))]) [0, 1] rfl
        have hD9 := hD.sub (ws' := [(o, Sum.inr (7, [Value.int v_length, Value.int v_faultKind, Value.int v_faultPlace, Value.ref o_into, Value.ref a_text, Value.int v1, Value.int v_token, Value.int v_start, Value.int v_value, Value.ref a_nameStart, Value.ref a_nameEnd, Value.int v_hasElse, Value.int v_hasLeast, Value.int v_hasFeel])), (a_text, Sum.inl (k_a_text, 900, Sum.inl f_a_text))]) [0, 1] (by decide) rfl
        exact W.vret hx hb hr (fun t ht hW => ⟨⟨(), rfl, trivial, v1, v_token, hv1, hv_token, by rw [ht]; exact hP9, hD9⟩, hS.F ht⟩) hS.2.2 dX7_takeRun_76
      · have c59 := i32_nle c5 rfl (show (4 : Int32).toInt = 4 by decide)
        refine lv_aload_n hx hb dX7_takeRun_71 rfl (lv_at hl 1 rfl) ?_
        refine lv_iconst (v := 4) hx hb dX7_takeRun_72 (by decide) ?_
        refine va_put (D := (dC, dI)) (ci := 7) (v := Value.int 4) (ty := FieldType.int) (C := RX7) (T := TX7) (N := 14) hx hb hts iw_X7_takeRun_X7 tyX7 tyX7_ok nmX7 hown hK hP hD hS 0 rfl rfl 6 (by decide) (hts _ kk_X7_takeRun_2) (fun _ h9 => h9) rfl (by decide +kernel) rfl rfl (Nat.le_of_ble_eq_true rfl) dX7_takeRun_73 (fun H locs hP hD hS => ?_)
        have hP : va_P (dC, dI) vwCl [(o, Sum.inr (7, [Value.int v_length, Value.int v_faultKind, Value.int v_faultPlace, Value.ref o_into, Value.ref a_text, Value.int v1, Value.int 4, Value.int v_start, Value.int v_value, Value.ref a_nameStart, Value.ref a_nameEnd, Value.int v_hasElse, Value.int v_hasLeast, Value.int v_hasFeel])), (a_text, Sum.inl (k_a_text, 900, Sum.inl f_a_text))] H := hP
        have hD : va_D A [(o, Sum.inr (7, [Value.int v_length, Value.int v_faultKind, Value.int v_faultPlace, Value.ref o_into, Value.ref a_text, Value.int v1, Value.int 4, Value.int v_start, Value.int v_value, Value.ref a_nameStart, Value.ref a_nameEnd, Value.int v_hasElse, Value.int v_hasLeast, Value.int v_hasFeel])), (a_text, Sum.inl (k_a_text, 900, Sum.inl f_a_text))] := hD
        have hP9 := hP.sub (ws' := [(o, Sum.inr (7, [Value.int v_length, Value.int v_faultKind, Value.int v_faultPlace, Value.ref o_into, Value.ref a_text, Value.int v1, Value.int 4, Value.int v_start, Value.int v_value, Value.ref a_nameStart, Value.ref a_nameEnd, Value.int v_hasElse, Value.int v_hasLeast, Value.int v_hasFeel])), (a_text, Sum.inl (k_a_text, 900, Sum.inl f_a_text))]) [0, 1] rfl
        have hD9 := hD.sub (ws' := [(o, Sum.inr (7, [Value.int v_length, Value.int v_faultKind, Value.int v_faultPlace, Value.ref o_into, Value.ref a_text, Value.int v1, Value.int 4, Value.int v_start, Value.int v_value, Value.ref a_nameStart, Value.ref a_nameEnd, Value.int v_hasElse, Value.int v_hasLeast, Value.int v_hasFeel])), (a_text, Sum.inl (k_a_text, 900, Sum.inl f_a_text))]) [0, 1] (by decide) rfl
        exact W.vret hx hb hr (fun t ht hW => ⟨⟨(), rfl, trivial, v1, 4, hv1, (iv.m (by decide)), by rw [ht]; exact hP9, hD9⟩, hS.F ht⟩) hS.2.2 dX7_takeRun_76
    · have c39 := i32_eq c3 rfl (show (1 : Int32).toInt = 1 by decide)
      refine lv_bipush (v := 8) hx hb dX7_takeRun_51 (by decide) ?_
      refine lv_goto (tgt := 57) hx hb dX7_takeRun_53 (by decide) ?_
      refine lv_istore_n (lv' := [(1, Value.int 8), (0, Value.ref o)]) hx hb dX7_takeRun_57 rfl hl (by decide) rfl (fun ls hl => ?_)
      refine lv_aload_n hx hb dX7_takeRun_58 rfl (lv_at hl 1 rfl) ?_
      refine va_get (D := (dC, dI)) (ci := 7) (v := Value.int v1) (C := RX7) (T := TX7) (N := 14) hx hb hts iw_X7_takeRun_X7 hown hK hP 0 rfl rfl 5 (by decide) (hts _ kk_X7_takeRun_0) (fun _ h9 => h9) rfl dX7_takeRun_59 ?_
      refine lv_aload_n hx hb dX7_takeRun_62 rfl (lv_at hl 1 rfl) ?_
      refine va_get (D := (dC, dI)) (ci := 7) (v := Value.int v_start) (C := RX7) (T := TX7) (N := 14) hx hb hts iw_X7_takeRun_X7 hown hK hP 0 rfl rfl 7 (by decide) (hts _ kk_X7_takeRun_3) (fun _ h9 => h9) rfl dX7_takeRun_63 ?_
      refine lv_isub hx hb dX7_takeRun_66 ?_
      refine lv_topi (fun x6 ex6 => ?_)
      have bv_start := hv_start.u
      have tx6 := i32_sub ex6 rfl rfl (by omega) (by omega)
      refine lv_iload_n hx hb dX7_takeRun_67 rfl (lv_at hl 0 rfl) ?_
      refine lv_icmp_le (tgt := 76) hx hb dX7_takeRun_68 (by decide) (fun c7 => ?_) (fun c7 => ?_)
      · have c79 := i32_le c7 rfl (show (8 : Int32).toInt = 8 by decide)
        have hP9 := hP.sub (ws' := [(o, Sum.inr (7, [Value.int v_length, Value.int v_faultKind, Value.int v_faultPlace, Value.ref o_into, Value.ref a_text, Value.int v1, Value.int v_token, Value.int v_start, Value.int v_value, Value.ref a_nameStart, Value.ref a_nameEnd, Value.int v_hasElse, Value.int v_hasLeast, Value.int v_hasFeel])), (a_text, Sum.inl (k_a_text, 900, Sum.inl f_a_text))]) [0, 1] rfl
        have hD9 := hD.sub (ws' := [(o, Sum.inr (7, [Value.int v_length, Value.int v_faultKind, Value.int v_faultPlace, Value.ref o_into, Value.ref a_text, Value.int v1, Value.int v_token, Value.int v_start, Value.int v_value, Value.ref a_nameStart, Value.ref a_nameEnd, Value.int v_hasElse, Value.int v_hasLeast, Value.int v_hasFeel])), (a_text, Sum.inl (k_a_text, 900, Sum.inl f_a_text))]) [0, 1] (by decide) rfl
        exact W.vret hx hb hr (fun t ht hW => ⟨⟨(), rfl, trivial, v1, v_token, hv1, (iv.m (by omega)), by rw [ht]; exact hP9, hD9⟩, hS.F ht⟩) hS.2.2 dX7_takeRun_76
      · have c79 := i32_nle c7 rfl (show (8 : Int32).toInt = 8 by decide)
        refine lv_aload_n hx hb dX7_takeRun_71 rfl (lv_at hl 1 rfl) ?_
        refine lv_iconst (v := 4) hx hb dX7_takeRun_72 (by decide) ?_
        refine va_put (D := (dC, dI)) (ci := 7) (v := Value.int 4) (ty := FieldType.int) (C := RX7) (T := TX7) (N := 14) hx hb hts iw_X7_takeRun_X7 tyX7 tyX7_ok nmX7 hown hK hP hD hS 0 rfl rfl 6 (by decide) (hts _ kk_X7_takeRun_2) (fun _ h9 => h9) rfl (by decide +kernel) rfl rfl (Nat.le_of_ble_eq_true rfl) dX7_takeRun_73 (fun H locs hP hD hS => ?_)
        have hP : va_P (dC, dI) vwCl [(o, Sum.inr (7, [Value.int v_length, Value.int v_faultKind, Value.int v_faultPlace, Value.ref o_into, Value.ref a_text, Value.int v1, Value.int 4, Value.int v_start, Value.int v_value, Value.ref a_nameStart, Value.ref a_nameEnd, Value.int v_hasElse, Value.int v_hasLeast, Value.int v_hasFeel])), (a_text, Sum.inl (k_a_text, 900, Sum.inl f_a_text))] H := hP
        have hD : va_D A [(o, Sum.inr (7, [Value.int v_length, Value.int v_faultKind, Value.int v_faultPlace, Value.ref o_into, Value.ref a_text, Value.int v1, Value.int 4, Value.int v_start, Value.int v_value, Value.ref a_nameStart, Value.ref a_nameEnd, Value.int v_hasElse, Value.int v_hasLeast, Value.int v_hasFeel])), (a_text, Sum.inl (k_a_text, 900, Sum.inl f_a_text))] := hD
        have hP9 := hP.sub (ws' := [(o, Sum.inr (7, [Value.int v_length, Value.int v_faultKind, Value.int v_faultPlace, Value.ref o_into, Value.ref a_text, Value.int v1, Value.int 4, Value.int v_start, Value.int v_value, Value.ref a_nameStart, Value.ref a_nameEnd, Value.int v_hasElse, Value.int v_hasLeast, Value.int v_hasFeel])), (a_text, Sum.inl (k_a_text, 900, Sum.inl f_a_text))]) [0, 1] rfl
        have hD9 := hD.sub (ws' := [(o, Sum.inr (7, [Value.int v_length, Value.int v_faultKind, Value.int v_faultPlace, Value.ref o_into, Value.ref a_text, Value.int v1, Value.int 4, Value.int v_start, Value.int v_value, Value.ref a_nameStart, Value.ref a_nameEnd, Value.int v_hasElse, Value.int v_hasLeast, Value.int v_hasFeel])), (a_text, Sum.inl (k_a_text, 900, Sum.inl f_a_text))]) [0, 1] (by decide) rfl
        exact W.vret hx hb hr (fun t ht hW => ⟨⟨(), rfl, trivial, v1, 4, hv1, (iv.m (by decide)), by rw [ht]; exact hP9, hD9⟩, hS.F ht⟩) hS.2.2 dX7_takeRun_76
  · have c29 := i32_nle c2 rfl rfl
    refine lv_aload_n hx hb dX7_takeRun_11 rfl (lv_at hl 0 rfl) ?_
    refine va_get (D := (dC, dI)) (ci := 7) (v := Value.ref a_text) (C := RX7) (T := TX7) (N := 14) hx hb hts iw_X7_takeRun_X7 hown hK hP 0 rfl rfl 4 (by decide) (hts _ kk_X7_takeRun_4) (fun _ h9 => h9) rfl dX7_takeRun_12 ?_
    refine lv_aload_n hx hb dX7_takeRun_15 rfl (lv_at hl 0 rfl) ?_
    refine va_get (D := (dC, dI)) (ci := 7) (v := Value.int v1) (C := RX7) (T := TX7) (N := 14) hx hb hts iw_X7_takeRun_X7 hown hK hP 0 rfl rfl 5 (by decide) (hts _ kk_X7_takeRun_0) (fun _ h9 => h9) rfl dX7_takeRun_16 ?_
    refine va_bald hx hb hK hP 1 0 rfl rfl (vq_in v1 900 (by omega)) dX7_takeRun_19 ?_
    refine lv_topi (fun x8 ex8 => ?_)
    have hPc := hP.sub (ws' := []) [] rfl
    have hDc := hD.sub (ws' := []) [] (by decide) rfl
    have hKc := hK.sub (tys' := []) [] rfl
    have hFc := va_free (wc := []) hD hS hA [] rfl
    refine va_calli (va_runS (As := [Value.int x8]) (rest := []) ⟨hx, hb, hml, hown, hts⟩ (ct_X7_kindOf l dC dI x8 H.size) (va_cwS 1 hts gX7_takeRun_X7_kindOf rfl rfl rfl ⟨cn_X7.1, cn_X7.2, ds_32⟩ ⟨Nat.le_of_ble_eq_true rfl, Nat.le_of_ble_eq_true rfl⟩) ⟨fun a U g mk q => by obtain ⟨q0, q1, qP, qK, qD⟩ := q; exact ⟨q0, q1, qP, va_K.moved (u := U) (U := U.calling g mk a) (Vm.Alike.refl U.vm) qK, qD⟩, fun U hU hW => ⟨rfl, by rw [hU], by rw [hU]; exact hPc, va_K.moved hW.alike hKc, hDc.weaken (fun _ _ _ _ => trivial)⟩⟩ rfl rfl hl.1 rfl (lv_room (Nat.le_of_ble_eq_true rfl)) dX7_takeRun_20 ⟨Nat.le_of_ble_eq_true rfl, Nat.le_of_ble_eq_true rfl⟩) hS (fun q _ h => hFc q h) hFc (fun r9 u t H1 locs ht hvm hw hB hz1 hk1 hS => ?_)
    have hw : r9 = u := hw.symm
    subst hw
    obtain ⟨hr9, hP1, hD1⟩ := hB
    rw [ht] at hP1
    obtain ⟨hP, hD⟩ := va_join (wr := [(o, Sum.inr (7, [Value.int v_length, Value.int v_faultKind, Value.int v_faultPlace, Value.ref o_into, Value.ref a_text, Value.int v1, Value.int v_token, Value.int v_start, Value.int v_value, Value.ref a_nameStart, Value.ref a_nameEnd, Value.int v_hasElse, Value.int v_hasLeast, Value.int v_hasFeel])), (a_text, Sum.inl (k_a_text, 900, Sum.inl f_a_text))]) (w1 := []) hP hD [] [0, 1] rfl rfl (by decide) (by decide) hk1 hFc hP1 hD1
    clear hPc hDc hKc hFc hP1 hD1 hk1 hz1
    generalize H1 = H at hP hS ⊢
    have hP : va_P (dC, dI) vwCl [(o, Sum.inr (7, [Value.int v_length, Value.int v_faultKind, Value.int v_faultPlace, Value.ref o_into, Value.ref a_text, Value.int v1, Value.int v_token, Value.int v_start, Value.int v_value, Value.ref a_nameStart, Value.ref a_nameEnd, Value.int v_hasElse, Value.int v_hasLeast, Value.int v_hasFeel])), (a_text, Sum.inl (k_a_text, 900, Sum.inl f_a_text))] H := hP
    have hD : va_D A [(o, Sum.inr (7, [Value.int v_length, Value.int v_faultKind, Value.int v_faultPlace, Value.ref o_into, Value.ref a_text, Value.int v1, Value.int v_token, Value.int v_start, Value.int v_value, Value.ref a_nameStart, Value.ref a_nameEnd, Value.int v_hasElse, Value.int v_hasLeast, Value.int v_hasFeel])), (a_text, Sum.inl (k_a_text, 900, Sum.inl f_a_text))] := hD
    refine W.widen (k := 0) (n := 0) (by decide) (by decide) ?_
    refine lv_aload_n hx hb dX7_takeRun_23 rfl (lv_at hl 0 rfl) ?_
    refine va_get (D := (dC, dI)) (ci := 7) (v := Value.int v_token) (C := RX7) (T := TX7) (N := 14) hx hb hts iw_X7_takeRun_X7 hown hK hP 0 rfl rfl 6 (by decide) (hts _ kk_X7_takeRun_2) (fun _ h9 => h9) rfl dX7_takeRun_24 ?_
    have br9 := hr9.u
    have bv_token := hv_token.u
    refine lv_icmp_ne (tgt := 43) hx hb dX7_takeRun_27 (by decide) (fun c10 => ?_) (fun c10 => ?_)
    · have c109 := i32_ne c10 rfl rfl
      refine lv_aload_n hx hb dX7_takeRun_43 rfl (lv_at hl 0 rfl) ?_
      refine va_get (D := (dC, dI)) (ci := 7) (v := Value.int v_token) (C := RX7) (T := TX7) (N := 14) hx hb hts iw_X7_takeRun_X7 hown hK hP 0 rfl rfl 6 (by decide) (hts _ kk_X7_takeRun_2) (fun _ h9 => h9) rfl dX7_takeRun_44 ?_
      refine lv_iconst (v := 1) hx hb dX7_takeRun_47 (by decide) ?_
      refine lv_icmp_ne (tgt := 56) hx hb dX7_takeRun_48 (by decide) (fun c11 => ?_) (fun c11 => ?_)
      · have c119 := i32_ne c11 rfl (show (1 : Int32).toInt = 1 by decide)
        refine lv_iconst (v := 4) hx hb dX7_takeRun_56 (by decide) ?_
        refine lv_istore_n (lv' := [(1, Value.int 4), (0, Value.ref o)]) hx hb dX7_takeRun_57 rfl hl (by decide) rfl (fun ls hl => ?_)
        refine lv_aload_n hx hb dX7_takeRun_58 rfl (lv_at hl 1 rfl) ?_
        refine va_get (D := (dC, dI)) (ci := 7) (v := Value.int v1) (C := RX7) (T := TX7) (N := 14) hx hb hts iw_X7_takeRun_X7 hown hK hP 0 rfl rfl 5 (by decide) (hts _ kk_X7_takeRun_0) (fun _ h9 => h9) rfl dX7_takeRun_59 ?_
        refine lv_aload_n hx hb dX7_takeRun_62 rfl (lv_at hl 1 rfl) ?_
        refine va_get (D := (dC, dI)) (ci := 7) (v := Value.int v_start) (C := RX7) (T := TX7) (N := 14) hx hb hts iw_X7_takeRun_X7 hown hK hP 0 rfl rfl 7 (by decide) (hts _ kk_X7_takeRun_3) (fun _ h9 => h9) rfl dX7_takeRun_63 ?_
        refine lv_isub hx hb dX7_takeRun_66 ?_
        refine lv_topi (fun x12 ex12 => ?_)
        have bv_start := hv_start.u
        have tx12 := i32_sub ex12 rfl rfl (by omega) (by omega)
        refine lv_iload_n hx hb dX7_takeRun_67 rfl (lv_at hl 0 rfl) ?_
        refine lv_icmp_le (tgt := 76) hx hb dX7_takeRun_68 (by decide) (fun c13 => ?_) (fun c13 => ?_)
        · have c139 := i32_le c13 rfl (show (4 : Int32).toInt = 4 by decide)
          have hP9 := hP.sub (ws' := [(o, Sum.inr (7, [Value.int v_length, Value.int v_faultKind, Value.int v_faultPlace, Value.ref o_into, Value.ref a_text, Value.int v1, Value.int v_token, Value.int v_start, Value.int v_value, Value.ref a_nameStart, Value.ref a_nameEnd, Value.int v_hasElse, Value.int v_hasLeast, Value.int v_hasFeel])), (a_text, Sum.inl (k_a_text, 900, Sum.inl f_a_text))]) [0, 1] rfl
          have hD9 := hD.sub (ws' := [(o, Sum.inr (7, [Value.int v_length, Value.int v_faultKind, Value.int v_faultPlace, Value.ref o_into, Value.ref a_text, Value.int v1, Value.int v_token, Value.int v_start, Value.int v_value, Value.ref a_nameStart, Value.ref a_nameEnd, Value.int v_hasElse, Value.int v_hasLeast, Value.int v_hasFeel])), (a_text, Sum.inl (k_a_text, 900, Sum.inl f_a_text))]) [0, 1] (by decide) rfl
          exact W.vret hx hb hr (fun t ht hW => ⟨⟨(), rfl, trivial, v1, v_token, (iv.m (by omega)), hv_token, by rw [ht]; exact hP9, hD9⟩, hS.F ht⟩) hS.2.2 dX7_takeRun_76
        · have c139 := i32_nle c13 rfl (show (4 : Int32).toInt = 4 by decide)
          refine lv_aload_n hx hb dX7_takeRun_71 rfl (lv_at hl 1 rfl) ?_
          refine lv_iconst (v := 4) hx hb dX7_takeRun_72 (by decide) ?_
          refine va_put (D := (dC, dI)) (ci := 7) (v := Value.int 4) (ty := FieldType.int) (C := RX7) (T := TX7) (N := 14) hx hb hts iw_X7_takeRun_X7 tyX7 tyX7_ok nmX7 hown hK hP hD hS 0 rfl rfl 6 (by decide) (hts _ kk_X7_takeRun_2) (fun _ h9 => h9) rfl (by decide +kernel) rfl rfl (Nat.le_of_ble_eq_true rfl) dX7_takeRun_73 (fun H locs hP hD hS => ?_)
          have hP : va_P (dC, dI) vwCl [(o, Sum.inr (7, [Value.int v_length, Value.int v_faultKind, Value.int v_faultPlace, Value.ref o_into, Value.ref a_text, Value.int v1, Value.int 4, Value.int v_start, Value.int v_value, Value.ref a_nameStart, Value.ref a_nameEnd, Value.int v_hasElse, Value.int v_hasLeast, Value.int v_hasFeel])), (a_text, Sum.inl (k_a_text, 900, Sum.inl f_a_text))] H := hP
          have hD : va_D A [(o, Sum.inr (7, [Value.int v_length, Value.int v_faultKind, Value.int v_faultPlace, Value.ref o_into, Value.ref a_text, Value.int v1, Value.int 4, Value.int v_start, Value.int v_value, Value.ref a_nameStart, Value.ref a_nameEnd, Value.int v_hasElse, Value.int v_hasLeast, Value.int v_hasFeel])), (a_text, Sum.inl (k_a_text, 900, Sum.inl f_a_text))] := hD
          have hP9 := hP.sub (ws' := [(o, Sum.inr (7, [Value.int v_length, Value.int v_faultKind, Value.int v_faultPlace, Value.ref o_into, Value.ref a_text, Value.int v1, Value.int 4, Value.int v_start, Value.int v_value, Value.ref a_nameStart, Value.ref a_nameEnd, Value.int v_hasElse, Value.int v_hasLeast, Value.int v_hasFeel])), (a_text, Sum.inl (k_a_text, 900, Sum.inl f_a_text))]) [0, 1] rfl
          have hD9 := hD.sub (ws' := [(o, Sum.inr (7, [Value.int v_length, Value.int v_faultKind, Value.int v_faultPlace, Value.ref o_into, Value.ref a_text, Value.int v1, Value.int 4, Value.int v_start, Value.int v_value, Value.ref a_nameStart, Value.ref a_nameEnd, Value.int v_hasElse, Value.int v_hasLeast, Value.int v_hasFeel])), (a_text, Sum.inl (k_a_text, 900, Sum.inl f_a_text))]) [0, 1] (by decide) rfl
          exact W.vret hx hb hr (fun t ht hW => ⟨⟨(), rfl, trivial, v1, 4, (iv.m (by omega)), (iv.m (by decide)), by rw [ht]; exact hP9, hD9⟩, hS.F ht⟩) hS.2.2 dX7_takeRun_76
      · have c119 := i32_eq c11 rfl (show (1 : Int32).toInt = 1 by decide)
        refine lv_bipush (v := 8) hx hb dX7_takeRun_51 (by decide) ?_
        refine lv_goto (tgt := 57) hx hb dX7_takeRun_53 (by decide) ?_
        refine lv_istore_n (lv' := [(1, Value.int 8), (0, Value.ref o)]) hx hb dX7_takeRun_57 rfl hl (by decide) rfl (fun ls hl => ?_)
        refine lv_aload_n hx hb dX7_takeRun_58 rfl (lv_at hl 1 rfl) ?_
        refine va_get (D := (dC, dI)) (ci := 7) (v := Value.int v1) (C := RX7) (T := TX7) (N := 14) hx hb hts iw_X7_takeRun_X7 hown hK hP 0 rfl rfl 5 (by decide) (hts _ kk_X7_takeRun_0) (fun _ h9 => h9) rfl dX7_takeRun_59 ?_
        refine lv_aload_n hx hb dX7_takeRun_62 rfl (lv_at hl 1 rfl) ?_
        refine va_get (D := (dC, dI)) (ci := 7) (v := Value.int v_start) (C := RX7) (T := TX7) (N := 14) hx hb hts iw_X7_takeRun_X7 hown hK hP 0 rfl rfl 7 (by decide) (hts _ kk_X7_takeRun_3) (fun _ h9 => h9) rfl dX7_takeRun_63 ?_
        refine lv_isub hx hb dX7_takeRun_66 ?_
        refine lv_topi (fun x14 ex14 => ?_)
        have bv_start := hv_start.u
        have tx14 := i32_sub ex14 rfl rfl (by omega) (by omega)
        refine lv_iload_n hx hb dX7_takeRun_67 rfl (lv_at hl 0 rfl) ?_
        refine lv_icmp_le (tgt := 76) hx hb dX7_takeRun_68 (by decide) (fun c15 => ?_) (fun c15 => ?_)
        · have c159 := i32_le c15 rfl (show (8 : Int32).toInt = 8 by decide)
          have hP9 := hP.sub (ws' := [(o, Sum.inr (7, [Value.int v_length, Value.int v_faultKind, Value.int v_faultPlace, Value.ref o_into, Value.ref a_text, Value.int v1, Value.int v_token, Value.int v_start, Value.int v_value, Value.ref a_nameStart, Value.ref a_nameEnd, Value.int v_hasElse, Value.int v_hasLeast, Value.int v_hasFeel])), (a_text, Sum.inl (k_a_text, 900, Sum.inl f_a_text))]) [0, 1] rfl
          have hD9 := hD.sub (ws' := [(o, Sum.inr (7, [Value.int v_length, Value.int v_faultKind, Value.int v_faultPlace, Value.ref o_into, Value.ref a_text, Value.int v1, Value.int v_token, Value.int v_start, Value.int v_value, Value.ref a_nameStart, Value.ref a_nameEnd, Value.int v_hasElse, Value.int v_hasLeast, Value.int v_hasFeel])), (a_text, Sum.inl (k_a_text, 900, Sum.inl f_a_text))]) [0, 1] (by decide) rfl
          exact W.vret hx hb hr (fun t ht hW => ⟨⟨(), rfl, trivial, v1, v_token, (iv.m (by omega)), (iv.m (by omega)), by rw [ht]; exact hP9, hD9⟩, hS.F ht⟩) hS.2.2 dX7_takeRun_76
        · have c159 := i32_nle c15 rfl (show (8 : Int32).toInt = 8 by decide)
          refine lv_aload_n hx hb dX7_takeRun_71 rfl (lv_at hl 1 rfl) ?_
          refine lv_iconst (v := 4) hx hb dX7_takeRun_72 (by decide) ?_
          refine va_put (D := (dC, dI)) (ci := 7) (v := Value.int 4) (ty := FieldType.int) (C := RX7) (T := TX7) (N := 14) hx hb hts iw_X7_takeRun_X7 tyX7 tyX7_ok nmX7 hown hK hP hD hS 0 rfl rfl 6 (by decide) (hts _ kk_X7_takeRun_2) (fun _ h9 => h9) rfl (by decide +kernel) rfl rfl (Nat.le_of_ble_eq_true rfl) dX7_takeRun_73 (fun H locs hP hD hS => ?_)
          have hP : va_P (dC, dI) vwCl [(o, Sum.inr (7, [Value.int v_length, Value.int v_faultKind, Value.int v_faultPlace, Value.ref o_into, Value.ref a_text, Value.int v1, Value.int 4, Value.int v_start, Value.int v_value, Value.ref a_nameStart, Value.ref a_nameEnd, Value.int v_hasElse, Value.int v_hasLeast, Value.int v_hasFeel])), (a_text, Sum.inl (k_a_text, 900, Sum.inl f_a_text))] H := hP
          have hD : va_D A [(o, Sum.inr (7, [Value.int v_length, Value.int v_faultKind, Value.int v_faultPlace, Value.ref o_into, Value.ref a_text, Value.int v1, Value.int 4, Value.int v_start, Value.int v_value, Value.ref a_nameStart, Value.ref a_nameEnd, Value.int v_hasElse, Value.int v_hasLeast, Value.int v_hasFeel])), (a_text, Sum.inl (k_a_text, 900, Sum.inl f_a_text))] := hD
          have hP9 := hP.sub (ws' := [(o, Sum.inr (7, [Value.int v_length, Value.int v_faultKind, Value.int v_faultPlace, Value.ref o_into, Value.ref a_text, Value.int v1, Value.int 4, Value.int v_start, Value.int v_value, Value.ref a_nameStart, Value.ref a_nameEnd, Value.int v_hasElse, Value.int v_hasLeast, Value.int v_hasFeel])), (a_text, Sum.inl (k_a_text, 900, Sum.inl f_a_text))]) [0, 1] rfl
          have hD9 := hD.sub (ws' := [(o, Sum.inr (7, [Value.int v_length, Value.int v_faultKind, Value.int v_faultPlace, Value.ref o_into, Value.ref a_text, Value.int v1, Value.int 4, Value.int v_start, Value.int v_value, Value.ref a_nameStart, Value.ref a_nameEnd, Value.int v_hasElse, Value.int v_hasLeast, Value.int v_hasFeel])), (a_text, Sum.inl (k_a_text, 900, Sum.inl f_a_text))]) [0, 1] (by decide) rfl
          exact W.vret hx hb hr (fun t ht hW => ⟨⟨(), rfl, trivial, v1, 4, (iv.m (by omega)), (iv.m (by decide)), by rw [ht]; exact hP9, hD9⟩, hS.F ht⟩) hS.2.2 dX7_takeRun_76
    · have c109 := i32_eq c10 rfl rfl
      refine lv_aload_n hx hb dX7_takeRun_30 rfl (lv_at hl 0 rfl) ?_
      refine lv_dup hx hb dX7_takeRun_31 rfl ?_
      refine va_get (D := (dC, dI)) (ci := 7) (v := Value.int v1) (C := RX7) (T := TX7) (N := 14) hx hb hts iw_X7_takeRun_X7 hown hK hP 0 rfl rfl 5 (by decide) (hts _ kk_X7_takeRun_0) (fun _ h9 => h9) rfl dX7_takeRun_32 ?_
      refine lv_iconst (v := 1) hx hb dX7_takeRun_35 (by decide) ?_
      refine lv_iadd hx hb dX7_takeRun_36 ?_
      refine lv_topi (fun x16 ex16 => ?_)
      have tx16 := i32_add ex16 rfl (show (1 : Int32).toInt = 1 by decide) (by omega) (by omega)
      refine va_put (D := (dC, dI)) (ci := 7) (v := Value.int x16) (ty := FieldType.int) (C := RX7) (T := TX7) (N := 14) hx hb hts iw_X7_takeRun_X7 tyX7 tyX7_ok nmX7 hown hK hP hD hS 0 rfl rfl 5 (by decide) (hts _ kk_X7_takeRun_0) (fun _ h9 => h9) rfl (by decide +kernel) rfl rfl (Nat.le_of_ble_eq_true rfl) dX7_takeRun_37 (fun H locs hP hD hS => ?_)
      have hP : va_P (dC, dI) vwCl [(o, Sum.inr (7, [Value.int v_length, Value.int v_faultKind, Value.int v_faultPlace, Value.ref o_into, Value.ref a_text, Value.int x16, Value.int v_token, Value.int v_start, Value.int v_value, Value.ref a_nameStart, Value.ref a_nameEnd, Value.int v_hasElse, Value.int v_hasLeast, Value.int v_hasFeel])), (a_text, Sum.inl (k_a_text, 900, Sum.inl f_a_text))] H := hP
      have hD : va_D A [(o, Sum.inr (7, [Value.int v_length, Value.int v_faultKind, Value.int v_faultPlace, Value.ref o_into, Value.ref a_text, Value.int x16, Value.int v_token, Value.int v_start, Value.int v_value, Value.ref a_nameStart, Value.ref a_nameEnd, Value.int v_hasElse, Value.int v_hasLeast, Value.int v_hasFeel])), (a_text, Sum.inl (k_a_text, 900, Sum.inl f_a_text))] := hD
      refine lv_goto (tgt := 0) hx hb dX7_takeRun_40 (by decide) ?_
      exact ih0 _ _ _ _ (by omega) ⟨x16, rfl, (iv.m (by omega)), hP, hD, hS, lv_sub hl [0] rfl⟩

set_option maxHeartbeats 4000000 in
set_option maxRecDepth 100000 in
theorem ct_X7_advance (l : Launch) (dC : Nat → ClassId) (dI : Nat → Nat → Nat) (o : Nat) (v_length : Int32) (v_faultKind : Int32) (v_faultPlace : Int32) (o_into : Nat) (a_text : Nat) (v_next : Int32) (v_token : Int32) (v_start : Int32) (v_value : Int32) (a_nameStart : Nat) (a_nameEnd : Nat) (v_hasElse : Int32) (v_hasLeast : Int32) (v_hasFeel : Int32) (k_a_text : ClassId) (f_a_text : Nat → Int32) (hv_length : iv v_length 0 900) (hv_next : iv v_next 0 900) (sz : Nat) : Met l yX7_advance wsX7_advance ({ frames := 2, cells := 0, slots := 0, locals := 41 }) (va_Pc [Value.ref o] (fun U => U.heap.size = sz ∧ va_P (dC, dI) vwCl [(o, Sum.inr (7, [Value.int v_length, Value.int v_faultKind, Value.int v_faultPlace, Value.ref o_into, Value.ref a_text, Value.int v_next, Value.int v_token, Value.int v_start, Value.int v_value, Value.ref a_nameStart, Value.ref a_nameEnd, Value.int v_hasElse, Value.int v_hasLeast, Value.int v_hasFeel])), (a_text, Sum.inl (k_a_text, 900, Sum.inl f_a_text))] U.heap ∧ va_K (dC, dI) vwCl [(k_a_text, FieldType.byte)] U ∧ va_D (fun _ => True) [(o, Sum.inr (7, [Value.int v_length, Value.int v_faultKind, Value.int v_faultPlace, Value.ref o_into, Value.ref a_text, Value.int v_next, Value.int v_token, Value.int v_start, Value.int v_value, Value.ref a_nameStart, Value.ref a_nameEnd, Value.int v_hasElse, Value.int v_hasLeast, Value.int v_hasFeel])), (a_text, Sum.inl (k_a_text, 900, Sum.inl f_a_text))])) (va_Qv (fun _ : Unit => True) (fun _ t => ∃ (e_v_next : Int32) (e_v_token : Int32) (e_v_start : Int32), iv e_v_next 0 900 ∧ iv e_v_token 0 5 ∧ iv e_v_start 0 900 ∧ va_P (dC, dI) vwCl [(o, Sum.inr (7, [Value.int v_length, Value.int v_faultKind, Value.int v_faultPlace, Value.ref o_into, Value.ref a_text, Value.int e_v_next, Value.int e_v_token, Value.int e_v_start, Value.int v_value, Value.ref a_nameStart, Value.ref a_nameEnd, Value.int v_hasElse, Value.int v_hasLeast, Value.int v_hasFeel])), (a_text, Sum.inl (k_a_text, 900, Sum.inl f_a_text))] t.heap ∧ va_D (va_A [(o, Sum.inr (7, [Value.int v_length, Value.int v_faultKind, Value.int v_faultPlace, Value.ref o_into, Value.ref a_text, Value.int v_next, Value.int v_token, Value.int v_start, Value.int v_value, Value.ref a_nameStart, Value.ref a_nameEnd, Value.int v_hasElse, Value.int v_hasLeast, Value.int v_hasFeel])), (a_text, Sum.inl (k_a_text, 900, Sum.inl f_a_text))] sz) [(o, Sum.inr (7, [Value.int v_length, Value.int v_faultKind, Value.int v_faultPlace, Value.ref o_into, Value.ref a_text, Value.int e_v_next, Value.int e_v_token, Value.int e_v_start, Value.int v_value, Value.ref a_nameStart, Value.ref a_nameEnd, Value.int v_hasElse, Value.int v_hasLeast, Value.int v_hasFeel])), (a_text, Sum.inl (k_a_text, 900, Sum.inl f_a_text))]) (va_A [(o, Sum.inr (7, [Value.int v_length, Value.int v_faultKind, Value.int v_faultPlace, Value.ref o_into, Value.ref a_text, Value.int v_next, Value.int v_token, Value.int v_start, Value.int v_value, Value.ref a_nameStart, Value.ref a_nameEnd, Value.int v_hasElse, Value.int v_hasLeast, Value.int v_hasFeel])), (a_text, Sum.inl (k_a_text, 900, Sum.inl f_a_text))] sz)) 0 0 (va_A [(o, Sum.inr (7, [Value.int v_length, Value.int v_faultKind, Value.int v_faultPlace, Value.ref o_into, Value.ref a_text, Value.int v_next, Value.int v_token, Value.int v_start, Value.int v_value, Value.ref a_nameStart, Value.ref a_nameEnd, Value.int v_hasElse, Value.int v_hasLeast, Value.int v_hasFeel])), (a_text, Sum.inl (k_a_text, 900, Sum.inl f_a_text))] sz) := by
  refine Met.ofW (cc := cX7_advance) (maxL := 1) (ret := none) pn_X7 rfl ?_
  intro p e s m args below meth c s₁ B hml hv
  obtain ⟨rfl, hsz, hP, hK, hD0⟩ := hv
  have hx := B.exec
  have hb := B.bytes
  have hr := B.returns
  have hts := atoms_spec (ws := wsX7_advance) B.pre
  have hown : s.vm.findClass RX7 = some m.cls := findClass_of_methodNamed B.named
  have hlocks := B.notSynchronized
  subst hsz
  have hD := hD0.self (sz := s.heap.size)
  generalize hAe : va_A [(o, Sum.inr (7, [Value.int v_length, Value.int v_faultKind, Value.int v_faultPlace, Value.ref o_into, Value.ref a_text, Value.int v_next, Value.int v_token, Value.int v_start, Value.int v_value, Value.ref a_nameStart, Value.ref a_nameEnd, Value.int v_hasElse, Value.int v_hasLeast, Value.int v_hasFeel])), (a_text, Sum.inl (k_a_text, 900, Sum.inl f_a_text))] s.heap.size = A at hD ⊢
  have hA : ∀ q : Nat, s.heap.size ≤ q → A q := fun q h => by rw [← hAe]; exact Or.inr h
  have hS : va_S A s.heap s.heap [] := va_S.rf
  have hP : va_P (dC, dI) vwCl [(o, Sum.inr (7, [Value.int v_length, Value.int v_faultKind, Value.int v_faultPlace, Value.ref o_into, Value.ref a_text, Value.int v_next, Value.int v_token, Value.int v_start, Value.int v_value, Value.ref a_nameStart, Value.ref a_nameEnd, Value.int v_hasElse, Value.int v_hasLeast, Value.int v_hasFeel])), (a_text, Sum.inl (k_a_text, 900, Sum.inl f_a_text))] s.heap := hP
  have hl := lv_entry ([Value.ref o]) (n := 1) (Nat.le_of_ble_eq_true rfl)
  rw [lg_entry_eq]
  generalize (lg_sl ([Value.ref o]) ++ List.replicate (1 - (lg_sl ([Value.ref o])).length) Slot.unset).toArray = ls at hl ⊢
  have hl : lv_has ls 1 [(0, Value.ref o)] := hl
  refine tl_loop (I := fun nn H locs ls => ∃ (v1 : Int32), nn = (900 - v1.toInt).toNat ∧ iv v1 0 900 ∧  va_P (dC, dI) vwCl [(o, Sum.inr (7, [Value.int v_length, Value.int v_faultKind, Value.int v_faultPlace, Value.ref o_into, Value.ref a_text, Value.int v1, Value.int v_token, Value.int v_start, Value.int v_value, Value.ref a_nameStart, Value.ref a_nameEnd, Value.int v_hasElse, Value.int v_hasLeast, Value.int v_hasFeel])), (a_text, Sum.inl (k_a_text, 900, Sum.inl f_a_text))] H ∧ va_D A [(o, Sum.inr (7, [Value.int v_length, Value.int v_faultKind, Value.int v_faultPlace, Value.ref o_into, Value.ref a_text, Value.int v1, Value.int v_token, Value.int v_start, Value.int v_value, Value.ref a_nameStart, Value.ref a_nameEnd, Value.int v_hasElse, Value.int v_hasLeast, Value.int v_hasFeel])), (a_text, Sum.inl (k_a_text, 900, Sum.inl f_a_text))] ∧ va_S A s.heap H locs ∧ lv_has ls 1 [(0, Value.ref o)]) ?_ ⟨v_next, rfl, hv_next, hP, hD, hS, lv_sub hl [0] rfl⟩
  clear hP hD hS hl
  intro nn0 H locs ls hI ih0
  obtain ⟨v1, hn0, hv1, hP, hD, hS, hl⟩ := hI
  refine lv_aload_n hx hb dX7_advance_0 rfl (lv_at hl 0 rfl) ?_
  refine va_get (D := (dC, dI)) (ci := 7) (v := Value.int v1) (C := RX7) (T := TX7) (N := 14) hx hb hts iw_X7_advance_X7 hown hK hP 0 rfl rfl 5 (by decide) (hts _ kk_X7_advance_0) (fun _ h9 => h9) rfl dX7_advance_1 ?_
  refine lv_aload_n hx hb dX7_advance_4 rfl (lv_at hl 0 rfl) ?_
  refine va_get (D := (dC, dI)) (ci := 7) (v := Value.int v_length) (C := RX7) (T := TX7) (N := 14) hx hb hts iw_X7_advance_X7 hown hK hP 0 rfl rfl 0 (by decide) (hts _ kk_X7_advance_1) (fun _ h9 => h9) rfl dX7_advance_5 ?_
  have bv1 := hv1.u
  have bv_length := hv_length.u
  refine lv_icmp_ge (tgt := 40) hx hb dX7_advance_8 (by decide) (fun c2 => ?_) (fun c2 => ?_)
  · have c29 := i32_le c2 rfl rfl
    refine lv_aload_n hx hb dX7_advance_40 rfl (lv_at hl 0 rfl) ?_
    refine lv_aload_n hx hb dX7_advance_41 rfl (lv_at hl 0 rfl) ?_
    refine va_get (D := (dC, dI)) (ci := 7) (v := Value.int v1) (C := RX7) (T := TX7) (N := 14) hx hb hts iw_X7_advance_X7 hown hK hP 0 rfl rfl 5 (by decide) (hts _ kk_X7_advance_0) (fun _ h9 => h9) rfl dX7_advance_42 ?_
    refine va_put (D := (dC, dI)) (ci := 7) (v := Value.int v1) (ty := FieldType.int) (C := RX7) (T := TX7) (N := 14) hx hb hts iw_X7_advance_X7 tyX7 tyX7_ok nmX7 hown hK hP hD hS 0 rfl rfl 7 (by decide) (hts _ kk_X7_advance_2) (fun _ h9 => h9) rfl (by decide +kernel) rfl rfl (Nat.le_of_ble_eq_true rfl) dX7_advance_45 (fun H locs hP hD hS => ?_)
    have hP : va_P (dC, dI) vwCl [(o, Sum.inr (7, [Value.int v_length, Value.int v_faultKind, Value.int v_faultPlace, Value.ref o_into, Value.ref a_text, Value.int v1, Value.int v_token, Value.int v1, Value.int v_value, Value.ref a_nameStart, Value.ref a_nameEnd, Value.int v_hasElse, Value.int v_hasLeast, Value.int v_hasFeel])), (a_text, Sum.inl (k_a_text, 900, Sum.inl f_a_text))] H := hP
    have hD : va_D A [(o, Sum.inr (7, [Value.int v_length, Value.int v_faultKind, Value.int v_faultPlace, Value.ref o_into, Value.ref a_text, Value.int v1, Value.int v_token, Value.int v1, Value.int v_value, Value.ref a_nameStart, Value.ref a_nameEnd, Value.int v_hasElse, Value.int v_hasLeast, Value.int v_hasFeel])), (a_text, Sum.inl (k_a_text, 900, Sum.inl f_a_text))] := hD
    refine lv_aload_n hx hb dX7_advance_48 rfl (lv_at hl 0 rfl) ?_
    refine va_get (D := (dC, dI)) (ci := 7) (v := Value.int v1) (C := RX7) (T := TX7) (N := 14) hx hb hts iw_X7_advance_X7 hown hK hP 0 rfl rfl 5 (by decide) (hts _ kk_X7_advance_0) (fun _ h9 => h9) rfl dX7_advance_49 ?_
    refine lv_aload_n hx hb dX7_advance_52 rfl (lv_at hl 0 rfl) ?_
    refine va_get (D := (dC, dI)) (ci := 7) (v := Value.int v_length) (C := RX7) (T := TX7) (N := 14) hx hb hts iw_X7_advance_X7 hown hK hP 0 rfl rfl 0 (by decide) (hts _ kk_X7_advance_1) (fun _ h9 => h9) rfl dX7_advance_53 ?_
    refine lv_icmp_lt (tgt := 65) hx hb dX7_advance_56 (by decide) (fun c3 => ?_) (fun c3 => ?_)
    · have c39 := i32_lt c3 rfl rfl
      refine lv_aload_n hx hb dX7_advance_65 rfl (lv_at hl 0 rfl) ?_
      refine lv_aload_n hx hb dX7_advance_66 rfl (lv_at hl 0 rfl) ?_
      refine va_get (D := (dC, dI)) (ci := 7) (v := Value.ref a_text) (C := RX7) (T := TX7) (N := 14) hx hb hts iw_X7_advance_X7 hown hK hP 0 rfl rfl 4 (by decide) (hts _ kk_X7_advance_3) (fun _ h9 => h9) rfl dX7_advance_67 ?_
      refine lv_aload_n hx hb dX7_advance_70 rfl (lv_at hl 0 rfl) ?_
      refine va_get (D := (dC, dI)) (ci := 7) (v := Value.int v1) (C := RX7) (T := TX7) (N := 14) hx hb hts iw_X7_advance_X7 hown hK hP 0 rfl rfl 5 (by decide) (hts _ kk_X7_advance_0) (fun _ h9 => h9) rfl dX7_advance_71 ?_
      refine va_bald hx hb hK hP 1 0 rfl rfl (vq_in v1 900 (by omega)) dX7_advance_74 ?_
      refine lv_topi (fun x4 ex4 => ?_)
      have hPc := hP.sub (ws' := []) [] rfl
      have hDc := hD.sub (ws' := []) [] (by decide) rfl
      have hKc := hK.sub (tys' := []) [] rfl
      have hFc := va_free (wc := []) hD hS hA [] rfl
      refine va_calli (va_runS (As := [Value.int x4]) (rest := [Value.ref o]) ⟨hx, hb, hml, hown, hts⟩ (ct_X7_kindOf l dC dI x4 H.size) (va_cwS 1 hts gX7_advance_X7_kindOf rfl rfl rfl ⟨cn_X7.1, cn_X7.2, ds_32⟩ ⟨Nat.le_of_ble_eq_true rfl, Nat.le_of_ble_eq_true rfl⟩) ⟨fun a U g mk q => by obtain ⟨q0, q1, qP, qK, qD⟩ := q; exact ⟨q0, q1, qP, va_K.moved (u := U) (U := U.calling g mk a) (Vm.Alike.refl U.vm) qK, qD⟩, fun U hU hW => ⟨rfl, by rw [hU], by rw [hU]; exact hPc, va_K.moved hW.alike hKc, hDc.weaken (fun _ _ _ _ => trivial)⟩⟩ rfl rfl hl.1 rfl (lv_room (Nat.le_of_ble_eq_true rfl)) dX7_advance_75 ⟨Nat.le_of_ble_eq_true rfl, Nat.le_of_ble_eq_true rfl⟩) hS (fun q _ h => hFc q h) hFc (fun r5 u t H1 locs ht hvm hw hB hz1 hk1 hS => ?_)
      have hw : r5 = u := hw.symm
      subst hw
      obtain ⟨hr5, hP1, hD1⟩ := hB
      rw [ht] at hP1
      obtain ⟨hP, hD⟩ := va_join (wr := [(o, Sum.inr (7, [Value.int v_length, Value.int v_faultKind, Value.int v_faultPlace, Value.ref o_into, Value.ref a_text, Value.int v1, Value.int v_token, Value.int v1, Value.int v_value, Value.ref a_nameStart, Value.ref a_nameEnd, Value.int v_hasElse, Value.int v_hasLeast, Value.int v_hasFeel])), (a_text, Sum.inl (k_a_text, 900, Sum.inl f_a_text))]) (w1 := []) hP hD [] [0, 1] rfl rfl (by decide) (by decide) hk1 hFc hP1 hD1
      clear hPc hDc hKc hFc hP1 hD1 hk1 hz1
      generalize H1 = H at hP hS ⊢
      have hP : va_P (dC, dI) vwCl [(o, Sum.inr (7, [Value.int v_length, Value.int v_faultKind, Value.int v_faultPlace, Value.ref o_into, Value.ref a_text, Value.int v1, Value.int v_token, Value.int v1, Value.int v_value, Value.ref a_nameStart, Value.ref a_nameEnd, Value.int v_hasElse, Value.int v_hasLeast, Value.int v_hasFeel])), (a_text, Sum.inl (k_a_text, 900, Sum.inl f_a_text))] H := hP
      have hD : va_D A [(o, Sum.inr (7, [Value.int v_length, Value.int v_faultKind, Value.int v_faultPlace, Value.ref o_into, Value.ref a_text, Value.int v1, Value.int v_token, Value.int v1, Value.int v_value, Value.ref a_nameStart, Value.ref a_nameEnd, Value.int v_hasElse, Value.int v_hasLeast, Value.int v_hasFeel])), (a_text, Sum.inl (k_a_text, 900, Sum.inl f_a_text))] := hD
      refine W.widen (k := 0) (n := 0) (by decide) (by decide) ?_
      refine va_put (D := (dC, dI)) (ci := 7) (v := Value.int r5) (ty := FieldType.int) (C := RX7) (T := TX7) (N := 14) hx hb hts iw_X7_advance_X7 tyX7 tyX7_ok nmX7 hown hK hP hD hS 0 rfl rfl 6 (by decide) (hts _ kk_X7_advance_4) (fun _ h9 => h9) rfl (by decide +kernel) rfl rfl (Nat.le_of_ble_eq_true rfl) dX7_advance_78 (fun H locs hP hD hS => ?_)
      have hP : va_P (dC, dI) vwCl [(o, Sum.inr (7, [Value.int v_length, Value.int v_faultKind, Value.int v_faultPlace, Value.ref o_into, Value.ref a_text, Value.int v1, Value.int r5, Value.int v1, Value.int v_value, Value.ref a_nameStart, Value.ref a_nameEnd, Value.int v_hasElse, Value.int v_hasLeast, Value.int v_hasFeel])), (a_text, Sum.inl (k_a_text, 900, Sum.inl f_a_text))] H := hP
      have hD : va_D A [(o, Sum.inr (7, [Value.int v_length, Value.int v_faultKind, Value.int v_faultPlace, Value.ref o_into, Value.ref a_text, Value.int v1, Value.int r5, Value.int v1, Value.int v_value, Value.ref a_nameStart, Value.ref a_nameEnd, Value.int v_hasElse, Value.int v_hasLeast, Value.int v_hasFeel])), (a_text, Sum.inl (k_a_text, 900, Sum.inl f_a_text))] := hD
      refine lv_aload_n hx hb dX7_advance_81 rfl (lv_at hl 0 rfl) ?_
      refine lv_dup hx hb dX7_advance_82 rfl ?_
      refine va_get (D := (dC, dI)) (ci := 7) (v := Value.int v1) (C := RX7) (T := TX7) (N := 14) hx hb hts iw_X7_advance_X7 hown hK hP 0 rfl rfl 5 (by decide) (hts _ kk_X7_advance_0) (fun _ h9 => h9) rfl dX7_advance_83 ?_
      refine lv_iconst (v := 1) hx hb dX7_advance_86 (by decide) ?_
      refine lv_iadd hx hb dX7_advance_87 ?_
      refine lv_topi (fun x6 ex6 => ?_)
      have tx6 := i32_add ex6 rfl (show (1 : Int32).toInt = 1 by decide) (by omega) (by omega)
      refine va_put (D := (dC, dI)) (ci := 7) (v := Value.int x6) (ty := FieldType.int) (C := RX7) (T := TX7) (N := 14) hx hb hts iw_X7_advance_X7 tyX7 tyX7_ok nmX7 hown hK hP hD hS 0 rfl rfl 5 (by decide) (hts _ kk_X7_advance_0) (fun _ h9 => h9) rfl (by decide +kernel) rfl rfl (Nat.le_of_ble_eq_true rfl) dX7_advance_88 (fun H locs hP hD hS => ?_)
      have hP : va_P (dC, dI) vwCl [(o, Sum.inr (7, [Value.int v_length, Value.int v_faultKind, Value.int v_faultPlace, Value.ref o_into, Value.ref a_text, Value.int x6, Value.int r5, Value.int v1, Value.int v_value, Value.ref a_nameStart, Value.ref a_nameEnd, Value.int v_hasElse, Value.int v_hasLeast, Value.int v_hasFeel])), (a_text, Sum.inl (k_a_text, 900, Sum.inl f_a_text))] H := hP
      have hD : va_D A [(o, Sum.inr (7, [Value.int v_length, Value.int v_faultKind, Value.int v_faultPlace, Value.ref o_into, Value.ref a_text, Value.int x6, Value.int r5, Value.int v1, Value.int v_value, Value.ref a_nameStart, Value.ref a_nameEnd, Value.int v_hasElse, Value.int v_hasLeast, Value.int v_hasFeel])), (a_text, Sum.inl (k_a_text, 900, Sum.inl f_a_text))] := hD
      refine lv_aload_n hx hb dX7_advance_91 rfl (lv_at hl 0 rfl) ?_
      refine va_get (D := (dC, dI)) (ci := 7) (v := Value.int r5) (C := RX7) (T := TX7) (N := 14) hx hb hts iw_X7_advance_X7 hown hK hP 0 rfl rfl 6 (by decide) (hts _ kk_X7_advance_4) (fun _ h9 => h9) rfl dX7_advance_92 ?_
      refine lv_iconst (v := 1) hx hb dX7_advance_95 (by decide) ?_
      have br5 := hr5.u
      refine lv_icmp_eq (tgt := 107) hx hb dX7_advance_96 (by decide) (fun c7 => ?_) (fun c7 => ?_)
      · have c79 := i32_eq c7 rfl (show (1 : Int32).toInt = 1 by decide)
        refine lv_aload_n hx hb dX7_advance_107 rfl (lv_at hl 0 rfl) ?_
        have hPc := hP.sub (ws' := [(o, Sum.inr (7, [Value.int v_length, Value.int v_faultKind, Value.int v_faultPlace, Value.ref o_into, Value.ref a_text, Value.int x6, Value.int r5, Value.int v1, Value.int v_value, Value.ref a_nameStart, Value.ref a_nameEnd, Value.int v_hasElse, Value.int v_hasLeast, Value.int v_hasFeel])), (a_text, Sum.inl (k_a_text, 900, Sum.inl f_a_text))]) [0, 1] rfl
        have hDc := hD.sub (ws' := [(o, Sum.inr (7, [Value.int v_length, Value.int v_faultKind, Value.int v_faultPlace, Value.ref o_into, Value.ref a_text, Value.int x6, Value.int r5, Value.int v1, Value.int v_value, Value.ref a_nameStart, Value.ref a_nameEnd, Value.int v_hasElse, Value.int v_hasLeast, Value.int v_hasFeel])), (a_text, Sum.inl (k_a_text, 900, Sum.inl f_a_text))]) [0, 1] (by decide) rfl
        have hKc := hK.sub (tys' := [(k_a_text, FieldType.byte)]) [0] rfl
        have hFc := va_free (wc := [(o, Sum.inr (7, [Value.int v_length, Value.int v_faultKind, Value.int v_faultPlace, Value.ref o_into, Value.ref a_text, Value.int x6, Value.int r5, Value.int v1, Value.int v_value, Value.ref a_nameStart, Value.ref a_nameEnd, Value.int v_hasElse, Value.int v_hasLeast, Value.int v_hasFeel])), (a_text, Sum.inl (k_a_text, 900, Sum.inl f_a_text))]) hD hS hA [0, 1] rfl
        refine va_callv (va_runV (As := []) (rest := []) ⟨hx, hb, hml, hown, hts⟩ (ct_X7_takeRun l dC dI o v_length v_faultKind v_faultPlace o_into a_text x6 r5 v1 v_value a_nameStart a_nameEnd v_hasElse v_hasLeast v_hasFeel k_a_text f_a_text (iv.m (by omega)) (iv.m (by omega)) (iv.m (by omega)) (iv.m (by omega)) H.size) (cwV 0 hts gX7_advance_X7_takeRun rfl rfl rfl ⟨rfl, cn_X7.1, cn_X7.2, ds_7⟩ ⟨Nat.le_of_ble_eq_true rfl, Nat.le_of_ble_eq_true rfl⟩) ⟨fun a U g mk q => by obtain ⟨q0, q1, qP, qK, qD⟩ := q; exact ⟨q0, q1, qP, va_K.moved (u := U) (U := U.calling g mk a) (Vm.Alike.refl U.vm) qK, qD⟩, va_recv hKc hPc (ci := 7) (q0 := 0) rfl rfl, fun U hU hW => ⟨rfl, by rw [hU], by rw [hU]; exact hPc, va_K.moved hW.alike hKc, hDc.weaken (fun _ _ _ _ => trivial)⟩⟩ rfl rfl hl.1 rfl (lv_room (Nat.le_of_ble_eq_true rfl)) dX7_advance_108 ⟨Nat.le_of_ble_eq_true rfl, Nat.le_of_ble_eq_true rfl⟩) hS (fun q _ h => hFc q h) hFc (fun u t H1 locs ht hvm hw hB hz1 hk1 hS => ?_)
        obtain ⟨v9, v10, hv9, hv10, hP1, hD1⟩ := hB
        rw [ht] at hP1
        obtain ⟨hP, hD⟩ := va_join (wr := []) (w1 := [(o, Sum.inr (7, [Value.int v_length, Value.int v_faultKind, Value.int v_faultPlace, Value.ref o_into, Value.ref a_text, Value.int v9, Value.int v10, Value.int v1, Value.int v_value, Value.ref a_nameStart, Value.ref a_nameEnd, Value.int v_hasElse, Value.int v_hasLeast, Value.int v_hasFeel])), (a_text, Sum.inl (k_a_text, 900, Sum.inl f_a_text))]) hP hD [0, 1] [] rfl rfl (by decide) (by decide) hk1 hFc hP1 hD1
        clear hPc hDc hKc hFc hP1 hD1 hk1 hz1
        generalize H1 = H at hP hS ⊢
        have hP : va_P (dC, dI) vwCl [(o, Sum.inr (7, [Value.int v_length, Value.int v_faultKind, Value.int v_faultPlace, Value.ref o_into, Value.ref a_text, Value.int v9, Value.int v10, Value.int v1, Value.int v_value, Value.ref a_nameStart, Value.ref a_nameEnd, Value.int v_hasElse, Value.int v_hasLeast, Value.int v_hasFeel])), (a_text, Sum.inl (k_a_text, 900, Sum.inl f_a_text))] H := hP
        have hD : va_D A [(o, Sum.inr (7, [Value.int v_length, Value.int v_faultKind, Value.int v_faultPlace, Value.ref o_into, Value.ref a_text, Value.int v9, Value.int v10, Value.int v1, Value.int v_value, Value.ref a_nameStart, Value.ref a_nameEnd, Value.int v_hasElse, Value.int v_hasLeast, Value.int v_hasFeel])), (a_text, Sum.inl (k_a_text, 900, Sum.inl f_a_text))] := hD
        refine W.widen (k := 0) (n := 0) (by decide) (by decide) ?_
        have hP9 := hP.sub (ws' := [(o, Sum.inr (7, [Value.int v_length, Value.int v_faultKind, Value.int v_faultPlace, Value.ref o_into, Value.ref a_text, Value.int v9, Value.int v10, Value.int v1, Value.int v_value, Value.ref a_nameStart, Value.ref a_nameEnd, Value.int v_hasElse, Value.int v_hasLeast, Value.int v_hasFeel])), (a_text, Sum.inl (k_a_text, 900, Sum.inl f_a_text))]) [0, 1] rfl
        have hD9 := hD.sub (ws' := [(o, Sum.inr (7, [Value.int v_length, Value.int v_faultKind, Value.int v_faultPlace, Value.ref o_into, Value.ref a_text, Value.int v9, Value.int v10, Value.int v1, Value.int v_value, Value.ref a_nameStart, Value.ref a_nameEnd, Value.int v_hasElse, Value.int v_hasLeast, Value.int v_hasFeel])), (a_text, Sum.inl (k_a_text, 900, Sum.inl f_a_text))]) [0, 1] (by decide) rfl
        exact W.vret hx hb hr (fun t ht hW => ⟨⟨(), rfl, trivial, v9, v10, v1, hv9, hv10, (iv.m (by omega)), by rw [ht]; exact hP9, hD9⟩, hS.F ht⟩) hS.2.2 dX7_advance_111
      · have c79 := i32_ne c7 rfl (show (1 : Int32).toInt = 1 by decide)
        refine lv_aload_n hx hb dX7_advance_99 rfl (lv_at hl 0 rfl) ?_
        refine va_get (D := (dC, dI)) (ci := 7) (v := Value.int r5) (C := RX7) (T := TX7) (N := 14) hx hb hts iw_X7_advance_X7 hown hK hP 0 rfl rfl 6 (by decide) (hts _ kk_X7_advance_4) (fun _ h9 => h9) rfl dX7_advance_100 ?_
        refine lv_iconst (v := 2) hx hb dX7_advance_103 (by decide) ?_
        refine lv_icmp_ne (tgt := 111) hx hb dX7_advance_104 (by decide) (fun c11 => ?_) (fun c11 => ?_)
        · have c119 := i32_ne c11 rfl (show (2 : Int32).toInt = 2 by decide)
          have hP9 := hP.sub (ws' := [(o, Sum.inr (7, [Value.int v_length, Value.int v_faultKind, Value.int v_faultPlace, Value.ref o_into, Value.ref a_text, Value.int x6, Value.int r5, Value.int v1, Value.int v_value, Value.ref a_nameStart, Value.ref a_nameEnd, Value.int v_hasElse, Value.int v_hasLeast, Value.int v_hasFeel])), (a_text, Sum.inl (k_a_text, 900, Sum.inl f_a_text))]) [0, 1] rfl
          have hD9 := hD.sub (ws' := [(o, Sum.inr (7, [Value.int v_length, Value.int v_faultKind, Value.int v_faultPlace, Value.ref o_into, Value.ref a_text, Value.int x6, Value.int r5, Value.int v1, Value.int v_value, Value.ref a_nameStart, Value.ref a_nameEnd, Value.int v_hasElse, Value.int v_hasLeast, Value.int v_hasFeel])), (a_text, Sum.inl (k_a_text, 900, Sum.inl f_a_text))]) [0, 1] (by decide) rfl
          exact W.vret hx hb hr (fun t ht hW => ⟨⟨(), rfl, trivial, x6, r5, v1, (iv.m (by omega)), (iv.m (by omega)), (iv.m (by omega)), by rw [ht]; exact hP9, hD9⟩, hS.F ht⟩) hS.2.2 dX7_advance_111
        · have c119 := i32_eq c11 rfl (show (2 : Int32).toInt = 2 by decide)
          refine lv_aload_n hx hb dX7_advance_107 rfl (lv_at hl 0 rfl) ?_
          have hPc := hP.sub (ws' := [(o, Sum.inr (7, [Value.int v_length, Value.int v_faultKind, Value.int v_faultPlace, Value.ref o_into, Value.ref a_text, Value.int x6, Value.int r5, Value.int v1, Value.int v_value, Value.ref a_nameStart, Value.ref a_nameEnd, Value.int v_hasElse, Value.int v_hasLeast, Value.int v_hasFeel])), (a_text, Sum.inl (k_a_text, 900, Sum.inl f_a_text))]) [0, 1] rfl
          have hDc := hD.sub (ws' := [(o, Sum.inr (7, [Value.int v_length, Value.int v_faultKind, Value.int v_faultPlace, Value.ref o_into, Value.ref a_text, Value.int x6, Value.int r5, Value.int v1, Value.int v_value, Value.ref a_nameStart, Value.ref a_nameEnd, Value.int v_hasElse, Value.int v_hasLeast, Value.int v_hasFeel])), (a_text, Sum.inl (k_a_text, 900, Sum.inl f_a_text))]) [0, 1] (by decide) rfl
          have hKc := hK.sub (tys' := [(k_a_text, FieldType.byte)]) [0] rfl
          have hFc := va_free (wc := [(o, Sum.inr (7, [Value.int v_length, Value.int v_faultKind, Value.int v_faultPlace, Value.ref o_into, Value.ref a_text, Value.int x6, Value.int r5, Value.int v1, Value.int v_value, Value.ref a_nameStart, Value.ref a_nameEnd, Value.int v_hasElse, Value.int v_hasLeast, Value.int v_hasFeel])), (a_text, Sum.inl (k_a_text, 900, Sum.inl f_a_text))]) hD hS hA [0, 1] rfl
          refine va_callv (va_runV (As := []) (rest := []) ⟨hx, hb, hml, hown, hts⟩ (ct_X7_takeRun l dC dI o v_length v_faultKind v_faultPlace o_into a_text x6 r5 v1 v_value a_nameStart a_nameEnd v_hasElse v_hasLeast v_hasFeel k_a_text f_a_text (iv.m (by omega)) (iv.m (by omega)) (iv.m (by omega)) (iv.m (by omega)) H.size) (cwV 0 hts gX7_advance_X7_takeRun rfl rfl rfl ⟨rfl, cn_X7.1, cn_X7.2, ds_7⟩ ⟨Nat.le_of_ble_eq_true rfl, Nat.le_of_ble_eq_true rfl⟩) ⟨fun a U g mk q => by obtain ⟨q0, q1, qP, qK, qD⟩ := q; exact ⟨q0, q1, qP, va_K.moved (u := U) (U := U.calling g mk a) (Vm.Alike.refl U.vm) qK, qD⟩, va_recv hKc hPc (ci := 7) (q0 := 0) rfl rfl, fun U hU hW => ⟨rfl, by rw [hU], by rw [hU]; exact hPc, va_K.moved hW.alike hKc, hDc.weaken (fun _ _ _ _ => trivial)⟩⟩ rfl rfl hl.1 rfl (lv_room (Nat.le_of_ble_eq_true rfl)) dX7_advance_108 ⟨Nat.le_of_ble_eq_true rfl, Nat.le_of_ble_eq_true rfl⟩) hS (fun q _ h => hFc q h) hFc (fun u t H1 locs ht hvm hw hB hz1 hk1 hS => ?_)
          obtain ⟨v13, v14, hv13, hv14, hP1, hD1⟩ := hB
          rw [ht] at hP1
          obtain ⟨hP, hD⟩ := va_join (wr := []) (w1 := [(o, Sum.inr (7, [Value.int v_length, Value.int v_faultKind, Value.int v_faultPlace, Value.ref o_into, Value.ref a_text, Value.int v13, Value.int v14, Value.int v1, Value.int v_value, Value.ref a_nameStart, Value.ref a_nameEnd, Value.int v_hasElse, Value.int v_hasLeast, Value.int v_hasFeel])), (a_text, Sum.inl (k_a_text, 900, Sum.inl f_a_text))]) hP hD [0, 1] [] rfl rfl (by decide) (by decide) hk1 hFc hP1 hD1
          clear hPc hDc hKc hFc hP1 hD1 hk1 hz1
          generalize H1 = H at hP hS ⊢
          have hP : va_P (dC, dI) vwCl [(o, Sum.inr (7, [Value.int v_length, Value.int v_faultKind, Value.int v_faultPlace, Value.ref o_into, Value.ref a_text, Value.int v13, Value.int v14, Value.int v1, Value.int v_value, Value.ref a_nameStart, Value.ref a_nameEnd, Value.int v_hasElse, Value.int v_hasLeast, Value.int v_hasFeel])), (a_text, Sum.inl (k_a_text, 900, Sum.inl f_a_text))] H := hP
          have hD : va_D A [(o, Sum.inr (7, [Value.int v_length, Value.int v_faultKind, Value.int v_faultPlace, Value.ref o_into, Value.ref a_text, Value.int v13, Value.int v14, Value.int v1, Value.int v_value, Value.ref a_nameStart, Value.ref a_nameEnd, Value.int v_hasElse, Value.int v_hasLeast, Value.int v_hasFeel])), (a_text, Sum.inl (k_a_text, 900, Sum.inl f_a_text))] := hD
          refine W.widen (k := 0) (n := 0) (by decide) (by decide) ?_
          have hP9 := hP.sub (ws' := [(o, Sum.inr (7, [Value.int v_length, Value.int v_faultKind, Value.int v_faultPlace, Value.ref o_into, Value.ref a_text, Value.int v13, Value.int v14, Value.int v1, Value.int v_value, Value.ref a_nameStart, Value.ref a_nameEnd, Value.int v_hasElse, Value.int v_hasLeast, Value.int v_hasFeel])), (a_text, Sum.inl (k_a_text, 900, Sum.inl f_a_text))]) [0, 1] rfl
          have hD9 := hD.sub (ws' := [(o, Sum.inr (7, [Value.int v_length, Value.int v_faultKind, Value.int v_faultPlace, Value.ref o_into, Value.ref a_text, Value.int v13, Value.int v14, Value.int v1, Value.int v_value, Value.ref a_nameStart, Value.ref a_nameEnd, Value.int v_hasElse, Value.int v_hasLeast, Value.int v_hasFeel])), (a_text, Sum.inl (k_a_text, 900, Sum.inl f_a_text))]) [0, 1] (by decide) rfl
          exact W.vret hx hb hr (fun t ht hW => ⟨⟨(), rfl, trivial, v13, v14, v1, hv13, hv14, (iv.m (by omega)), by rw [ht]; exact hP9, hD9⟩, hS.F ht⟩) hS.2.2 dX7_advance_111
    · have c39 := i32_nlt c3 rfl rfl
      refine lv_aload_n hx hb dX7_advance_59 rfl (lv_at hl 0 rfl) ?_
      refine lv_iconst (v := 0) hx hb dX7_advance_60 (by decide) ?_
      refine va_put (D := (dC, dI)) (ci := 7) (v := Value.int 0) (ty := FieldType.int) (C := RX7) (T := TX7) (N := 14) hx hb hts iw_X7_advance_X7 tyX7 tyX7_ok nmX7 hown hK hP hD hS 0 rfl rfl 6 (by decide) (hts _ kk_X7_advance_4) (fun _ h9 => h9) rfl (by decide +kernel) rfl rfl (Nat.le_of_ble_eq_true rfl) dX7_advance_61 (fun H locs hP hD hS => ?_)
      have hP : va_P (dC, dI) vwCl [(o, Sum.inr (7, [Value.int v_length, Value.int v_faultKind, Value.int v_faultPlace, Value.ref o_into, Value.ref a_text, Value.int v1, Value.int 0, Value.int v1, Value.int v_value, Value.ref a_nameStart, Value.ref a_nameEnd, Value.int v_hasElse, Value.int v_hasLeast, Value.int v_hasFeel])), (a_text, Sum.inl (k_a_text, 900, Sum.inl f_a_text))] H := hP
      have hD : va_D A [(o, Sum.inr (7, [Value.int v_length, Value.int v_faultKind, Value.int v_faultPlace, Value.ref o_into, Value.ref a_text, Value.int v1, Value.int 0, Value.int v1, Value.int v_value, Value.ref a_nameStart, Value.ref a_nameEnd, Value.int v_hasElse, Value.int v_hasLeast, Value.int v_hasFeel])), (a_text, Sum.inl (k_a_text, 900, Sum.inl f_a_text))] := hD
      have hP9 := hP.sub (ws' := [(o, Sum.inr (7, [Value.int v_length, Value.int v_faultKind, Value.int v_faultPlace, Value.ref o_into, Value.ref a_text, Value.int v1, Value.int 0, Value.int v1, Value.int v_value, Value.ref a_nameStart, Value.ref a_nameEnd, Value.int v_hasElse, Value.int v_hasLeast, Value.int v_hasFeel])), (a_text, Sum.inl (k_a_text, 900, Sum.inl f_a_text))]) [0, 1] rfl
      have hD9 := hD.sub (ws' := [(o, Sum.inr (7, [Value.int v_length, Value.int v_faultKind, Value.int v_faultPlace, Value.ref o_into, Value.ref a_text, Value.int v1, Value.int 0, Value.int v1, Value.int v_value, Value.ref a_nameStart, Value.ref a_nameEnd, Value.int v_hasElse, Value.int v_hasLeast, Value.int v_hasFeel])), (a_text, Sum.inl (k_a_text, 900, Sum.inl f_a_text))]) [0, 1] (by decide) rfl
      exact W.vret hx hb hr (fun t ht hW => ⟨⟨(), rfl, trivial, v1, 0, v1, hv1, (iv.m (by decide)), hv1, by rw [ht]; exact hP9, hD9⟩, hS.F ht⟩) hS.2.2 dX7_advance_64
  · have c29 := i32_nle c2 rfl rfl
    refine lv_aload_n hx hb dX7_advance_11 rfl (lv_at hl 0 rfl) ?_
    refine va_get (D := (dC, dI)) (ci := 7) (v := Value.ref a_text) (C := RX7) (T := TX7) (N := 14) hx hb hts iw_X7_advance_X7 hown hK hP 0 rfl rfl 4 (by decide) (hts _ kk_X7_advance_3) (fun _ h9 => h9) rfl dX7_advance_12 ?_
    refine lv_aload_n hx hb dX7_advance_15 rfl (lv_at hl 0 rfl) ?_
    refine va_get (D := (dC, dI)) (ci := 7) (v := Value.int v1) (C := RX7) (T := TX7) (N := 14) hx hb hts iw_X7_advance_X7 hown hK hP 0 rfl rfl 5 (by decide) (hts _ kk_X7_advance_0) (fun _ h9 => h9) rfl dX7_advance_16 ?_
    refine va_bald hx hb hK hP 1 0 rfl rfl (vq_in v1 900 (by omega)) dX7_advance_19 ?_
    refine lv_topi (fun x15 ex15 => ?_)
    have hPc := hP.sub (ws' := []) [] rfl
    have hDc := hD.sub (ws' := []) [] (by decide) rfl
    have hKc := hK.sub (tys' := []) [] rfl
    have hFc := va_free (wc := []) hD hS hA [] rfl
    refine va_calli (va_runS (As := [Value.int x15]) (rest := []) ⟨hx, hb, hml, hown, hts⟩ (ct_X7_kindOf l dC dI x15 H.size) (va_cwS 1 hts gX7_advance_X7_kindOf rfl rfl rfl ⟨cn_X7.1, cn_X7.2, ds_32⟩ ⟨Nat.le_of_ble_eq_true rfl, Nat.le_of_ble_eq_true rfl⟩) ⟨fun a U g mk q => by obtain ⟨q0, q1, qP, qK, qD⟩ := q; exact ⟨q0, q1, qP, va_K.moved (u := U) (U := U.calling g mk a) (Vm.Alike.refl U.vm) qK, qD⟩, fun U hU hW => ⟨rfl, by rw [hU], by rw [hU]; exact hPc, va_K.moved hW.alike hKc, hDc.weaken (fun _ _ _ _ => trivial)⟩⟩ rfl rfl hl.1 rfl (lv_room (Nat.le_of_ble_eq_true rfl)) dX7_advance_20 ⟨Nat.le_of_ble_eq_true rfl, Nat.le_of_ble_eq_true rfl⟩) hS (fun q _ h => hFc q h) hFc (fun r16 u t H1 locs ht hvm hw hB hz1 hk1 hS => ?_)
    have hw : r16 = u := hw.symm
    subst hw
    obtain ⟨hr16, hP1, hD1⟩ := hB
    rw [ht] at hP1
    obtain ⟨hP, hD⟩ := va_join (wr := [(o, Sum.inr (7, [Value.int v_length, Value.int v_faultKind, Value.int v_faultPlace, Value.ref o_into, Value.ref a_text, Value.int v1, Value.int v_token, Value.int v_start, Value.int v_value, Value.ref a_nameStart, Value.ref a_nameEnd, Value.int v_hasElse, Value.int v_hasLeast, Value.int v_hasFeel])), (a_text, Sum.inl (k_a_text, 900, Sum.inl f_a_text))]) (w1 := []) hP hD [] [0, 1] rfl rfl (by decide) (by decide) hk1 hFc hP1 hD1
    clear hPc hDc hKc hFc hP1 hD1 hk1 hz1
    generalize H1 = H at hP hS ⊢
    have hP : va_P (dC, dI) vwCl [(o, Sum.inr (7, [Value.int v_length, Value.int v_faultKind, Value.int v_faultPlace, Value.ref o_into, Value.ref a_text, Value.int v1, Value.int v_token, Value.int v_start, Value.int v_value, Value.ref a_nameStart, Value.ref a_nameEnd, Value.int v_hasElse, Value.int v_hasLeast, Value.int v_hasFeel])), (a_text, Sum.inl (k_a_text, 900, Sum.inl f_a_text))] H := hP
    have hD : va_D A [(o, Sum.inr (7, [Value.int v_length, Value.int v_faultKind, Value.int v_faultPlace, Value.ref o_into, Value.ref a_text, Value.int v1, Value.int v_token, Value.int v_start, Value.int v_value, Value.ref a_nameStart, Value.ref a_nameEnd, Value.int v_hasElse, Value.int v_hasLeast, Value.int v_hasFeel])), (a_text, Sum.inl (k_a_text, 900, Sum.inl f_a_text))] := hD
    refine W.widen (k := 0) (n := 0) (by decide) (by decide) ?_
    refine lv_iconst (v := 5) hx hb dX7_advance_23 (by decide) ?_
    have br16 := hr16.u
    refine lv_icmp_ne (tgt := 40) hx hb dX7_advance_24 (by decide) (fun c17 => ?_) (fun c17 => ?_)
    · have c179 := i32_ne c17 rfl (show (5 : Int32).toInt = 5 by decide)
      refine lv_aload_n hx hb dX7_advance_40 rfl (lv_at hl 0 rfl) ?_
      refine lv_aload_n hx hb dX7_advance_41 rfl (lv_at hl 0 rfl) ?_
      refine va_get (D := (dC, dI)) (ci := 7) (v := Value.int v1) (C := RX7) (T := TX7) (N := 14) hx hb hts iw_X7_advance_X7 hown hK hP 0 rfl rfl 5 (by decide) (hts _ kk_X7_advance_0) (fun _ h9 => h9) rfl dX7_advance_42 ?_
      refine va_put (D := (dC, dI)) (ci := 7) (v := Value.int v1) (ty := FieldType.int) (C := RX7) (T := TX7) (N := 14) hx hb hts iw_X7_advance_X7 tyX7 tyX7_ok nmX7 hown hK hP hD hS 0 rfl rfl 7 (by decide) (hts _ kk_X7_advance_2) (fun _ h9 => h9) rfl (by decide +kernel) rfl rfl (Nat.le_of_ble_eq_true rfl) dX7_advance_45 (fun H locs hP hD hS => ?_)
      have hP : va_P (dC, dI) vwCl [(o, Sum.inr (7, [Value.int v_length, Value.int v_faultKind, Value.int v_faultPlace, Value.ref o_into, Value.ref a_text, Value.int v1, Value.int v_token, Value.int v1, Value.int v_value, Value.ref a_nameStart, Value.ref a_nameEnd, Value.int v_hasElse, Value.int v_hasLeast, Value.int v_hasFeel])), (a_text, Sum.inl (k_a_text, 900, Sum.inl f_a_text))] H := hP
      have hD : va_D A [(o, Sum.inr (7, [Value.int v_length, Value.int v_faultKind, Value.int v_faultPlace, Value.ref o_into, Value.ref a_text, Value.int v1, Value.int v_token, Value.int v1, Value.int v_value, Value.ref a_nameStart, Value.ref a_nameEnd, Value.int v_hasElse, Value.int v_hasLeast, Value.int v_hasFeel])), (a_text, Sum.inl (k_a_text, 900, Sum.inl f_a_text))] := hD
      refine lv_aload_n hx hb dX7_advance_48 rfl (lv_at hl 0 rfl) ?_
      refine va_get (D := (dC, dI)) (ci := 7) (v := Value.int v1) (C := RX7) (T := TX7) (N := 14) hx hb hts iw_X7_advance_X7 hown hK hP 0 rfl rfl 5 (by decide) (hts _ kk_X7_advance_0) (fun _ h9 => h9) rfl dX7_advance_49 ?_
      refine lv_aload_n hx hb dX7_advance_52 rfl (lv_at hl 0 rfl) ?_
      refine va_get (D := (dC, dI)) (ci := 7) (v := Value.int v_length) (C := RX7) (T := TX7) (N := 14) hx hb hts iw_X7_advance_X7 hown hK hP 0 rfl rfl 0 (by decide) (hts _ kk_X7_advance_1) (fun _ h9 => h9) rfl dX7_advance_53 ?_
      refine lv_icmp_lt (tgt := 65) hx hb dX7_advance_56 (by decide) (fun c18 => ?_) (fun c18 => ?_)
      · have c189 := i32_lt c18 rfl rfl
        refine lv_aload_n hx hb dX7_advance_65 rfl (lv_at hl 0 rfl) ?_
        refine lv_aload_n hx hb dX7_advance_66 rfl (lv_at hl 0 rfl) ?_
        refine va_get (D := (dC, dI)) (ci := 7) (v := Value.ref a_text) (C := RX7) (T := TX7) (N := 14) hx hb hts iw_X7_advance_X7 hown hK hP 0 rfl rfl 4 (by decide) (hts _ kk_X7_advance_3) (fun _ h9 => h9) rfl dX7_advance_67 ?_
        refine lv_aload_n hx hb dX7_advance_70 rfl (lv_at hl 0 rfl) ?_
        refine va_get (D := (dC, dI)) (ci := 7) (v := Value.int v1) (C := RX7) (T := TX7) (N := 14) hx hb hts iw_X7_advance_X7 hown hK hP 0 rfl rfl 5 (by decide) (hts _ kk_X7_advance_0) (fun _ h9 => h9) rfl dX7_advance_71 ?_
        refine va_bald hx hb hK hP 1 0 rfl rfl (vq_in v1 900 (by omega)) dX7_advance_74 ?_
        refine lv_topi (fun x19 ex19 => ?_)
        have hPc := hP.sub (ws' := []) [] rfl
        have hDc := hD.sub (ws' := []) [] (by decide) rfl
        have hKc := hK.sub (tys' := []) [] rfl
        have hFc := va_free (wc := []) hD hS hA [] rfl
        refine va_calli (va_runS (As := [Value.int x19]) (rest := [Value.ref o]) ⟨hx, hb, hml, hown, hts⟩ (ct_X7_kindOf l dC dI x19 H.size) (va_cwS 1 hts gX7_advance_X7_kindOf rfl rfl rfl ⟨cn_X7.1, cn_X7.2, ds_32⟩ ⟨Nat.le_of_ble_eq_true rfl, Nat.le_of_ble_eq_true rfl⟩) ⟨fun a U g mk q => by obtain ⟨q0, q1, qP, qK, qD⟩ := q; exact ⟨q0, q1, qP, va_K.moved (u := U) (U := U.calling g mk a) (Vm.Alike.refl U.vm) qK, qD⟩, fun U hU hW => ⟨rfl, by rw [hU], by rw [hU]; exact hPc, va_K.moved hW.alike hKc, hDc.weaken (fun _ _ _ _ => trivial)⟩⟩ rfl rfl hl.1 rfl (lv_room (Nat.le_of_ble_eq_true rfl)) dX7_advance_75 ⟨Nat.le_of_ble_eq_true rfl, Nat.le_of_ble_eq_true rfl⟩) hS (fun q _ h => hFc q h) hFc (fun r20 u t H1 locs ht hvm hw hB hz1 hk1 hS => ?_)
        have hw : r20 = u := hw.symm
        subst hw
        obtain ⟨hr20, hP1, hD1⟩ := hB
        rw [ht] at hP1
        obtain ⟨hP, hD⟩ := va_join (wr := [(o, Sum.inr (7, [Value.int v_length, Value.int v_faultKind, Value.int v_faultPlace, Value.ref o_into, Value.ref a_text, Value.int v1, Value.int v_token, Value.int v1, Value.int v_value, Value.ref a_nameStart, Value.ref a_nameEnd, Value.int v_hasElse, Value.int v_hasLeast, Value.int v_hasFeel])), (a_text, Sum.inl (k_a_text, 900, Sum.inl f_a_text))]) (w1 := []) hP hD [] [0, 1] rfl rfl (by decide) (by decide) hk1 hFc hP1 hD1
        clear hPc hDc hKc hFc hP1 hD1 hk1 hz1
        generalize H1 = H at hP hS ⊢
        have hP : va_P (dC, dI) vwCl [(o, Sum.inr (7, [Value.int v_length, Value.int v_faultKind, Value.int v_faultPlace, Value.ref o_into, Value.ref a_text, Value.int v1, Value.int v_token, Value.int v1, Value.int v_value, Value.ref a_nameStart, Value.ref a_nameEnd, Value.int v_hasElse, Value.int v_hasLeast, Value.int v_hasFeel])), (a_text, Sum.inl (k_a_text, 900, Sum.inl f_a_text))] H := hP
        have hD : va_D A [(o, Sum.inr (7, [Value.int v_length, Value.int v_faultKind, Value.int v_faultPlace, Value.ref o_into, Value.ref a_text, Value.int v1, Value.int v_token, Value.int v1, Value.int v_value, Value.ref a_nameStart, Value.ref a_nameEnd, Value.int v_hasElse, Value.int v_hasLeast, Value.int v_hasFeel])), (a_text, Sum.inl (k_a_text, 900, Sum.inl f_a_text))] := hD
        refine W.widen (k := 0) (n := 0) (by decide) (by decide) ?_
        refine va_put (D := (dC, dI)) (ci := 7) (v := Value.int r20) (ty := FieldType.int) (C := RX7) (T := TX7) (N := 14) hx hb hts iw_X7_advance_X7 tyX7 tyX7_ok nmX7 hown hK hP hD hS 0 rfl rfl 6 (by decide) (hts _ kk_X7_advance_4) (fun _ h9 => h9) rfl (by decide +kernel) rfl rfl (Nat.le_of_ble_eq_true rfl) dX7_advance_78 (fun H locs hP hD hS => ?_)
        have hP : va_P (dC, dI) vwCl [(o, Sum.inr (7, [Value.int v_length, Value.int v_faultKind, Value.int v_faultPlace, Value.ref o_into, Value.ref a_text, Value.int v1, Value.int r20, Value.int v1, Value.int v_value, Value.ref a_nameStart, Value.ref a_nameEnd, Value.int v_hasElse, Value.int v_hasLeast, Value.int v_hasFeel])), (a_text, Sum.inl (k_a_text, 900, Sum.inl f_a_text))] H := hP
        have hD : va_D A [(o, Sum.inr (7, [Value.int v_length, Value.int v_faultKind, Value.int v_faultPlace, Value.ref o_into, Value.ref a_text, Value.int v1, Value.int r20, Value.int v1, Value.int v_value, Value.ref a_nameStart, Value.ref a_nameEnd, Value.int v_hasElse, Value.int v_hasLeast, Value.int v_hasFeel])), (a_text, Sum.inl (k_a_text, 900, Sum.inl f_a_text))] := hD
        refine lv_aload_n hx hb dX7_advance_81 rfl (lv_at hl 0 rfl) ?_
        refine lv_dup hx hb dX7_advance_82 rfl ?_
        refine va_get (D := (dC, dI)) (ci := 7) (v := Value.int v1) (C := RX7) (T := TX7) (N := 14) hx hb hts iw_X7_advance_X7 hown hK hP 0 rfl rfl 5 (by decide) (hts _ kk_X7_advance_0) (fun _ h9 => h9) rfl dX7_advance_83 ?_
        refine lv_iconst (v := 1) hx hb dX7_advance_86 (by decide) ?_
        refine lv_iadd hx hb dX7_advance_87 ?_
        refine lv_topi (fun x21 ex21 => ?_)
        have tx21 := i32_add ex21 rfl (show (1 : Int32).toInt = 1 by decide) (by omega) (by omega)
        refine va_put (D := (dC, dI)) (ci := 7) (v := Value.int x21) (ty := FieldType.int) (C := RX7) (T := TX7) (N := 14) hx hb hts iw_X7_advance_X7 tyX7 tyX7_ok nmX7 hown hK hP hD hS 0 rfl rfl 5 (by decide) (hts _ kk_X7_advance_0) (fun _ h9 => h9) rfl (by decide +kernel) rfl rfl (Nat.le_of_ble_eq_true rfl) dX7_advance_88 (fun H locs hP hD hS => ?_)
        have hP : va_P (dC, dI) vwCl [(o, Sum.inr (7, [Value.int v_length, Value.int v_faultKind, Value.int v_faultPlace, Value.ref o_into, Value.ref a_text, Value.int x21, Value.int r20, Value.int v1, Value.int v_value, Value.ref a_nameStart, Value.ref a_nameEnd, Value.int v_hasElse, Value.int v_hasLeast, Value.int v_hasFeel])), (a_text, Sum.inl (k_a_text, 900, Sum.inl f_a_text))] H := hP
        have hD : va_D A [(o, Sum.inr (7, [Value.int v_length, Value.int v_faultKind, Value.int v_faultPlace, Value.ref o_into, Value.ref a_text, Value.int x21, Value.int r20, Value.int v1, Value.int v_value, Value.ref a_nameStart, Value.ref a_nameEnd, Value.int v_hasElse, Value.int v_hasLeast, Value.int v_hasFeel])), (a_text, Sum.inl (k_a_text, 900, Sum.inl f_a_text))] := hD
        refine lv_aload_n hx hb dX7_advance_91 rfl (lv_at hl 0 rfl) ?_
        refine va_get (D := (dC, dI)) (ci := 7) (v := Value.int r20) (C := RX7) (T := TX7) (N := 14) hx hb hts iw_X7_advance_X7 hown hK hP 0 rfl rfl 6 (by decide) (hts _ kk_X7_advance_4) (fun _ h9 => h9) rfl dX7_advance_92 ?_
        refine lv_iconst (v := 1) hx hb dX7_advance_95 (by decide) ?_
        have br20 := hr20.u
        refine lv_icmp_eq (tgt := 107) hx hb dX7_advance_96 (by decide) (fun c22 => ?_) (fun c22 => ?_)
        · have c229 := i32_eq c22 rfl (show (1 : Int32).toInt = 1 by decide)
          refine lv_aload_n hx hb dX7_advance_107 rfl (lv_at hl 0 rfl) ?_
          have hPc := hP.sub (ws' := [(o, Sum.inr (7, [Value.int v_length, Value.int v_faultKind, Value.int v_faultPlace, Value.ref o_into, Value.ref a_text, Value.int x21, Value.int r20, Value.int v1, Value.int v_value, Value.ref a_nameStart, Value.ref a_nameEnd, Value.int v_hasElse, Value.int v_hasLeast, Value.int v_hasFeel])), (a_text, Sum.inl (k_a_text, 900, Sum.inl f_a_text))]) [0, 1] rfl
          have hDc := hD.sub (ws' := [(o, Sum.inr (7, [Value.int v_length, Value.int v_faultKind, Value.int v_faultPlace, Value.ref o_into, Value.ref a_text, Value.int x21, Value.int r20, Value.int v1, Value.int v_value, Value.ref a_nameStart, Value.ref a_nameEnd, Value.int v_hasElse, Value.int v_hasLeast, Value.int v_hasFeel])), (a_text, Sum.inl (k_a_text, 900, Sum.inl f_a_text))]) [0, 1] (by decide) rfl
          have hKc := hK.sub (tys' := [(k_a_text, FieldType.byte)]) [0] rfl
          have hFc := va_free (wc := [(o, Sum.inr (7, [Value.int v_length, Value.int v_faultKind, Value.int v_faultPlace, Value.ref o_into, Value.ref a_text, Value.int x21, Value.int r20, Value.int v1, Value.int v_value, Value.ref a_nameStart, Value.ref a_nameEnd, Value.int v_hasElse, Value.int v_hasLeast, Value.int v_hasFeel])), (a_text, Sum.inl (k_a_text, 900, Sum.inl f_a_text))]) hD hS hA [0, 1] rfl
          refine va_callv (va_runV (As := []) (rest := []) ⟨hx, hb, hml, hown, hts⟩ (ct_X7_takeRun l dC dI o v_length v_faultKind v_faultPlace o_into a_text x21 r20 v1 v_value a_nameStart a_nameEnd v_hasElse v_hasLeast v_hasFeel k_a_text f_a_text (iv.m (by omega)) (iv.m (by omega)) (iv.m (by omega)) (iv.m (by omega)) H.size) (cwV 0 hts gX7_advance_X7_takeRun rfl rfl rfl ⟨rfl, cn_X7.1, cn_X7.2, ds_7⟩ ⟨Nat.le_of_ble_eq_true rfl, Nat.le_of_ble_eq_true rfl⟩) ⟨fun a U g mk q => by obtain ⟨q0, q1, qP, qK, qD⟩ := q; exact ⟨q0, q1, qP, va_K.moved (u := U) (U := U.calling g mk a) (Vm.Alike.refl U.vm) qK, qD⟩, va_recv hKc hPc (ci := 7) (q0 := 0) rfl rfl, fun U hU hW => ⟨rfl, by rw [hU], by rw [hU]; exact hPc, va_K.moved hW.alike hKc, hDc.weaken (fun _ _ _ _ => trivial)⟩⟩ rfl rfl hl.1 rfl (lv_room (Nat.le_of_ble_eq_true rfl)) dX7_advance_108 ⟨Nat.le_of_ble_eq_true rfl, Nat.le_of_ble_eq_true rfl⟩) hS (fun q _ h => hFc q h) hFc (fun u t H1 locs ht hvm hw hB hz1 hk1 hS => ?_)
          obtain ⟨v24, v25, hv24, hv25, hP1, hD1⟩ := hB
          rw [ht] at hP1
          obtain ⟨hP, hD⟩ := va_join (wr := []) (w1 := [(o, Sum.inr (7, [Value.int v_length, Value.int v_faultKind, Value.int v_faultPlace, Value.ref o_into, Value.ref a_text, Value.int v24, Value.int v25, Value.int v1, Value.int v_value, Value.ref a_nameStart, Value.ref a_nameEnd, Value.int v_hasElse, Value.int v_hasLeast, Value.int v_hasFeel])), (a_text, Sum.inl (k_a_text, 900, Sum.inl f_a_text))]) hP hD [0, 1] [] rfl rfl (by decide) (by decide) hk1 hFc hP1 hD1
          clear hPc hDc hKc hFc hP1 hD1 hk1 hz1
          generalize H1 = H at hP hS ⊢
          have hP : va_P (dC, dI) vwCl [(o, Sum.inr (7, [Value.int v_length, Value.int v_faultKind, Value.int v_faultPlace, Value.ref o_into, Value.ref a_text, Value.int v24, Value.int v25, Value.int v1, Value.int v_value, Value.ref a_nameStart, Value.ref a_nameEnd, Value.int v_hasElse, Value.int v_hasLeast, Value.int v_hasFeel])), (a_text, Sum.inl (k_a_text, 900, Sum.inl f_a_text))] H := hP
          have hD : va_D A [(o, Sum.inr (7, [Value.int v_length, Value.int v_faultKind, Value.int v_faultPlace, Value.ref o_into, Value.ref a_text, Value.int v24, Value.int v25, Value.int v1, Value.int v_value, Value.ref a_nameStart, Value.ref a_nameEnd, Value.int v_hasElse, Value.int v_hasLeast, Value.int v_hasFeel])), (a_text, Sum.inl (k_a_text, 900, Sum.inl f_a_text))] := hD
          refine W.widen (k := 0) (n := 0) (by decide) (by decide) ?_
          have hP9 := hP.sub (ws' := [(o, Sum.inr (7, [Value.int v_length, Value.int v_faultKind, Value.int v_faultPlace, Value.ref o_into, Value.ref a_text, Value.int v24, Value.int v25, Value.int v1, Value.int v_value, Value.ref a_nameStart, Value.ref a_nameEnd, Value.int v_hasElse, Value.int v_hasLeast, Value.int v_hasFeel])), (a_text, Sum.inl (k_a_text, 900, Sum.inl f_a_text))]) [0, 1] rfl
          have hD9 := hD.sub (ws' := [(o, Sum.inr (7, [Value.int v_length, Value.int v_faultKind, Value.int v_faultPlace, Value.ref o_into, Value.ref a_text, Value.int v24, Value.int v25, Value.int v1, Value.int v_value, Value.ref a_nameStart, Value.ref a_nameEnd, Value.int v_hasElse, Value.int v_hasLeast, Value.int v_hasFeel])), (a_text, Sum.inl (k_a_text, 900, Sum.inl f_a_text))]) [0, 1] (by decide) rfl
          exact W.vret hx hb hr (fun t ht hW => ⟨⟨(), rfl, trivial, v24, v25, v1, hv24, hv25, (iv.m (by omega)), by rw [ht]; exact hP9, hD9⟩, hS.F ht⟩) hS.2.2 dX7_advance_111
        · have c229 := i32_ne c22 rfl (show (1 : Int32).toInt = 1 by decide)
          refine lv_aload_n hx hb dX7_advance_99 rfl (lv_at hl 0 rfl) ?_
          refine va_get (D := (dC, dI)) (ci := 7) (v := Value.int r20) (C := RX7) (T := TX7) (N := 14) hx hb hts iw_X7_advance_X7 hown hK hP 0 rfl rfl 6 (by decide) (hts _ kk_X7_advance_4) (fun _ h9 => h9) rfl dX7_advance_100 ?_
          refine lv_iconst (v := 2) hx hb dX7_advance_103 (by decide) ?_
          refine lv_icmp_ne (tgt := 111) hx hb dX7_advance_104 (by decide) (fun c26 => ?_) (fun c26 => ?_)
          · have c269 := i32_ne c26 rfl (show (2 : Int32).toInt = 2 by decide)
            have hP9 := hP.sub (ws' := [(o, Sum.inr (7, [Value.int v_length, Value.int v_faultKind, Value.int v_faultPlace, Value.ref o_into, Value.ref a_text, Value.int x21, Value.int r20, Value.int v1, Value.int v_value, Value.ref a_nameStart, Value.ref a_nameEnd, Value.int v_hasElse, Value.int v_hasLeast, Value.int v_hasFeel])), (a_text, Sum.inl (k_a_text, 900, Sum.inl f_a_text))]) [0, 1] rfl
            have hD9 := hD.sub (ws' := [(o, Sum.inr (7, [Value.int v_length, Value.int v_faultKind, Value.int v_faultPlace, Value.ref o_into, Value.ref a_text, Value.int x21, Value.int r20, Value.int v1, Value.int v_value, Value.ref a_nameStart, Value.ref a_nameEnd, Value.int v_hasElse, Value.int v_hasLeast, Value.int v_hasFeel])), (a_text, Sum.inl (k_a_text, 900, Sum.inl f_a_text))]) [0, 1] (by decide) rfl
            exact W.vret hx hb hr (fun t ht hW => ⟨⟨(), rfl, trivial, x21, r20, v1, (iv.m (by omega)), (iv.m (by omega)), (iv.m (by omega)), by rw [ht]; exact hP9, hD9⟩, hS.F ht⟩) hS.2.2 dX7_advance_111
          · have c269 := i32_eq c26 rfl (show (2 : Int32).toInt = 2 by decide)
            refine lv_aload_n hx hb dX7_advance_107 rfl (lv_at hl 0 rfl) ?_
            have hPc := hP.sub (ws' := [(o, Sum.inr (7, [Value.int v_length, Value.int v_faultKind, Value.int v_faultPlace, Value.ref o_into, Value.ref a_text, Value.int x21, Value.int r20, Value.int v1, Value.int v_value, Value.ref a_nameStart, Value.ref a_nameEnd, Value.int v_hasElse, Value.int v_hasLeast, Value.int v_hasFeel])), (a_text, Sum.inl (k_a_text, 900, Sum.inl f_a_text))]) [0, 1] rfl
            have hDc := hD.sub (ws' := [(o, Sum.inr (7, [Value.int v_length, Value.int v_faultKind, Value.int v_faultPlace, Value.ref o_into, Value.ref a_text, Value.int x21, Value.int r20, Value.int v1, Value.int v_value, Value.ref a_nameStart, Value.ref a_nameEnd, Value.int v_hasElse, Value.int v_hasLeast, Value.int v_hasFeel])), (a_text, Sum.inl (k_a_text, 900, Sum.inl f_a_text))]) [0, 1] (by decide) rfl
            have hKc := hK.sub (tys' := [(k_a_text, FieldType.byte)]) [0] rfl
            have hFc := va_free (wc := [(o, Sum.inr (7, [Value.int v_length, Value.int v_faultKind, Value.int v_faultPlace, Value.ref o_into, Value.ref a_text, Value.int x21, Value.int r20, Value.int v1, Value.int v_value, Value.ref a_nameStart, Value.ref a_nameEnd, Value.int v_hasElse, Value.int v_hasLeast, Value.int v_hasFeel])), (a_text, Sum.inl (k_a_text, 900, Sum.inl f_a_text))]) hD hS hA [0, 1] rfl
            refine va_callv (va_runV (As := []) (rest := []) ⟨hx, hb, hml, hown, hts⟩ (ct_X7_takeRun l dC dI o v_length v_faultKind v_faultPlace o_into a_text x21 r20 v1 v_value a_nameStart a_nameEnd v_hasElse v_hasLeast v_hasFeel k_a_text f_a_text (iv.m (by omega)) (iv.m (by omega)) (iv.m (by omega)) (iv.m (by omega)) H.size) (cwV 0 hts gX7_advance_X7_takeRun rfl rfl rfl ⟨rfl, cn_X7.1, cn_X7.2, ds_7⟩ ⟨Nat.le_of_ble_eq_true rfl, Nat.le_of_ble_eq_true rfl⟩) ⟨fun a U g mk q => by obtain ⟨q0, q1, qP, qK, qD⟩ := q; exact ⟨q0, q1, qP, va_K.moved (u := U) (U := U.calling g mk a) (Vm.Alike.refl U.vm) qK, qD⟩, va_recv hKc hPc (ci := 7) (q0 := 0) rfl rfl, fun U hU hW => ⟨rfl, by rw [hU], by rw [hU]; exact hPc, va_K.moved hW.alike hKc, hDc.weaken (fun _ _ _ _ => trivial)⟩⟩ rfl rfl hl.1 rfl (lv_room (Nat.le_of_ble_eq_true rfl)) dX7_advance_108 ⟨Nat.le_of_ble_eq_true rfl, Nat.le_of_ble_eq_true rfl⟩) hS (fun q _ h => hFc q h) hFc (fun u t H1 locs ht hvm hw hB hz1 hk1 hS => ?_)
            obtain ⟨v28, v29, hv28, hv29, hP1, hD1⟩ := hB
            rw [ht] at hP1
            obtain ⟨hP, hD⟩ := va_join (wr := []) (w1 := [(o, Sum.inr (7, [Value.int v_length, Value.int v_faultKind, Value.int v_faultPlace, Value.ref o_into, Value.ref a_text, Value.int v28, Value.int v29, Value.int v1, Value.int v_value, Value.ref a_nameStart, Value.ref a_nameEnd, Value.int v_hasElse, Value.int v_hasLeast, Value.int v_hasFeel])), (a_text, Sum.inl (k_a_text, 900, Sum.inl f_a_text))]) hP hD [0, 1] [] rfl rfl (by decide) (by decide) hk1 hFc hP1 hD1
            clear hPc hDc hKc hFc hP1 hD1 hk1 hz1
            generalize H1 = H at hP hS ⊢
            have hP : va_P (dC, dI) vwCl [(o, Sum.inr (7, [Value.int v_length, Value.int v_faultKind, Value.int v_faultPlace, Value.ref o_into, Value.ref a_text, Value.int v28, Value.int v29, Value.int v1, Value.int v_value, Value.ref a_nameStart, Value.ref a_nameEnd, Value.int v_hasElse, Value.int v_hasLeast, Value.int v_hasFeel])), (a_text, Sum.inl (k_a_text, 900, Sum.inl f_a_text))] H := hP
            have hD : va_D A [(o, Sum.inr (7, [Value.int v_length, Value.int v_faultKind, Value.int v_faultPlace, Value.ref o_into, Value.ref a_text, Value.int v28, Value.int v29, Value.int v1, Value.int v_value, Value.ref a_nameStart, Value.ref a_nameEnd, Value.int v_hasElse, Value.int v_hasLeast, Value.int v_hasFeel])), (a_text, Sum.inl (k_a_text, 900, Sum.inl f_a_text))] := hD
            refine W.widen (k := 0) (n := 0) (by decide) (by decide) ?_
            have hP9 := hP.sub (ws' := [(o, Sum.inr (7, [Value.int v_length, Value.int v_faultKind, Value.int v_faultPlace, Value.ref o_into, Value.ref a_text, Value.int v28, Value.int v29, Value.int v1, Value.int v_value, Value.ref a_nameStart, Value.ref a_nameEnd, Value.int v_hasElse, Value.int v_hasLeast, Value.int v_hasFeel])), (a_text, Sum.inl (k_a_text, 900, Sum.inl f_a_text))]) [0, 1] rfl
            have hD9 := hD.sub (ws' := [(o, Sum.inr (7, [Value.int v_length, Value.int v_faultKind, Value.int v_faultPlace, Value.ref o_into, Value.ref a_text, Value.int v28, Value.int v29, Value.int v1, Value.int v_value, Value.ref a_nameStart, Value.ref a_nameEnd, Value.int v_hasElse, Value.int v_hasLeast, Value.int v_hasFeel])), (a_text, Sum.inl (k_a_text, 900, Sum.inl f_a_text))]) [0, 1] (by decide) rfl
            exact W.vret hx hb hr (fun t ht hW => ⟨⟨(), rfl, trivial, v28, v29, v1, hv28, hv29, (iv.m (by omega)), by rw [ht]; exact hP9, hD9⟩, hS.F ht⟩) hS.2.2 dX7_advance_111
      · have c189 := i32_nlt c18 rfl rfl
        refine lv_aload_n hx hb dX7_advance_59 rfl (lv_at hl 0 rfl) ?_
        refine lv_iconst (v := 0) hx hb dX7_advance_60 (by decide) ?_
        refine va_put (D := (dC, dI)) (ci := 7) (v := Value.int 0) (ty := FieldType.int) (C := RX7) (T := TX7) (N := 14) hx hb hts iw_X7_advance_X7 tyX7 tyX7_ok nmX7 hown hK hP hD hS 0 rfl rfl 6 (by decide) (hts _ kk_X7_advance_4) (fun _ h9 => h9) rfl (by decide +kernel) rfl rfl (Nat.le_of_ble_eq_true rfl) dX7_advance_61 (fun H locs hP hD hS => ?_)
        have hP : va_P (dC, dI) vwCl [(o, Sum.inr (7, [Value.int v_length, Value.int v_faultKind, Value.int v_faultPlace, Value.ref o_into, Value.ref a_text, Value.int v1, Value.int 0, Value.int v1, Value.int v_value, Value.ref a_nameStart, Value.ref a_nameEnd, Value.int v_hasElse, Value.int v_hasLeast, Value.int v_hasFeel])), (a_text, Sum.inl (k_a_text, 900, Sum.inl f_a_text))] H := hP
        have hD : va_D A [(o, Sum.inr (7, [Value.int v_length, Value.int v_faultKind, Value.int v_faultPlace, Value.ref o_into, Value.ref a_text, Value.int v1, Value.int 0, Value.int v1, Value.int v_value, Value.ref a_nameStart, Value.ref a_nameEnd, Value.int v_hasElse, Value.int v_hasLeast, Value.int v_hasFeel])), (a_text, Sum.inl (k_a_text, 900, Sum.inl f_a_text))] := hD
        have hP9 := hP.sub (ws' := [(o, Sum.inr (7, [Value.int v_length, Value.int v_faultKind, Value.int v_faultPlace, Value.ref o_into, Value.ref a_text, Value.int v1, Value.int 0, Value.int v1, Value.int v_value, Value.ref a_nameStart, Value.ref a_nameEnd, Value.int v_hasElse, Value.int v_hasLeast, Value.int v_hasFeel])), (a_text, Sum.inl (k_a_text, 900, Sum.inl f_a_text))]) [0, 1] rfl
        have hD9 := hD.sub (ws' := [(o, Sum.inr (7, [Value.int v_length, Value.int v_faultKind, Value.int v_faultPlace, Value.ref o_into, Value.ref a_text, Value.int v1, Value.int 0, Value.int v1, Value.int v_value, Value.ref a_nameStart, Value.ref a_nameEnd, Value.int v_hasElse, Value.int v_hasLeast, Value.int v_hasFeel])), (a_text, Sum.inl (k_a_text, 900, Sum.inl f_a_text))]) [0, 1] (by decide) rfl
        exact W.vret hx hb hr (fun t ht hW => ⟨⟨(), rfl, trivial, v1, 0, v1, (iv.m (by omega)), (iv.m (by decide)), (iv.m (by omega)), by rw [ht]; exact hP9, hD9⟩, hS.F ht⟩) hS.2.2 dX7_advance_64
    · have c179 := i32_eq c17 rfl (show (5 : Int32).toInt = 5 by decide)
      refine lv_aload_n hx hb dX7_advance_27 rfl (lv_at hl 0 rfl) ?_
      refine lv_dup hx hb dX7_advance_28 rfl ?_
      refine va_get (D := (dC, dI)) (ci := 7) (v := Value.int v1) (C := RX7) (T := TX7) (N := 14) hx hb hts iw_X7_advance_X7 hown hK hP 0 rfl rfl 5 (by decide) (hts _ kk_X7_advance_0) (fun _ h9 => h9) rfl dX7_advance_29 ?_
      refine lv_iconst (v := 1) hx hb dX7_advance_32 (by decide) ?_
      refine lv_iadd hx hb dX7_advance_33 ?_
      refine lv_topi (fun x30 ex30 => ?_)
      have tx30 := i32_add ex30 rfl (show (1 : Int32).toInt = 1 by decide) (by omega) (by omega)
      refine va_put (D := (dC, dI)) (ci := 7) (v := Value.int x30) (ty := FieldType.int) (C := RX7) (T := TX7) (N := 14) hx hb hts iw_X7_advance_X7 tyX7 tyX7_ok nmX7 hown hK hP hD hS 0 rfl rfl 5 (by decide) (hts _ kk_X7_advance_0) (fun _ h9 => h9) rfl (by decide +kernel) rfl rfl (Nat.le_of_ble_eq_true rfl) dX7_advance_34 (fun H locs hP hD hS => ?_)
      have hP : va_P (dC, dI) vwCl [(o, Sum.inr (7, [Value.int v_length, Value.int v_faultKind, Value.int v_faultPlace, Value.ref o_into, Value.ref a_text, Value.int x30, Value.int v_token, Value.int v_start, Value.int v_value, Value.ref a_nameStart, Value.ref a_nameEnd, Value.int v_hasElse, Value.int v_hasLeast, Value.int v_hasFeel])), (a_text, Sum.inl (k_a_text, 900, Sum.inl f_a_text))] H := hP
      have hD : va_D A [(o, Sum.inr (7, [Value.int v_length, Value.int v_faultKind, Value.int v_faultPlace, Value.ref o_into, Value.ref a_text, Value.int x30, Value.int v_token, Value.int v_start, Value.int v_value, Value.ref a_nameStart, Value.ref a_nameEnd, Value.int v_hasElse, Value.int v_hasLeast, Value.int v_hasFeel])), (a_text, Sum.inl (k_a_text, 900, Sum.inl f_a_text))] := hD
      refine lv_goto (tgt := 0) hx hb dX7_advance_37 (by decide) ?_
      exact ih0 _ _ _ _ (by omega) ⟨x30, rfl, (iv.m (by omega)), hP, hD, hS, lv_sub hl [0] rfl⟩

set_option maxHeartbeats 4000000 in
set_option maxRecDepth 100000 in
theorem ct_X7_isWord (l : Launch) (dC : Nat → ClassId) (dI : Nat → Nat → Nat) (o : Nat) (p0 : Nat) (v_length : Int32) (v_faultKind : Int32) (v_faultPlace : Int32) (o_into : Nat) (a_text : Nat) (v_next : Int32) (v_token : Int32) (v_start : Int32) (v_value : Int32) (a_nameStart : Nat) (a_nameEnd : Nat) (v_hasElse : Int32) (v_hasLeast : Int32) (v_hasFeel : Int32) (k_a_text : ClassId) (f_a_text : Nat → Int32) (sv : Nat) (sn : Nat) (sf : Nat → Int32) (hv_next : iv v_next 0 900) (hv_token : iv v_token 0 5) (hv_start : iv v_start 0 900) (sz : Nat) : Met l yX7_isWord wsX7_isWord ({ frames := 4, cells := 0, slots := 0, locals := 85 }) (va_Pc [Value.ref o, Value.ref p0] (fun U => U.heap.size = sz ∧ va_P (dC, dI) vwCl [(o, Sum.inr (7, [Value.int v_length, Value.int v_faultKind, Value.int v_faultPlace, Value.ref o_into, Value.ref a_text, Value.int v_next, Value.int v_token, Value.int v_start, Value.int v_value, Value.ref a_nameStart, Value.ref a_nameEnd, Value.int v_hasElse, Value.int v_hasLeast, Value.int v_hasFeel])), (a_text, Sum.inl (k_a_text, 900, Sum.inl f_a_text))] U.heap ∧ va_K (dC, dI) vwCl [(k_a_text, FieldType.byte)] U ∧ va_D (fun _ => True) [(o, Sum.inr (7, [Value.int v_length, Value.int v_faultKind, Value.int v_faultPlace, Value.ref o_into, Value.ref a_text, Value.int v_next, Value.int v_token, Value.int v_start, Value.int v_value, Value.ref a_nameStart, Value.ref a_nameEnd, Value.int v_hasElse, Value.int v_hasLeast, Value.int v_hasFeel])), (a_text, Sum.inl (k_a_text, 900, Sum.inl f_a_text))] ∧ st_ok p0 sv sn sf (va_A [(o, Sum.inr (7, [Value.int v_length, Value.int v_faultKind, Value.int v_faultPlace, Value.ref o_into, Value.ref a_text, Value.int v_next, Value.int v_token, Value.int v_start, Value.int v_value, Value.ref a_nameStart, Value.ref a_nameEnd, Value.int v_hasElse, Value.int v_hasLeast, Value.int v_hasFeel])), (a_text, Sum.inl (k_a_text, 900, Sum.inl f_a_text))] sz) U U.heap)) (va_Qi (fun (r u : Int32) => u = r) (fun (r : Int32) t => ((r = 0) ∨ (r = 1)) ∧ va_P (dC, dI) vwCl [(o, Sum.inr (7, [Value.int v_length, Value.int v_faultKind, Value.int v_faultPlace, Value.ref o_into, Value.ref a_text, Value.int v_next, Value.int v_token, Value.int v_start, Value.int v_value, Value.ref a_nameStart, Value.ref a_nameEnd, Value.int v_hasElse, Value.int v_hasLeast, Value.int v_hasFeel])), (a_text, Sum.inl (k_a_text, 900, Sum.inl f_a_text))] t.heap ∧ va_D (va_A [(o, Sum.inr (7, [Value.int v_length, Value.int v_faultKind, Value.int v_faultPlace, Value.ref o_into, Value.ref a_text, Value.int v_next, Value.int v_token, Value.int v_start, Value.int v_value, Value.ref a_nameStart, Value.ref a_nameEnd, Value.int v_hasElse, Value.int v_hasLeast, Value.int v_hasFeel])), (a_text, Sum.inl (k_a_text, 900, Sum.inl f_a_text))] sz) [(o, Sum.inr (7, [Value.int v_length, Value.int v_faultKind, Value.int v_faultPlace, Value.ref o_into, Value.ref a_text, Value.int v_next, Value.int v_token, Value.int v_start, Value.int v_value, Value.ref a_nameStart, Value.ref a_nameEnd, Value.int v_hasElse, Value.int v_hasLeast, Value.int v_hasFeel])), (a_text, Sum.inl (k_a_text, 900, Sum.inl f_a_text))]) (va_A [(o, Sum.inr (7, [Value.int v_length, Value.int v_faultKind, Value.int v_faultPlace, Value.ref o_into, Value.ref a_text, Value.int v_next, Value.int v_token, Value.int v_start, Value.int v_value, Value.ref a_nameStart, Value.ref a_nameEnd, Value.int v_hasElse, Value.int v_hasLeast, Value.int v_hasFeel])), (a_text, Sum.inl (k_a_text, 900, Sum.inl f_a_text))] sz)) 0 0 (va_A [(o, Sum.inr (7, [Value.int v_length, Value.int v_faultKind, Value.int v_faultPlace, Value.ref o_into, Value.ref a_text, Value.int v_next, Value.int v_token, Value.int v_start, Value.int v_value, Value.ref a_nameStart, Value.ref a_nameEnd, Value.int v_hasElse, Value.int v_hasLeast, Value.int v_hasFeel])), (a_text, Sum.inl (k_a_text, 900, Sum.inl f_a_text))] sz) := by
  refine Met.ofW (cc := cX7_isWord) (maxL := 3) (ret := (some .boolean)) pn_X7 rfl ?_
  intro p e s m args below meth c s₁ B hml hv
  obtain ⟨rfl, hsz, hP, hK, hD0, hst⟩ := hv
  have hx := B.exec
  have hb := B.bytes
  have hr := B.returns
  have hts := atoms_spec (ws := wsX7_isWord) B.pre
  have hown : s.vm.findClass RX7 = some m.cls := findClass_of_methodNamed B.named
  have hlocks := B.notSynchronized
  subst hsz
  have hD := hD0.self (sz := s.heap.size)
  generalize hAe : va_A [(o, Sum.inr (7, [Value.int v_length, Value.int v_faultKind, Value.int v_faultPlace, Value.ref o_into, Value.ref a_text, Value.int v_next, Value.int v_token, Value.int v_start, Value.int v_value, Value.ref a_nameStart, Value.ref a_nameEnd, Value.int v_hasElse, Value.int v_hasLeast, Value.int v_hasFeel])), (a_text, Sum.inl (k_a_text, 900, Sum.inl f_a_text))] s.heap.size = A at hD hst ⊢
  have hA : ∀ q : Nat, s.heap.size ≤ q → A q := fun q h => by rw [← hAe]; exact Or.inr h
  have hS : va_S A s.heap s.heap [] := va_S.rf
  have hP : va_P (dC, dI) vwCl [(o, Sum.inr (7, [Value.int v_length, Value.int v_faultKind, Value.int v_faultPlace, Value.ref o_into, Value.ref a_text, Value.int v_next, Value.int v_token, Value.int v_start, Value.int v_value, Value.ref a_nameStart, Value.ref a_nameEnd, Value.int v_hasElse, Value.int v_hasLeast, Value.int v_hasFeel])), (a_text, Sum.inl (k_a_text, 900, Sum.inl f_a_text))] s.heap := hP
  have hl := lv_entry ([Value.ref o, Value.ref p0]) (n := 3) (Nat.le_of_ble_eq_true rfl)
  rw [lg_entry_eq]
  generalize (lg_sl ([Value.ref o, Value.ref p0]) ++ List.replicate (3 - (lg_sl ([Value.ref o, Value.ref p0])).length) Slot.unset).toArray = ls at hl ⊢
  have hl : lv_has ls 3 [(0, Value.ref o), (1, Value.ref p0)] := hl
  refine lv_aload_n hx hb dX7_isWord_0 rfl (lv_at hl 0 rfl) ?_
  refine va_get (D := (dC, dI)) (ci := 7) (v := Value.int v_token) (C := RX7) (T := TX7) (N := 14) hx hb hts iw_X7_isWord_X7 hown hK hP 0 rfl rfl 6 (by decide) (hts _ kk_X7_isWord_0) (fun _ h9 => h9) rfl dX7_isWord_1 ?_
  refine lv_iconst (v := 1) hx hb dX7_isWord_4 (by decide) ?_
  have bv_token := hv_token.u
  refine lv_icmp_ne (tgt := 24) hx hb dX7_isWord_5 (by decide) (fun c1 => ?_) (fun c1 => ?_)
  · have c19 := i32_ne c1 rfl (show (1 : Int32).toInt = 1 by decide)
    refine lv_iconst (v := 0) hx hb dX7_isWord_24 (by decide) ?_
    have hP9 := hP.sub (ws' := [(o, Sum.inr (7, [Value.int v_length, Value.int v_faultKind, Value.int v_faultPlace, Value.ref o_into, Value.ref a_text, Value.int v_next, Value.int v_token, Value.int v_start, Value.int v_value, Value.ref a_nameStart, Value.ref a_nameEnd, Value.int v_hasElse, Value.int v_hasLeast, Value.int v_hasFeel])), (a_text, Sum.inl (k_a_text, 900, Sum.inl f_a_text))]) [0, 1] rfl
    have hD9 := hD.sub (ws' := [(o, Sum.inr (7, [Value.int v_length, Value.int v_faultKind, Value.int v_faultPlace, Value.ref o_into, Value.ref a_text, Value.int v_next, Value.int v_token, Value.int v_start, Value.int v_value, Value.ref a_nameStart, Value.ref a_nameEnd, Value.int v_hasElse, Value.int v_hasLeast, Value.int v_hasFeel])), (a_text, Sum.inl (k_a_text, 900, Sum.inl f_a_text))]) [0, 1] (by decide) rfl
    exact W.zret (v := 0) hx hb hr rfl (fun t ht hW => ⟨⟨0, 0, rfl, rfl, (Or.inl rfl), by rw [ht]; exact hP9, hD9⟩, hS.F ht⟩) hS.2.2 dX7_isWord_25
  · have c19 := i32_eq c1 rfl (show (1 : Int32).toInt = 1 by decide)
    refine lv_aload_n hx hb dX7_isWord_8 rfl (lv_at hl 1 rfl) ?_
    have hFc := va_A0 hS hA
    refine va_calli (va_runV (As := []) (rest := []) ⟨hx, hb, hml, hown, hts⟩ (ct_J0_length_8abf5 l p0 sv sn sf s.heap.size) (cwV 0 hts gX7_isWord_J0_length_8abf5 rfl rfl rfl ⟨rfl, cn_J0.1, cn_J0.2, ds_34⟩ ⟨Nat.le_of_ble_eq_true rfl, Nat.le_of_ble_eq_true rfl⟩) ⟨fun a U g mk q => by obtain ⟨q0, q1, qZ⟩ := q; exact ⟨q0, q1, st_ok.moved (u := U) (U := U.calling g mk a) (Vm.Alike.refl U.vm) qZ⟩, st_recv hst hS, fun U hU hW => ⟨rfl, by rw [hU], st_ok.call hst hS hA hU hW.alike⟩⟩ rfl rfl hl.1 rfl (lv_room (Nat.le_of_ble_eq_true rfl)) dX7_isWord_9 ⟨Nat.le_of_ble_eq_true rfl, Nat.le_of_ble_eq_true rfl⟩) hS (fun q _ h => hFc q h) hFc (fun r2 u t H1 locs ht hvm hw hB hz1 hk1 hS => ?_)
    have hw : r2 = u := hw.symm
    subst hw
    obtain ⟨hP, hD⟩ := va_join (wr := [(o, Sum.inr (7, [Value.int v_length, Value.int v_faultKind, Value.int v_faultPlace, Value.ref o_into, Value.ref a_text, Value.int v_next, Value.int v_token, Value.int v_start, Value.int v_value, Value.ref a_nameStart, Value.ref a_nameEnd, Value.int v_hasElse, Value.int v_hasLeast, Value.int v_hasFeel])), (a_text, Sum.inl (k_a_text, 900, Sum.inl f_a_text))]) (w1 := []) hP hD [] [0, 1] rfl rfl (by decide) (by decide) hk1 hFc (fun k q h => by simp at h) ⟨fun i j p q h => by simp at h, fun k q h => by simp at h⟩
    clear hFc hk1 hz1
    generalize H1 = H at hP hS ⊢
    have hP : va_P (dC, dI) vwCl [(o, Sum.inr (7, [Value.int v_length, Value.int v_faultKind, Value.int v_faultPlace, Value.ref o_into, Value.ref a_text, Value.int v_next, Value.int v_token, Value.int v_start, Value.int v_value, Value.ref a_nameStart, Value.ref a_nameEnd, Value.int v_hasElse, Value.int v_hasLeast, Value.int v_hasFeel])), (a_text, Sum.inl (k_a_text, 900, Sum.inl f_a_text))] H := hP
    have hD : va_D A [(o, Sum.inr (7, [Value.int v_length, Value.int v_faultKind, Value.int v_faultPlace, Value.ref o_into, Value.ref a_text, Value.int v_next, Value.int v_token, Value.int v_start, Value.int v_value, Value.ref a_nameStart, Value.ref a_nameEnd, Value.int v_hasElse, Value.int v_hasLeast, Value.int v_hasFeel])), (a_text, Sum.inl (k_a_text, 900, Sum.inl f_a_text))] := hD
    refine W.widen (k := 0) (n := 0) (by decide) (by decide) ?_
    have hslr2 : r2 = Int32.ofNat sn := hB
    have tr2 : r2.toInt = (sn : Int) := by rw [show r2 = Int32.ofNat sn from hB]; exact nI_toInt hst.2.2.2.2.2
    have br2 := i32_max r2
    refine lv_aload_n hx hb dX7_isWord_12 rfl (lv_at hl 0 rfl) ?_
    refine va_get (D := (dC, dI)) (ci := 7) (v := Value.int v_next) (C := RX7) (T := TX7) (N := 14) hx hb hts iw_X7_isWord_X7 hown hK hP 0 rfl rfl 5 (by decide) (hts _ kk_X7_isWord_1) (fun _ h9 => h9) rfl dX7_isWord_13 ?_
    refine lv_aload_n hx hb dX7_isWord_16 rfl (lv_at hl 0 rfl) ?_
    refine va_get (D := (dC, dI)) (ci := 7) (v := Value.int v_start) (C := RX7) (T := TX7) (N := 14) hx hb hts iw_X7_isWord_X7 hown hK hP 0 rfl rfl 7 (by decide) (hts _ kk_X7_isWord_2) (fun _ h9 => h9) rfl dX7_isWord_17 ?_
    refine lv_isub hx hb dX7_isWord_20 ?_
    refine lv_topi (fun x3 ex3 => ?_)
    have bv_next := hv_next.u
    have bv_start := hv_start.u
    have tx3 := i32_sub ex3 rfl rfl (by omega) (by omega)
    refine lv_icmp_eq (tgt := 26) hx hb dX7_isWord_21 (by decide) (fun c4 => ?_) (fun c4 => ?_)
    · have c49 := i32_eq c4 rfl rfl
      refine lv_iconst (v := 0) hx hb dX7_isWord_26 (by decide) ?_
      refine lv_istore_n (lv' := [(2, Value.int 0), (0, Value.ref o), (1, Value.ref p0)]) hx hb dX7_isWord_27 rfl hl (by decide) rfl (fun ls hl => ?_)
      refine tl_loop (I := fun nn H locs ls => ∃ (v5 : Int32), nn = (900 - v5.toInt).toNat ∧ iv v5 0 900 ∧  va_P (dC, dI) vwCl [(o, Sum.inr (7, [Value.int v_length, Value.int v_faultKind, Value.int v_faultPlace, Value.ref o_into, Value.ref a_text, Value.int v_next, Value.int v_token, Value.int v_start, Value.int v_value, Value.ref a_nameStart, Value.ref a_nameEnd, Value.int v_hasElse, Value.int v_hasLeast, Value.int v_hasFeel])), (a_text, Sum.inl (k_a_text, 900, Sum.inl f_a_text))] H ∧ va_D A [(o, Sum.inr (7, [Value.int v_length, Value.int v_faultKind, Value.int v_faultPlace, Value.ref o_into, Value.ref a_text, Value.int v_next, Value.int v_token, Value.int v_start, Value.int v_value, Value.ref a_nameStart, Value.ref a_nameEnd, Value.int v_hasElse, Value.int v_hasLeast, Value.int v_hasFeel])), (a_text, Sum.inl (k_a_text, 900, Sum.inl f_a_text))] ∧ va_S A s.heap H locs ∧ lv_has ls 3 [(2, Value.int v5), (0, Value.ref o), (1, Value.ref p0)]) ?_ ⟨0, rfl, (iv.m (by decide)), hP, hD, hS, lv_sub hl [0, 1, 2] rfl⟩
      clear hP hD hS hl
      intro nn28 H locs ls hI ih28
      obtain ⟨v5, hn28, hv5, hP, hD, hS, hl⟩ := hI
      have bv5 := hv5.u
      refine lv_iload_n hx hb dX7_isWord_28 rfl (lv_at hl 0 rfl) ?_
      refine lv_aload_n hx hb dX7_isWord_29 rfl (lv_at hl 2 rfl) ?_
      have hFc := va_A0 hS hA
      refine va_calli (va_runV (As := []) (rest := [Value.int v5]) ⟨hx, hb, hml, hown, hts⟩ (ct_J0_length_8abf5 l p0 sv sn sf H.size) (cwV 0 hts gX7_isWord_J0_length_8abf5 rfl rfl rfl ⟨rfl, cn_J0.1, cn_J0.2, ds_34⟩ ⟨Nat.le_of_ble_eq_true rfl, Nat.le_of_ble_eq_true rfl⟩) ⟨fun a U g mk q => by obtain ⟨q0, q1, qZ⟩ := q; exact ⟨q0, q1, st_ok.moved (u := U) (U := U.calling g mk a) (Vm.Alike.refl U.vm) qZ⟩, st_recv hst hS, fun U hU hW => ⟨rfl, by rw [hU], st_ok.call hst hS hA hU hW.alike⟩⟩ rfl rfl hl.1 rfl (lv_room (Nat.le_of_ble_eq_true rfl)) dX7_isWord_30 ⟨Nat.le_of_ble_eq_true rfl, Nat.le_of_ble_eq_true rfl⟩) hS (fun q _ h => hFc q h) hFc (fun r6 u t H1 locs ht hvm hw hB hz1 hk1 hS => ?_)
      have hw : r6 = u := hw.symm
      subst hw
      obtain ⟨hP, hD⟩ := va_join (wr := [(o, Sum.inr (7, [Value.int v_length, Value.int v_faultKind, Value.int v_faultPlace, Value.ref o_into, Value.ref a_text, Value.int v_next, Value.int v_token, Value.int v_start, Value.int v_value, Value.ref a_nameStart, Value.ref a_nameEnd, Value.int v_hasElse, Value.int v_hasLeast, Value.int v_hasFeel])), (a_text, Sum.inl (k_a_text, 900, Sum.inl f_a_text))]) (w1 := []) hP hD [] [0, 1] rfl rfl (by decide) (by decide) hk1 hFc (fun k q h => by simp at h) ⟨fun i j p q h => by simp at h, fun k q h => by simp at h⟩
      clear hFc hk1 hz1
      generalize H1 = H at hP hS ⊢
      have hP : va_P (dC, dI) vwCl [(o, Sum.inr (7, [Value.int v_length, Value.int v_faultKind, Value.int v_faultPlace, Value.ref o_into, Value.ref a_text, Value.int v_next, Value.int v_token, Value.int v_start, Value.int v_value, Value.ref a_nameStart, Value.ref a_nameEnd, Value.int v_hasElse, Value.int v_hasLeast, Value.int v_hasFeel])), (a_text, Sum.inl (k_a_text, 900, Sum.inl f_a_text))] H := hP
      have hD : va_D A [(o, Sum.inr (7, [Value.int v_length, Value.int v_faultKind, Value.int v_faultPlace, Value.ref o_into, Value.ref a_text, Value.int v_next, Value.int v_token, Value.int v_start, Value.int v_value, Value.ref a_nameStart, Value.ref a_nameEnd, Value.int v_hasElse, Value.int v_hasLeast, Value.int v_hasFeel])), (a_text, Sum.inl (k_a_text, 900, Sum.inl f_a_text))] := hD
      refine W.widen (k := 0) (n := 0) (by decide) (by decide) ?_
      have hpu : r2 = r6 := hslr2.trans (show r6 = Int32.ofNat sn from hB).symm
      subst hpu
      refine lv_icmp_ge (tgt := 63) hx hb dX7_isWord_33 (by decide) (fun c7 => ?_) (fun c7 => ?_)
      · have c79 := i32_le c7 rfl rfl
        refine lv_iconst (v := 1) hx hb dX7_isWord_63 (by decide) ?_
        have hP9 := hP.sub (ws' := [(o, Sum.inr (7, [Value.int v_length, Value.int v_faultKind, Value.int v_faultPlace, Value.ref o_into, Value.ref a_text, Value.int v_next, Value.int v_token, Value.int v_start, Value.int v_value, Value.ref a_nameStart, Value.ref a_nameEnd, Value.int v_hasElse, Value.int v_hasLeast, Value.int v_hasFeel])), (a_text, Sum.inl (k_a_text, 900, Sum.inl f_a_text))]) [0, 1] rfl
        have hD9 := hD.sub (ws' := [(o, Sum.inr (7, [Value.int v_length, Value.int v_faultKind, Value.int v_faultPlace, Value.ref o_into, Value.ref a_text, Value.int v_next, Value.int v_token, Value.int v_start, Value.int v_value, Value.ref a_nameStart, Value.ref a_nameEnd, Value.int v_hasElse, Value.int v_hasLeast, Value.int v_hasFeel])), (a_text, Sum.inl (k_a_text, 900, Sum.inl f_a_text))]) [0, 1] (by decide) rfl
        exact W.zret (v := 1) hx hb hr rfl (fun t ht hW => ⟨⟨1, 1, rfl, rfl, (Or.inr (rfl)), by rw [ht]; exact hP9, hD9⟩, hS.F ht⟩) hS.2.2 dX7_isWord_64
      · have c79 := i32_nle c7 rfl rfl
        refine lv_aload_n hx hb dX7_isWord_36 rfl (lv_at hl 1 rfl) ?_
        refine va_get (D := (dC, dI)) (ci := 7) (v := Value.ref a_text) (C := RX7) (T := TX7) (N := 14) hx hb hts iw_X7_isWord_X7 hown hK hP 0 rfl rfl 4 (by decide) (hts _ kk_X7_isWord_3) (fun _ h9 => h9) rfl dX7_isWord_37 ?_
        refine lv_aload_n hx hb dX7_isWord_40 rfl (lv_at hl 1 rfl) ?_
        refine va_get (D := (dC, dI)) (ci := 7) (v := Value.int v_start) (C := RX7) (T := TX7) (N := 14) hx hb hts iw_X7_isWord_X7 hown hK hP 0 rfl rfl 7 (by decide) (hts _ kk_X7_isWord_2) (fun _ h9 => h9) rfl dX7_isWord_41 ?_
        refine lv_iload_n hx hb dX7_isWord_44 rfl (lv_at hl 0 rfl) ?_
        refine lv_iadd hx hb dX7_isWord_45 ?_
        refine lv_topi (fun x8 ex8 => ?_)
        have tx8 := i32_add ex8 rfl rfl (by omega) (by omega)
        refine va_bald hx hb hK hP 1 0 rfl rfl (vq_in x8 900 (by omega)) dX7_isWord_46 ?_
        refine lv_topi (fun x9 ex9 => ?_)
        refine lv_aload_n hx hb dX7_isWord_47 rfl (lv_at hl 2 rfl) ?_
        refine lv_iload_n hx hb dX7_isWord_48 rfl (lv_at hl 0 rfl) ?_
        have hFc := va_A0 hS hA
        refine va_calli (va_runV (As := [Value.int v5]) (rest := [Value.int x9]) ⟨hx, hb, hml, hown, hts⟩ (ct_J0_charAt_5068e l p0 sv sn sf v5 H.size (vq_in v5 sn (by omega))) (cwV 1 hts gX7_isWord_J0_charAt_5068e rfl rfl rfl ⟨rfl, cn_J0.1, cn_J0.2, ds_47⟩ ⟨Nat.le_of_ble_eq_true rfl, Nat.le_of_ble_eq_true rfl⟩) ⟨fun a U g mk q => by obtain ⟨q0, q1, qZ⟩ := q; exact ⟨q0, q1, st_ok.moved (u := U) (U := U.calling g mk a) (Vm.Alike.refl U.vm) qZ⟩, st_recv hst hS, fun U hU hW => ⟨rfl, by rw [hU], st_ok.call hst hS hA hU hW.alike⟩⟩ rfl rfl hl.1 rfl (lv_room (Nat.le_of_ble_eq_true rfl)) dX7_isWord_49 ⟨Nat.le_of_ble_eq_true rfl, Nat.le_of_ble_eq_true rfl⟩) hS (fun q _ h => hFc q h) hFc (fun r10 u t H1 locs ht hvm hw hB hz1 hk1 hS => ?_)
        have hw : r10 = u := hw.symm
        subst hw
        obtain ⟨hP, hD⟩ := va_join (wr := [(o, Sum.inr (7, [Value.int v_length, Value.int v_faultKind, Value.int v_faultPlace, Value.ref o_into, Value.ref a_text, Value.int v_next, Value.int v_token, Value.int v_start, Value.int v_value, Value.ref a_nameStart, Value.ref a_nameEnd, Value.int v_hasElse, Value.int v_hasLeast, Value.int v_hasFeel])), (a_text, Sum.inl (k_a_text, 900, Sum.inl f_a_text))]) (w1 := []) hP hD [] [0, 1] rfl rfl (by decide) (by decide) hk1 hFc (fun k q h => by simp at h) ⟨fun i j p q h => by simp at h, fun k q h => by simp at h⟩
        clear hFc hk1 hz1
        generalize H1 = H at hP hS ⊢
        have hP : va_P (dC, dI) vwCl [(o, Sum.inr (7, [Value.int v_length, Value.int v_faultKind, Value.int v_faultPlace, Value.ref o_into, Value.ref a_text, Value.int v_next, Value.int v_token, Value.int v_start, Value.int v_value, Value.ref a_nameStart, Value.ref a_nameEnd, Value.int v_hasElse, Value.int v_hasLeast, Value.int v_hasFeel])), (a_text, Sum.inl (k_a_text, 900, Sum.inl f_a_text))] H := hP
        have hD : va_D A [(o, Sum.inr (7, [Value.int v_length, Value.int v_faultKind, Value.int v_faultPlace, Value.ref o_into, Value.ref a_text, Value.int v_next, Value.int v_token, Value.int v_start, Value.int v_value, Value.ref a_nameStart, Value.ref a_nameEnd, Value.int v_hasElse, Value.int v_hasLeast, Value.int v_hasFeel])), (a_text, Sum.inl (k_a_text, 900, Sum.inl f_a_text))] := hD
        refine W.widen (k := 0) (n := 0) (by decide) (by decide) ?_
        have hr10 : iv r10 0 255 := i32_and255 hB
        have bx9 := i32_rng x9
        have br10 := hr10.u
        refine lv_icmp_eq (tgt := 57) hx hb dX7_isWord_52 (by decide) (fun c11 => ?_) (fun c11 => ?_)
        · have c119 := i32_eq c11 rfl rfl
          obtain ⟨x12, ex12⟩ : ∃ z : Int32, v5 + Int32.ofInt 1 = z := ⟨_, rfl⟩
          have tx12 := i32_inc ex12 rfl (by decide) (by omega) (by omega)
          refine lv_iinc (v := x12) (lv' := [(2, Value.int x12), (0, Value.ref o), (1, Value.ref p0)]) hx hb dX7_isWord_57 hl (k := 0) rfl ex12 (by decide) rfl (fun ls hl => ?_)
          refine lv_goto (tgt := 28) hx hb dX7_isWord_60 (by decide) ?_
          exact ih28 _ _ _ _ (by omega) ⟨x12, rfl, (iv.m (by omega)), hP, hD, hS, lv_sub hl [0, 1, 2] rfl⟩
        · have c119 := i32_ne c11 rfl rfl
          refine lv_iconst (v := 0) hx hb dX7_isWord_55 (by decide) ?_
          have hP9 := hP.sub (ws' := [(o, Sum.inr (7, [Value.int v_length, Value.int v_faultKind, Value.int v_faultPlace, Value.ref o_into, Value.ref a_text, Value.int v_next, Value.int v_token, Value.int v_start, Value.int v_value, Value.ref a_nameStart, Value.ref a_nameEnd, Value.int v_hasElse, Value.int v_hasLeast, Value.int v_hasFeel])), (a_text, Sum.inl (k_a_text, 900, Sum.inl f_a_text))]) [0, 1] rfl
          have hD9 := hD.sub (ws' := [(o, Sum.inr (7, [Value.int v_length, Value.int v_faultKind, Value.int v_faultPlace, Value.ref o_into, Value.ref a_text, Value.int v_next, Value.int v_token, Value.int v_start, Value.int v_value, Value.ref a_nameStart, Value.ref a_nameEnd, Value.int v_hasElse, Value.int v_hasLeast, Value.int v_hasFeel])), (a_text, Sum.inl (k_a_text, 900, Sum.inl f_a_text))]) [0, 1] (by decide) rfl
          exact W.zret (v := 0) hx hb hr rfl (fun t ht hW => ⟨⟨0, 0, rfl, rfl, (Or.inl rfl), by rw [ht]; exact hP9, hD9⟩, hS.F ht⟩) hS.2.2 dX7_isWord_56
    · have c49 := i32_ne c4 rfl rfl
      refine lv_iconst (v := 0) hx hb dX7_isWord_24 (by decide) ?_
      have hP9 := hP.sub (ws' := [(o, Sum.inr (7, [Value.int v_length, Value.int v_faultKind, Value.int v_faultPlace, Value.ref o_into, Value.ref a_text, Value.int v_next, Value.int v_token, Value.int v_start, Value.int v_value, Value.ref a_nameStart, Value.ref a_nameEnd, Value.int v_hasElse, Value.int v_hasLeast, Value.int v_hasFeel])), (a_text, Sum.inl (k_a_text, 900, Sum.inl f_a_text))]) [0, 1] rfl
      have hD9 := hD.sub (ws' := [(o, Sum.inr (7, [Value.int v_length, Value.int v_faultKind, Value.int v_faultPlace, Value.ref o_into, Value.ref a_text, Value.int v_next, Value.int v_token, Value.int v_start, Value.int v_value, Value.ref a_nameStart, Value.ref a_nameEnd, Value.int v_hasElse, Value.int v_hasLeast, Value.int v_hasFeel])), (a_text, Sum.inl (k_a_text, 900, Sum.inl f_a_text))]) [0, 1] (by decide) rfl
      exact W.zret (v := 0) hx hb hr rfl (fun t ht hW => ⟨⟨0, 0, rfl, rfl, (Or.inl rfl), by rw [ht]; exact hP9, hD9⟩, hS.F ht⟩) hS.2.2 dX7_isWord_25

