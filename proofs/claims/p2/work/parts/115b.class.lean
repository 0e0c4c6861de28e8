set_option maxHeartbeats 4000000 in
set_option maxRecDepth 100000 in
theorem ct_X7_fail (l : Launch) (dC : Nat → ClassId) (dI : Nat → Nat → Nat) (o : Nat) (p0 : Int32) (v_length : Int32) (v_faultKind : Int32) (v_faultPlace : Int32) (o_into : Nat) (a_text : Nat) (v_next : Int32) (v_token : Int32) (v_start : Int32) (v_value : Int32) (a_nameStart : Nat) (a_nameEnd : Nat) (v_hasElse : Int32) (v_hasLeast : Int32) (v_hasFeel : Int32) (sz : Nat) : Met l yX7_fail wsX7_fail ({ frames := 0, cells := 0, slots := 0, locals := 0 }) (va_Pc [.ref o, .int p0] (fun U => U.heap.size = sz ∧ va_P (dC, dI) vwCl [(o, .inr (7, [.int v_length, .int v_faultKind, .int v_faultPlace, .ref o_into, .ref a_text, .int v_next, .int v_token, .int v_start, .int v_value, .ref a_nameStart, .ref a_nameEnd, .int v_hasElse, .int v_hasLeast, .int v_hasFeel]))] U.heap ∧ va_K (dC, dI) vwCl [] U ∧ va_D (fun _ => True) [(o, .inr (7, [.int v_length, .int v_faultKind, .int v_faultPlace, .ref o_into, .ref a_text, .int v_next, .int v_token, .int v_start, .int v_value, .ref a_nameStart, .ref a_nameEnd, .int v_hasElse, .int v_hasLeast, .int v_hasFeel]))])) (va_Qi (fun (r u : Int32) => u = r) (fun (r : Int32) t => r = 0 ∧ va_P (dC, dI) vwCl [(o, .inr (7, [.int v_length, .int p0, .int v_start, .ref o_into, .ref a_text, .int v_next, .int v_token, .int v_start, .int v_value, .ref a_nameStart, .ref a_nameEnd, .int v_hasElse, .int v_hasLeast, .int v_hasFeel]))] t.heap ∧ va_D (va_A [(o, .inr (7, [.int v_length, .int v_faultKind, .int v_faultPlace, .ref o_into, .ref a_text, .int v_next, .int v_token, .int v_start, .int v_value, .ref a_nameStart, .ref a_nameEnd, .int v_hasElse, .int v_hasLeast, .int v_hasFeel]))] sz) [(o, .inr (7, [.int v_length, .int p0, .int v_start, .ref o_into, .ref a_text, .int v_next, .int v_token, .int v_start, .int v_value, .ref a_nameStart, .ref a_nameEnd, .int v_hasElse, .int v_hasLeast, .int v_hasFeel]))]) (va_A [(o, .inr (7, [.int v_length, .int v_faultKind, .int v_faultPlace, .ref o_into, .ref a_text, .int v_next, .int v_token, .int v_start, .int v_value, .ref a_nameStart, .ref a_nameEnd, .int v_hasElse, .int v_hasLeast, .int v_hasFeel]))] sz)) 0 0 (va_A [(o, .inr (7, [.int v_length, .int v_faultKind, .int v_faultPlace, .ref o_into, .ref a_text, .int v_next, .int v_token, .int v_start, .int v_value, .ref a_nameStart, .ref a_nameEnd, .int v_hasElse, .int v_hasLeast, .int v_hasFeel]))] sz) := by
  refine Met.ofW (cc := cX7_fail) (maxL := 2) (ret := (some .boolean)) pn_X7 rfl ?_
  intro p e s m args below meth c s₁ B hml hv
  obtain ⟨rfl, hsz, hP, hK, hD0⟩ := hv
  have hx := B.exec
  have hb := B.bytes
  have hr := B.returns
  have hts := atoms_spec (ws := wsX7_fail) B.pre
  have hown : s.vm.findClass RX7 = some m.cls := findClass_of_methodNamed B.named
  have hlocks := B.notSynchronized
  subst hsz
  have hD := hD0.self (sz := s.heap.size)
  generalize hAe : va_A [(o, .inr (7, [.int v_length, .int v_faultKind, .int v_faultPlace, .ref o_into, .ref a_text, .int v_next, .int v_token, .int v_start, .int v_value, .ref a_nameStart, .ref a_nameEnd, .int v_hasElse, .int v_hasLeast, .int v_hasFeel]))] s.heap.size = A at hD ⊢
  have hA : ∀ q : Nat, s.heap.size ≤ q → A q := fun q h => by rw [← hAe]; exact Or.inr h
  have hS : va_S A s.heap s.heap [] := va_S.rf
  have hP : va_P (dC, dI) vwCl [(o, .inr (7, [.int v_length, .int v_faultKind, .int v_faultPlace, .ref o_into, .ref a_text, .int v_next, .int v_token, .int v_start, .int v_value, .ref a_nameStart, .ref a_nameEnd, .int v_hasElse, .int v_hasLeast, .int v_hasFeel]))] s.heap := hP
  have hl := lv_entry ([.ref o, .int p0]) (n := 2) (Nat.le_of_ble_eq_true rfl)
  rw [lg_entry_eq]
  generalize (lg_sl ([.ref o, .int p0]) ++ List.replicate (2 - (lg_sl ([.ref o, .int p0])).length) Slot.unset).toArray = ls at hl ⊢
  have hl : lv_has ls 2 [(0, .ref o), (1, .int p0)] := hl
  refine lv_aload_n hx hb dX7_fail_0 rfl (lv_at hl 0 rfl) ?_
  refine lv_iload_n hx hb dX7_fail_1 rfl (lv_at hl 1 rfl) ?_
  refine va_put (D := (dC, dI)) (ci := 7) (v := .int p0) (ty := .int) (C := RX7) (T := TX7) (N := 14) hx hb hts iw_X7_fail_X7 tyX7 tyX7_ok nmX7 hown hK hP hD hS 0 rfl rfl 1 (by decide) (hts _ kk_X7_fail_0) (fun _ h9 => h9) rfl (by decide +kernel) rfl rfl (Nat.le_of_ble_eq_true rfl) dX7_fail_2 (fun H locs hP hD hS => ?_)
  have hP : va_P (dC, dI) vwCl [(o, .inr (7, [.int v_length, .int p0, .int v_faultPlace, .ref o_into, .ref a_text, .int v_next, .int v_token, .int v_start, .int v_value, .ref a_nameStart, .ref a_nameEnd, .int v_hasElse, .int v_hasLeast, .int v_hasFeel]))] H := hP
  have hD : va_D A [(o, .inr (7, [.int v_length, .int p0, .int v_faultPlace, .ref o_into, .ref a_text, .int v_next, .int v_token, .int v_start, .int v_value, .ref a_nameStart, .ref a_nameEnd, .int v_hasElse, .int v_hasLeast, .int v_hasFeel]))] := hD
  refine lv_aload_n hx hb dX7_fail_5 rfl (lv_at hl 0 rfl) ?_
  refine lv_aload_n hx hb dX7_fail_6 rfl (lv_at hl 0 rfl) ?_
  refine va_get (D := (dC, dI)) (ci := 7) (v := .int v_start) (C := RX7) (T := TX7) (N := 14) hx hb hts iw_X7_fail_X7 hown hK hP 0 rfl rfl 7 (by decide) (hts _ kk_X7_fail_1) (fun _ h9 => h9) rfl dX7_fail_7 ?_
  refine va_put (D := (dC, dI)) (ci := 7) (v := .int v_start) (ty := .int) (C := RX7) (T := TX7) (N := 14) hx hb hts iw_X7_fail_X7 tyX7 tyX7_ok nmX7 hown hK hP hD hS 0 rfl rfl 2 (by decide) (hts _ kk_X7_fail_2) (fun _ h9 => h9) rfl (by decide +kernel) rfl rfl (Nat.le_of_ble_eq_true rfl) dX7_fail_10 (fun H locs hP hD hS => ?_)
  have hP : va_P (dC, dI) vwCl [(o, .inr (7, [.int v_length, .int p0, .int v_start, .ref o_into, .ref a_text, .int v_next, .int v_token, .int v_start, .int v_value, .ref a_nameStart, .ref a_nameEnd, .int v_hasElse, .int v_hasLeast, .int v_hasFeel]))] H := hP
  have hD : va_D A [(o, .inr (7, [.int v_length, .int p0, .int v_start, .ref o_into, .ref a_text, .int v_next, .int v_token, .int v_start, .int v_value, .ref a_nameStart, .ref a_nameEnd, .int v_hasElse, .int v_hasLeast, .int v_hasFeel]))] := hD
  refine lv_iconst (v := 0) hx hb dX7_fail_13 (by decide) ?_
  have hP9 := hP.sub (ws' := [(o, .inr (7, [.int v_length, .int p0, .int v_start, .ref o_into, .ref a_text, .int v_next, .int v_token, .int v_start, .int v_value, .ref a_nameStart, .ref a_nameEnd, .int v_hasElse, .int v_hasLeast, .int v_hasFeel]))]) [0] rfl
  have hD9 := hD.sub (ws' := [(o, .inr (7, [.int v_length, .int p0, .int v_start, .ref o_into, .ref a_text, .int v_next, .int v_token, .int v_start, .int v_value, .ref a_nameStart, .ref a_nameEnd, .int v_hasElse, .int v_hasLeast, .int v_hasFeel]))]) [0] (by decide) rfl
  exact W.zret (v := 0) hx hb hr rfl (fun t ht hW => ⟨⟨0, 0, rfl, rfl, rfl, by rw [ht]; exact hP9, hD9⟩, hS.F ht⟩) hS.2.2 dX7_fail_14

set_option maxHeartbeats 4000000 in
set_option maxRecDepth 100000 in
theorem ct_X7_isNumber (l : Launch) (dC : Nat → ClassId) (dI : Nat → Nat → Nat) (o : Nat) (p0 : Int32) (p1 : Int32) (v_length : Int32) (v_faultKind : Int32) (v_faultPlace : Int32) (o_into : Nat) (a_text : Nat) (v_next : Int32) (v_token : Int32) (v_start : Int32) (v_value : Int32) (a_nameStart : Nat) (a_nameEnd : Nat) (v_hasElse : Int32) (v_hasLeast : Int32) (v_hasFeel : Int32) (k_a_text : ClassId) (f_a_text : Nat → Int32) (hv_next : iv v_next 0 900) (hv_token : iv v_token 0 5) (hv_start : iv v_start 0 900) (sz : Nat) : Met l yX7_isNumber wsX7_isNumber ({ frames := 1, cells := 0, slots := 0, locals := 21 }) (va_Pc [.ref o, .int p0, .int p1] (fun U => U.heap.size = sz ∧ va_P (dC, dI) vwCl [(o, .inr (7, [.int v_length, .int v_faultKind, .int v_faultPlace, .ref o_into, .ref a_text, .int v_next, .int v_token, .int v_start, .int v_value, .ref a_nameStart, .ref a_nameEnd, .int v_hasElse, .int v_hasLeast, .int v_hasFeel])), (a_text, .inl (k_a_text, 900, .inl f_a_text))] U.heap ∧ va_K (dC, dI) vwCl [(k_a_text, .byte)] U ∧ va_D (fun _ => True) [(o, .inr (7, [.int v_length, .int v_faultKind, .int v_faultPlace, .ref o_into, .ref a_text, .int v_next, .int v_token, .int v_start, .int v_value, .ref a_nameStart, .ref a_nameEnd, .int v_hasElse, .int v_hasLeast, .int v_hasFeel])), (a_text, .inl (k_a_text, 900, .inl f_a_text))])) (va_Qi (fun (r u : Int32) => u = r) (fun (r : Int32) t => ∃ (e_v_faultKind : Int32) (e_v_faultPlace : Int32) (e_v_value : Int32), ((r = 0) ∨ (r = 1 ∧ (p0.toInt ≤ e_v_value.toInt) ∧ (e_v_value.toInt ≤ p1.toInt))) ∧ va_P (dC, dI) vwCl [(o, .inr (7, [.int v_length, .int e_v_faultKind, .int e_v_faultPlace, .ref o_into, .ref a_text, .int v_next, .int v_token, .int v_start, .int e_v_value, .ref a_nameStart, .ref a_nameEnd, .int v_hasElse, .int v_hasLeast, .int v_hasFeel])), (a_text, .inl (k_a_text, 900, .inl f_a_text))] t.heap ∧ va_D (va_A [(o, .inr (7, [.int v_length, .int v_faultKind, .int v_faultPlace, .ref o_into, .ref a_text, .int v_next, .int v_token, .int v_start, .int v_value, .ref a_nameStart, .ref a_nameEnd, .int v_hasElse, .int v_hasLeast, .int v_hasFeel])), (a_text, .inl (k_a_text, 900, .inl f_a_text))] sz) [(o, .inr (7, [.int v_length, .int e_v_faultKind, .int e_v_faultPlace, .ref o_into, .ref a_text, .int v_next, .int v_token, .int v_start, .int e_v_value, .ref a_nameStart, .ref a_nameEnd, .int v_hasElse, .int v_hasLeast, .int v_hasFeel])), (a_text, .inl (k_a_text, 900, .inl f_a_text))]) (va_A [(o, .inr (7, [.int v_length, .int v_faultKind, .int v_faultPlace, .ref o_into, .ref a_text, .int v_next, .int v_token, .int v_start, .int v_value, .ref a_nameStart, .ref a_nameEnd, .int v_hasElse, .int v_hasLeast, .int v_hasFeel])), (a_text, .inl (k_a_text, 900, .inl f_a_text))] sz)) 0 0 (va_A [(o, .inr (7, [.int v_length, .int v_faultKind, .int v_faultPlace, .ref o_into, .ref a_text, .int v_next, .int v_token, .int v_start, .int v_value, .ref a_nameStart, .ref a_nameEnd, .int v_hasElse, .int v_hasLeast, .int v_hasFeel])), (a_text, .inl (k_a_text, 900, .inl f_a_text))] sz) := by
  refine Met.ofW (cc := cX7_isNumber) (maxL := 4) (ret := (some .boolean)) pn_X7 rfl ?_
  intro p e s m args below meth c s₁ B hml hv
  obtain ⟨rfl, hsz, hP, hK, hD0⟩ := hv
  have hx := B.exec
  have hb := B.bytes
  have hr := B.returns
  have hts := atoms_spec (ws := wsX7_isNumber) B.pre
  have hown : s.vm.findClass RX7 = some m.cls := findClass_of_methodNamed B.named
  have hlocks := B.notSynchronized
  subst hsz
  have hD := hD0.self (sz := s.heap.size)
  generalize hAe : va_A [(o, .inr (7, [.int v_length, .int v_faultKind, .int v_faultPlace, .ref o_into, .ref a_text, .int v_next, .int v_token, .int v_start, .int v_value, .ref a_nameStart, .ref a_nameEnd, .int v_hasElse, .int v_hasLeast, .int v_hasFeel])), (a_text, .inl (k_a_text, 900, .inl f_a_text))] s.heap.size = A at hD ⊢
  have hA : ∀ q : Nat, s.heap.size ≤ q → A q := fun q h => by rw [← hAe]; exact Or.inr h
  have hS : va_S A s.heap s.heap [] := va_S.rf
  have hP : va_P (dC, dI) vwCl [(o, .inr (7, [.int v_length, .int v_faultKind, .int v_faultPlace, .ref o_into, .ref a_text, .int v_next, .int v_token, .int v_start, .int v_value, .ref a_nameStart, .ref a_nameEnd, .int v_hasElse, .int v_hasLeast, .int v_hasFeel])), (a_text, .inl (k_a_text, 900, .inl f_a_text))] s.heap := hP
  have hl := lv_entry ([.ref o, .int p0, .int p1]) (n := 4) (Nat.le_of_ble_eq_true rfl)
  rw [lg_entry_eq]
  generalize (lg_sl ([.ref o, .int p0, .int p1]) ++ List.replicate (4 - (lg_sl ([.ref o, .int p0, .int p1])).length) Slot.unset).toArray = ls at hl ⊢
  have hl : lv_has ls 4 [(0, .ref o), (1, .int p0), (2, .int p1)] := hl
  refine lv_aload_n hx hb dX7_isNumber_0 rfl (lv_at hl 0 rfl) ?_
  refine va_get (D := (dC, dI)) (ci := 7) (v := .int v_token) (C := RX7) (T := TX7) (N := 14) hx hb hts iw_X7_isNumber_X7 hown hK hP 0 rfl rfl 6 (by decide) (hts _ kk_X7_isNumber_0) (fun _ h9 => h9) rfl dX7_isNumber_1 ?_
  refine lv_iconst (v := 2) hx hb dX7_isNumber_4 (by decide) ?_
  have bv_token := hv_token.u
  refine lv_icmp_eq (tgt := 14) hx hb dX7_isNumber_5 (by decide) (fun c1 => ?_) (fun c1 => ?_)
  · have c19 := i32_eq c1 rfl (show (2 : Int32).toInt = 2 by decide)
    refine lv_aload_n hx hb dX7_isNumber_14 rfl (lv_at hl 0 rfl) ?_
    refine lv_iconst (v := 0) hx hb dX7_isNumber_15 (by decide) ?_
    refine va_put (D := (dC, dI)) (ci := 7) (v := .int 0) (ty := .int) (C := RX7) (T := TX7) (N := 14) hx hb hts iw_X7_isNumber_X7 tyX7 tyX7_ok nmX7 hown hK hP hD hS 0 rfl rfl 8 (by decide) (hts _ kk_X7_isNumber_1) (fun _ h9 => h9) rfl (by decide +kernel) rfl rfl (Nat.le_of_ble_eq_true rfl) dX7_isNumber_16 (fun H locs hP hD hS => ?_)
    have hP : va_P (dC, dI) vwCl [(o, .inr (7, [.int v_length, .int v_faultKind, .int v_faultPlace, .ref o_into, .ref a_text, .int v_next, .int v_token, .int v_start, .int 0, .ref a_nameStart, .ref a_nameEnd, .int v_hasElse, .int v_hasLeast, .int v_hasFeel])), (a_text, .inl (k_a_text, 900, .inl f_a_text))] H := hP
    have hD : va_D A [(o, .inr (7, [.int v_length, .int v_faultKind, .int v_faultPlace, .ref o_into, .ref a_text, .int v_next, .int v_token, .int v_start, .int 0, .ref a_nameStart, .ref a_nameEnd, .int v_hasElse, .int v_hasLeast, .int v_hasFeel])), (a_text, .inl (k_a_text, 900, .inl f_a_text))] := hD
    refine lv_aload_n hx hb dX7_isNumber_19 rfl (lv_at hl 0 rfl) ?_
    refine va_get (D := (dC, dI)) (ci := 7) (v := .int v_start) (C := RX7) (T := TX7) (N := 14) hx hb hts iw_X7_isNumber_X7 hown hK hP 0 rfl rfl 7 (by decide) (hts _ kk_X7_isNumber_2) (fun _ h9 => h9) rfl dX7_isNumber_20 ?_
    refine lv_istore_n (lv' := [(3, .int v_start), (0, .ref o), (1, .int p0), (2, .int p1)]) hx hb dX7_isNumber_23 rfl hl (by decide) rfl (fun ls hl => ?_)
    refine tl_loop (I := fun nn H locs ls => ∃ (v2 : Int32) (v3 : Int32), nn = (900 - v2.toInt).toNat ∧ iv v2 0 900 ∧  va_P (dC, dI) vwCl [(o, .inr (7, [.int v_length, .int v_faultKind, .int v_faultPlace, .ref o_into, .ref a_text, .int v_next, .int v_token, .int v_start, .int v3, .ref a_nameStart, .ref a_nameEnd, .int v_hasElse, .int v_hasLeast, .int v_hasFeel])), (a_text, .inl (k_a_text, 900, .inl f_a_text))] H ∧ va_D A [(o, .inr (7, [.int v_length, .int v_faultKind, .int v_faultPlace, .ref o_into, .ref a_text, .int v_next, .int v_token, .int v_start, .int v3, .ref a_nameStart, .ref a_nameEnd, .int v_hasElse, .int v_hasLeast, .int v_hasFeel])), (a_text, .inl (k_a_text, 900, .inl f_a_text))] ∧ va_S A s.heap H locs ∧ lv_has ls 4 [(3, .int v2), (0, .ref o), (1, .int p0), (2, .int p1)]) ?_ ⟨v_start, 0, rfl, hv_start, hP, hD, hS, lv_sub hl [0, 1, 2, 3] rfl⟩
    clear hP hD hS hl
    intro nn24 H locs ls hI ih24
    obtain ⟨v2, v3, hn24, hv2, hP, hD, hS, hl⟩ := hI
    have bv2 := hv2.u
    refine lv_iload_n hx hb dX7_isNumber_24 rfl (lv_at hl 0 rfl) ?_
    refine lv_aload_n hx hb dX7_isNumber_25 rfl (lv_at hl 1 rfl) ?_
    refine va_get (D := (dC, dI)) (ci := 7) (v := .int v_next) (C := RX7) (T := TX7) (N := 14) hx hb hts iw_X7_isNumber_X7 hown hK hP 0 rfl rfl 5 (by decide) (hts _ kk_X7_isNumber_3) (fun _ h9 => h9) rfl dX7_isNumber_26 ?_
    have bv_next := hv_next.u
    refine lv_icmp_ge (tgt := 59) hx hb dX7_isNumber_29 (by decide) (fun c4 => ?_) (fun c4 => ?_)
    · have c49 := i32_le c4 rfl rfl
      refine lv_aload_n hx hb dX7_isNumber_59 rfl (lv_at hl 1 rfl) ?_
      refine va_get (D := (dC, dI)) (ci := 7) (v := .int v3) (C := RX7) (T := TX7) (N := 14) hx hb hts iw_X7_isNumber_X7 hown hK hP 0 rfl rfl 8 (by decide) (hts _ kk_X7_isNumber_1) (fun _ h9 => h9) rfl dX7_isNumber_60 ?_
      refine lv_iload_n hx hb dX7_isNumber_63 rfl (lv_at hl 2 rfl) ?_
      have bv3 := i32_rng v3
      have bp0 := i32_rng p0
      refine lv_icmp_lt (tgt := 75) hx hb dX7_isNumber_64 (by decide) (fun c5 => ?_) (fun c5 => ?_)
      · have c59 := i32_lt c5 rfl rfl
        refine lv_aload_n hx hb dX7_isNumber_75 rfl (lv_at hl 1 rfl) ?_
        refine lv_iconst (v := 2) hx hb dX7_isNumber_76 (by decide) ?_
        have hPc := hP.sub (ws' := [(o, .inr (7, [.int v_length, .int v_faultKind, .int v_faultPlace, .ref o_into, .ref a_text, .int v_next, .int v_token, .int v_start, .int v3, .ref a_nameStart, .ref a_nameEnd, .int v_hasElse, .int v_hasLeast, .int v_hasFeel]))]) [0] rfl
        have hDc := hD.sub (ws' := [(o, .inr (7, [.int v_length, .int v_faultKind, .int v_faultPlace, .ref o_into, .ref a_text, .int v_next, .int v_token, .int v_start, .int v3, .ref a_nameStart, .ref a_nameEnd, .int v_hasElse, .int v_hasLeast, .int v_hasFeel]))]) [0] (by decide) rfl
        have hKc := hK.sub (tys' := []) [] rfl
        have hFc := va_free (wc := [(o, .inr (7, [.int v_length, .int v_faultKind, .int v_faultPlace, .ref o_into, .ref a_text, .int v_next, .int v_token, .int v_start, .int v3, .ref a_nameStart, .ref a_nameEnd, .int v_hasElse, .int v_hasLeast, .int v_hasFeel]))]) hD hS hA [0] rfl
        refine va_calli (va_runV (As := [.int 2]) (rest := []) ⟨hx, hb, hml, hown, hts⟩ (ct_X7_fail l dC dI o 2 v_length v_faultKind v_faultPlace o_into a_text v_next v_token v_start v3 a_nameStart a_nameEnd v_hasElse v_hasLeast v_hasFeel H.size) (cwV 1 hts gX7_isNumber_X7_fail rfl rfl rfl ⟨rfl, cn_X7.1, cn_X7.2, ds_8⟩ ⟨Nat.le_of_ble_eq_true rfl, Nat.le_of_ble_eq_true rfl⟩) ⟨fun a U g mk q => by obtain ⟨q0, q1, qP, qK, qD⟩ := q; exact ⟨q0, q1, qP, va_K.moved (u := U) (U := U.calling g mk a) (Vm.Alike.refl U.vm) qK, qD⟩, va_recv hKc hPc (ci := 7) (q0 := 0) rfl rfl, fun U hU hW => ⟨rfl, by rw [hU], by rw [hU]; exact hPc, va_K.moved hW.alike hKc, hDc.weaken (fun _ _ _ _ => trivial)⟩⟩ rfl rfl hl.1 rfl (lv_room (Nat.le_of_ble_eq_true rfl)) dX7_isNumber_77 ⟨Nat.le_of_ble_eq_true rfl, Nat.le_of_ble_eq_true rfl⟩) hS (fun q _ h => hFc q h) hFc (fun r6 u t H1 locs ht hvm hw hB hz1 hk1 hS => ?_)
        have hw : r6 = u := hw.symm
        subst hw
        obtain ⟨hr9, hP1, hD1⟩ := hB
        rw [ht] at hP1
        obtain ⟨hP, hD⟩ := va_join (wr := [(a_text, .inl (k_a_text, 900, .inl f_a_text))]) (w1 := [(o, .inr (7, [.int v_length, .int 2, .int v_start, .ref o_into, .ref a_text, .int v_next, .int v_token, .int v_start, .int v3, .ref a_nameStart, .ref a_nameEnd, .int v_hasElse, .int v_hasLeast, .int v_hasFeel]))]) hP hD [0] [1] rfl rfl (by decide) (by decide) hk1 hFc hP1 hD1
        clear hPc hDc hKc hFc hP1 hD1 hk1 hz1
        generalize H1 = H at hP hS ⊢
        have hP : va_P (dC, dI) vwCl [(a_text, .inl (k_a_text, 900, .inl f_a_text)), (o, .inr (7, [.int v_length, .int 2, .int v_start, .ref o_into, .ref a_text, .int v_next, .int v_token, .int v_start, .int v3, .ref a_nameStart, .ref a_nameEnd, .int v_hasElse, .int v_hasLeast, .int v_hasFeel]))] H := hP
        have hD : va_D A [(a_text, .inl (k_a_text, 900, .inl f_a_text)), (o, .inr (7, [.int v_length, .int 2, .int v_start, .ref o_into, .ref a_text, .int v_next, .int v_token, .int v_start, .int v3, .ref a_nameStart, .ref a_nameEnd, .int v_hasElse, .int v_hasLeast, .int v_hasFeel]))] := hD
        refine W.widen (k := 0) (n := 0) (by decide) (by decide) ?_
        subst hr9
        refine lv_if_eq (tgt := 87) hx hb dX7_isNumber_80 (by decide) (fun _ => ?_) (fun cz => absurd cz (by decide))
        refine lv_iconst (v := 0) hx hb dX7_isNumber_87 (by decide) ?_
        have hP9 := hP.sub (ws' := [(o, .inr (7, [.int v_length, .int 2, .int v_start, .ref o_into, .ref a_text, .int v_next, .int v_token, .int v_start, .int v3, .ref a_nameStart, .ref a_nameEnd, .int v_hasElse, .int v_hasLeast, .int v_hasFeel])), (a_text, .inl (k_a_text, 900, .inl f_a_text))]) [1, 0] rfl
        have hD9 := hD.sub (ws' := [(o, .inr (7, [.int v_length, .int 2, .int v_start, .ref o_into, .ref a_text, .int v_next, .int v_token, .int v_start, .int v3, .ref a_nameStart, .ref a_nameEnd, .int v_hasElse, .int v_hasLeast, .int v_hasFeel])), (a_text, .inl (k_a_text, 900, .inl f_a_text))]) [1, 0] (by decide) rfl
        have bp1 := i32_rng p1
        exact W.zret (v := 0) hx hb hr rfl (fun t ht hW => ⟨⟨0, 0, rfl, rfl, 2, v_start, v3, (Or.inl rfl), by rw [ht]; exact hP9, hD9⟩, hS.F ht⟩) hS.2.2 dX7_isNumber_88
      · have c59 := i32_nlt c5 rfl rfl
        refine lv_aload_n hx hb dX7_isNumber_67 rfl (lv_at hl 1 rfl) ?_
        refine va_get (D := (dC, dI)) (ci := 7) (v := .int v3) (C := RX7) (T := TX7) (N := 14) hx hb hts iw_X7_isNumber_X7 hown hK hP 0 rfl rfl 8 (by decide) (hts _ kk_X7_isNumber_1) (fun _ h9 => h9) rfl dX7_isNumber_68 ?_
        refine lv_iload_n hx hb dX7_isNumber_71 rfl (lv_at hl 3 rfl) ?_
        have bp1 := i32_rng p1
        refine lv_icmp_le (tgt := 83) hx hb dX7_isNumber_72 (by decide) (fun c7 => ?_) (fun c7 => ?_)
        · have c79 := i32_le c7 rfl rfl
          refine lv_iconst (v := 1) hx hb dX7_isNumber_83 (by decide) ?_
          refine lv_goto (tgt := 88) hx hb dX7_isNumber_84 (by decide) ?_
          have hP9 := hP.sub (ws' := [(o, .inr (7, [.int v_length, .int v_faultKind, .int v_faultPlace, .ref o_into, .ref a_text, .int v_next, .int v_token, .int v_start, .int v3, .ref a_nameStart, .ref a_nameEnd, .int v_hasElse, .int v_hasLeast, .int v_hasFeel])), (a_text, .inl (k_a_text, 900, .inl f_a_text))]) [0, 1] rfl
          have hD9 := hD.sub (ws' := [(o, .inr (7, [.int v_length, .int v_faultKind, .int v_faultPlace, .ref o_into, .ref a_text, .int v_next, .int v_token, .int v_start, .int v3, .ref a_nameStart, .ref a_nameEnd, .int v_hasElse, .int v_hasLeast, .int v_hasFeel])), (a_text, .inl (k_a_text, 900, .inl f_a_text))]) [0, 1] (by decide) rfl
          exact W.zret (v := 1) hx hb hr rfl (fun t ht hW => ⟨⟨1, 1, rfl, rfl, v_faultKind, v_faultPlace, v3, (Or.inr (⟨rfl, (by first | assumption | omega), (by first | assumption | omega)⟩)), by rw [ht]; exact hP9, hD9⟩, hS.F ht⟩) hS.2.2 dX7_isNumber_88
        · have c79 := i32_nle c7 rfl rfl
          refine lv_aload_n hx hb dX7_isNumber_75 rfl (lv_at hl 1 rfl) ?_
          refine lv_iconst (v := 2) hx hb dX7_isNumber_76 (by decide) ?_
          have hPc := hP.sub (ws' := [(o, .inr (7, [.int v_length, .int v_faultKind, .int v_faultPlace, .ref o_into, .ref a_text, .int v_next, .int v_token, .int v_start, .int v3, .ref a_nameStart, .ref a_nameEnd, .int v_hasElse, .int v_hasLeast, .int v_hasFeel]))]) [0] rfl
          have hDc := hD.sub (ws' := [(o, .inr (7, [.int v_length, .int v_faultKind, .int v_faultPlace, .ref o_into, .ref a_text, .int v_next, .int v_token, .int v_start, .int v3, .ref a_nameStart, .ref a_nameEnd, .int v_hasElse, .int v_hasLeast, .int v_hasFeel]))]) [0] (by decide) rfl
          have hKc := hK.sub (tys' := []) [] rfl
          have hFc := va_free (wc := [(o, .inr (7, [.int v_length, .int v_faultKind, .int v_faultPlace, .ref o_into, .ref a_text, .int v_next, .int v_token, .int v_start, .int v3, .ref a_nameStart, .ref a_nameEnd, .int v_hasElse, .int v_hasLeast, .int v_hasFeel]))]) hD hS hA [0] rfl
          refine va_calli (va_runV (As := [.int 2]) (rest := []) ⟨hx, hb, hml, hown, hts⟩ (ct_X7_fail l dC dI o 2 v_length v_faultKind v_faultPlace o_into a_text v_next v_token v_start v3 a_nameStart a_nameEnd v_hasElse v_hasLeast v_hasFeel H.size) (cwV 1 hts gX7_isNumber_X7_fail rfl rfl rfl ⟨rfl, cn_X7.1, cn_X7.2, ds_8⟩ ⟨Nat.le_of_ble_eq_true rfl, Nat.le_of_ble_eq_true rfl⟩) ⟨fun a U g mk q => by obtain ⟨q0, q1, qP, qK, qD⟩ := q; exact ⟨q0, q1, qP, va_K.moved (u := U) (U := U.calling g mk a) (Vm.Alike.refl U.vm) qK, qD⟩, va_recv hKc hPc (ci := 7) (q0 := 0) rfl rfl, fun U hU hW => ⟨rfl, by rw [hU], by rw [hU]; exact hPc, va_K.moved hW.alike hKc, hDc.weaken (fun _ _ _ _ => trivial)⟩⟩ rfl rfl hl.1 rfl (lv_room (Nat.le_of_ble_eq_true rfl)) dX7_isNumber_77 ⟨Nat.le_of_ble_eq_true rfl, Nat.le_of_ble_eq_true rfl⟩) hS (fun q _ h => hFc q h) hFc (fun r8 u t H1 locs ht hvm hw hB hz1 hk1 hS => ?_)
          have hw : r8 = u := hw.symm
          subst hw
          obtain ⟨hr9, hP1, hD1⟩ := hB
          rw [ht] at hP1
          obtain ⟨hP, hD⟩ := va_join (wr := [(a_text, .inl (k_a_text, 900, .inl f_a_text))]) (w1 := [(o, .inr (7, [.int v_length, .int 2, .int v_start, .ref o_into, .ref a_text, .int v_next, .int v_token, .int v_start, .int v3, .ref a_nameStart, .ref a_nameEnd, .int v_hasElse, .int v_hasLeast, .int v_hasFeel]))]) hP hD [0] [1] rfl rfl (by decide) (by decide) hk1 hFc hP1 hD1
          clear hPc hDc hKc hFc hP1 hD1 hk1 hz1
          generalize H1 = H at hP hS ⊢
          have hP : va_P (dC, dI) vwCl [(a_text, .inl (k_a_text, 900, .inl f_a_text)), (o, .inr (7, [.int v_length, .int 2, .int v_start, .ref o_into, .ref a_text, .int v_next, .int v_token, .int v_start, .int v3, .ref a_nameStart, .ref a_nameEnd, .int v_hasElse, .int v_hasLeast, .int v_hasFeel]))] H := hP
          have hD : va_D A [(a_text, .inl (k_a_text, 900, .inl f_a_text)), (o, .inr (7, [.int v_length, .int 2, .int v_start, .ref o_into, .ref a_text, .int v_next, .int v_token, .int v_start, .int v3, .ref a_nameStart, .ref a_nameEnd, .int v_hasElse, .int v_hasLeast, .int v_hasFeel]))] := hD
          refine W.widen (k := 0) (n := 0) (by decide) (by decide) ?_
          subst hr9
          refine lv_if_eq (tgt := 87) hx hb dX7_isNumber_80 (by decide) (fun _ => ?_) (fun cz => absurd cz (by decide))
          refine lv_iconst (v := 0) hx hb dX7_isNumber_87 (by decide) ?_
          have hP9 := hP.sub (ws' := [(o, .inr (7, [.int v_length, .int 2, .int v_start, .ref o_into, .ref a_text, .int v_next, .int v_token, .int v_start, .int v3, .ref a_nameStart, .ref a_nameEnd, .int v_hasElse, .int v_hasLeast, .int v_hasFeel])), (a_text, .inl (k_a_text, 900, .inl f_a_text))]) [1, 0] rfl
          have hD9 := hD.sub (ws' := [(o, .inr (7, [.int v_length, .int 2, .int v_start, .ref o_into, .ref a_text, .int v_next, .int v_token, .int v_start, .int v3, .ref a_nameStart, .ref a_nameEnd, .int v_hasElse, .int v_hasLeast, .int v_hasFeel])), (a_text, .inl (k_a_text, 900, .inl f_a_text))]) [1, 0] (by decide) rfl
          exact W.zret (v := 0) hx hb hr rfl (fun t ht hW => ⟨⟨0, 0, rfl, rfl, 2, v_start, v3, (Or.inl rfl), by rw [ht]; exact hP9, hD9⟩, hS.F ht⟩) hS.2.2 dX7_isNumber_88
    · have c49 := i32_nle c4 rfl rfl
      refine lv_aload_n hx hb dX7_isNumber_32 rfl (lv_at hl 1 rfl) ?_
      refine lv_aload_n hx hb dX7_isNumber_33 rfl (lv_at hl 1 rfl) ?_
      refine va_get (D := (dC, dI)) (ci := 7) (v := .int v3) (C := RX7) (T := TX7) (N := 14) hx hb hts iw_X7_isNumber_X7 hown hK hP 0 rfl rfl 8 (by decide) (hts _ kk_X7_isNumber_1) (fun _ h9 => h9) rfl dX7_isNumber_34 ?_
      refine lv_bipush (v := 10) hx hb dX7_isNumber_37 (by decide) ?_
      refine lv_imul hx hb dX7_isNumber_39 ?_
      refine lv_topi (fun x9 ex9 => ?_)
      refine lv_aload_n hx hb dX7_isNumber_40 rfl (lv_at hl 1 rfl) ?_
      refine va_get (D := (dC, dI)) (ci := 7) (v := .ref a_text) (C := RX7) (T := TX7) (N := 14) hx hb hts iw_X7_isNumber_X7 hown hK hP 0 rfl rfl 4 (by decide) (hts _ kk_X7_isNumber_4) (fun _ h9 => h9) rfl dX7_isNumber_41 ?_
      refine lv_iload_n hx hb dX7_isNumber_44 rfl (lv_at hl 0 rfl) ?_
      refine va_bald hx hb hK hP 1 0 rfl rfl (vq_in v2 900 (by omega)) dX7_isNumber_45 ?_
      refine lv_topi (fun x10 ex10 => ?_)
      refine lv_iadd hx hb dX7_isNumber_46 ?_
      refine lv_topi (fun x11 ex11 => ?_)
      refine lv_bipush (v := 48) hx hb dX7_isNumber_47 (by decide) ?_
      refine lv_isub hx hb dX7_isNumber_49 ?_
      refine lv_topi (fun x12 ex12 => ?_)
      refine va_put (D := (dC, dI)) (ci := 7) (v := .int x12) (ty := .int) (C := RX7) (T := TX7) (N := 14) hx hb hts iw_X7_isNumber_X7 tyX7 tyX7_ok nmX7 hown hK hP hD hS 0 rfl rfl 8 (by decide) (hts _ kk_X7_isNumber_1) (fun _ h9 => h9) rfl (by decide +kernel) rfl rfl (Nat.le_of_ble_eq_true rfl) dX7_isNumber_50 (fun H locs hP hD hS => ?_)
      have hP : va_P (dC, dI) vwCl [(o, .inr (7, [.int v_length, .int v_faultKind, .int v_faultPlace, .ref o_into, .ref a_text, .int v_next, .int v_token, .int v_start, .int x12, .ref a_nameStart, .ref a_nameEnd, .int v_hasElse, .int v_hasLeast, .int v_hasFeel])), (a_text, .inl (k_a_text, 900, .inl f_a_text))] H := hP
      have hD : va_D A [(o, .inr (7, [.int v_length, .int v_faultKind, .int v_faultPlace, .ref o_into, .ref a_text, .int v_next, .int v_token, .int v_start, .int x12, .ref a_nameStart, .ref a_nameEnd, .int v_hasElse, .int v_hasLeast, .int v_hasFeel])), (a_text, .inl (k_a_text, 900, .inl f_a_text))] := hD
      obtain ⟨x13, ex13⟩ : ∃ z : Int32, v2 + Int32.ofInt 1 = z := ⟨_, rfl⟩
      have tx13 := i32_inc ex13 rfl (by decide) (by omega) (by omega)
      refine lv_iinc (v := x13) (lv' := [(3, .int x13), (0, .ref o), (1, .int p0), (2, .int p1)]) hx hb dX7_isNumber_53 hl (k := 0) rfl ex13 (by decide) rfl (fun ls hl => ?_)
      refine lv_goto (tgt := 24) hx hb dX7_isNumber_56 (by decide) ?_
      have bx12 := i32_rng x12
      have bv3 := i32_rng v3
      exact ih24 _ _ _ _ (by omega) ⟨x13, x12, rfl, (iv.m (by omega)), hP, hD, hS, lv_sub hl [0, 1, 2, 3] rfl⟩
  · have c19 := i32_ne c1 rfl (show (2 : Int32).toInt = 2 by decide)
    refine lv_aload_n hx hb dX7_isNumber_8 rfl (lv_at hl 0 rfl) ?_
    refine lv_iconst (v := 1) hx hb dX7_isNumber_9 (by decide) ?_
    have hPc := hP.sub (ws' := [(o, .inr (7, [.int v_length, .int v_faultKind, .int v_faultPlace, .ref o_into, .ref a_text, .int v_next, .int v_token, .int v_start, .int v_value, .ref a_nameStart, .ref a_nameEnd, .int v_hasElse, .int v_hasLeast, .int v_hasFeel]))]) [0] rfl
    have hDc := hD.sub (ws' := [(o, .inr (7, [.int v_length, .int v_faultKind, .int v_faultPlace, .ref o_into, .ref a_text, .int v_next, .int v_token, .int v_start, .int v_value, .ref a_nameStart, .ref a_nameEnd, .int v_hasElse, .int v_hasLeast, .int v_hasFeel]))]) [0] (by decide) rfl
    have hKc := hK.sub (tys' := []) [] rfl
    have hFc := va_free (wc := [(o, .inr (7, [.int v_length, .int v_faultKind, .int v_faultPlace, .ref o_into, .ref a_text, .int v_next, .int v_token, .int v_start, .int v_value, .ref a_nameStart, .ref a_nameEnd, .int v_hasElse, .int v_hasLeast, .int v_hasFeel]))]) hD hS hA [0] rfl
    refine va_calli (va_runV (As := [.int 1]) (rest := []) ⟨hx, hb, hml, hown, hts⟩ (ct_X7_fail l dC dI o 1 v_length v_faultKind v_faultPlace o_into a_text v_next v_token v_start v_value a_nameStart a_nameEnd v_hasElse v_hasLeast v_hasFeel s.heap.size) (cwV 1 hts gX7_isNumber_X7_fail rfl rfl rfl ⟨rfl, cn_X7.1, cn_X7.2, ds_8⟩ ⟨Nat.le_of_ble_eq_true rfl, Nat.le_of_ble_eq_true rfl⟩) ⟨fun a U g mk q => by obtain ⟨q0, q1, qP, qK, qD⟩ := q; exact ⟨q0, q1, qP, va_K.moved (u := U) (U := U.calling g mk a) (Vm.Alike.refl U.vm) qK, qD⟩, va_recv hKc hPc (ci := 7) (q0 := 0) rfl rfl, fun U hU hW => ⟨rfl, by rw [hU], by rw [hU]; exact hPc, va_K.moved hW.alike hKc, hDc.weaken (fun _ _ _ _ => trivial)⟩⟩ rfl rfl hl.1 rfl (lv_room (Nat.le_of_ble_eq_true rfl)) dX7_isNumber_10 ⟨Nat.le_of_ble_eq_true rfl, Nat.le_of_ble_eq_true rfl⟩) hS (fun q _ h => hFc q h) hFc (fun r14 u t H1 locs ht hvm hw hB hz1 hk1 hS => ?_)
    have hw : r14 = u := hw.symm
    subst hw
    obtain ⟨hr9, hP1, hD1⟩ := hB
    rw [ht] at hP1
    obtain ⟨hP, hD⟩ := va_join (wr := [(a_text, .inl (k_a_text, 900, .inl f_a_text))]) (w1 := [(o, .inr (7, [.int v_length, .int 1, .int v_start, .ref o_into, .ref a_text, .int v_next, .int v_token, .int v_start, .int v_value, .ref a_nameStart, .ref a_nameEnd, .int v_hasElse, .int v_hasLeast, .int v_hasFeel]))]) hP hD [0] [1] rfl rfl (by decide) (by decide) hk1 hFc hP1 hD1
    clear hPc hDc hKc hFc hP1 hD1 hk1 hz1
    generalize H1 = H at hP hS ⊢
    have hP : va_P (dC, dI) vwCl [(a_text, .inl (k_a_text, 900, .inl f_a_text)), (o, .inr (7, [.int v_length, .int 1, .int v_start, .ref o_into, .ref a_text, .int v_next, .int v_token, .int v_start, .int v_value, .ref a_nameStart, .ref a_nameEnd, .int v_hasElse, .int v_hasLeast, .int v_hasFeel]))] H := hP
    have hD : va_D A [(a_text, .inl (k_a_text, 900, .inl f_a_text)), (o, .inr (7, [.int v_length, .int 1, .int v_start, .ref o_into, .ref a_text, .int v_next, .int v_token, .int v_start, .int v_value, .ref a_nameStart, .ref a_nameEnd, .int v_hasElse, .int v_hasLeast, .int v_hasFeel]))] := hD
    refine W.widen (k := 0) (n := 0) (by decide) (by decide) ?_
    subst hr9
    have hP9 := hP.sub (ws' := [(o, .inr (7, [.int v_length, .int 1, .int v_start, .ref o_into, .ref a_text, .int v_next, .int v_token, .int v_start, .int v_value, .ref a_nameStart, .ref a_nameEnd, .int v_hasElse, .int v_hasLeast, .int v_hasFeel])), (a_text, .inl (k_a_text, 900, .inl f_a_text))]) [1, 0] rfl
    have hD9 := hD.sub (ws' := [(o, .inr (7, [.int v_length, .int 1, .int v_start, .ref o_into, .ref a_text, .int v_next, .int v_token, .int v_start, .int v_value, .ref a_nameStart, .ref a_nameEnd, .int v_hasElse, .int v_hasLeast, .int v_hasFeel])), (a_text, .inl (k_a_text, 900, .inl f_a_text))]) [1, 0] (by decide) rfl
    have bp0 := i32_rng p0
    have bp1 := i32_rng p1
    exact W.zret (v := 0) hx hb hr rfl (fun t ht hW => ⟨⟨0, 0, rfl, rfl, 1, v_start, v_value, (Or.inl rfl), by rw [ht]; exact hP9, hD9⟩, hS.F ht⟩) hS.2.2 dX7_isNumber_13

set_option maxHeartbeats 4000000 in
set_option maxRecDepth 100000 in
theorem ct_X7_passSemicolon (l : Launch) (dC : Nat → ClassId) (dI : Nat → Nat → Nat) (o : Nat) (v_length : Int32) (v_faultKind : Int32) (v_faultPlace : Int32) (o_into : Nat) (a_text : Nat) (v_next : Int32) (v_token : Int32) (v_start : Int32) (v_value : Int32) (a_nameStart : Nat) (a_nameEnd : Nat) (v_hasElse : Int32) (v_hasLeast : Int32) (v_hasFeel : Int32) (k_a_text : ClassId) (f_a_text : Nat → Int32) (hv_length : iv v_length 0 900) (hv_next : iv v_next 0 900) (hv_token : iv v_token 0 5) (hv_start : iv v_start 0 900) (sz : Nat) : Met l yX7_passSemicolon wsX7_passSemicolon ({ frames := 3, cells := 0, slots := 0, locals := 61 }) (va_Pc [.ref o] (fun U => U.heap.size = sz ∧ va_P (dC, dI) vwCl [(o, .inr (7, [.int v_length, .int v_faultKind, .int v_faultPlace, .ref o_into, .ref a_text, .int v_next, .int v_token, .int v_start, .int v_value, .ref a_nameStart, .ref a_nameEnd, .int v_hasElse, .int v_hasLeast, .int v_hasFeel])), (a_text, .inl (k_a_text, 900, .inl f_a_text))] U.heap ∧ va_K (dC, dI) vwCl [(k_a_text, .byte)] U ∧ va_D (fun _ => True) [(o, .inr (7, [.int v_length, .int v_faultKind, .int v_faultPlace, .ref o_into, .ref a_text, .int v_next, .int v_token, .int v_start, .int v_value, .ref a_nameStart, .ref a_nameEnd, .int v_hasElse, .int v_hasLeast, .int v_hasFeel])), (a_text, .inl (k_a_text, 900, .inl f_a_text))])) (va_Qi (fun (r u : Int32) => u = r) (fun (r : Int32) t => ∃ (e_v_faultKind : Int32) (e_v_faultPlace : Int32) (e_v_next : Int32) (e_v_token : Int32) (e_v_start : Int32), iv e_v_next 0 900 ∧ iv e_v_token 0 5 ∧ iv e_v_start 0 900 ∧ ((r = 0) ∨ (r = 1)) ∧ va_P (dC, dI) vwCl [(o, .inr (7, [.int v_length, .int e_v_faultKind, .int e_v_faultPlace, .ref o_into, .ref a_text, .int e_v_next, .int e_v_token, .int e_v_start, .int v_value, .ref a_nameStart, .ref a_nameEnd, .int v_hasElse, .int v_hasLeast, .int v_hasFeel])), (a_text, .inl (k_a_text, 900, .inl f_a_text))] t.heap ∧ va_D (va_A [(o, .inr (7, [.int v_length, .int v_faultKind, .int v_faultPlace, .ref o_into, .ref a_text, .int v_next, .int v_token, .int v_start, .int v_value, .ref a_nameStart, .ref a_nameEnd, .int v_hasElse, .int v_hasLeast, .int v_hasFeel])), (a_text, .inl (k_a_text, 900, .inl f_a_text))] sz) [(o, .inr (7, [.int v_length, .int e_v_faultKind, .int e_v_faultPlace, .ref o_into, .ref a_text, .int e_v_next, .int e_v_token, .int e_v_start, .int v_value, .ref a_nameStart, .ref a_nameEnd, .int v_hasElse, .int v_hasLeast, .int v_hasFeel])), (a_text, .inl (k_a_text, 900, .inl f_a_text))]) (va_A [(o, .inr (7, [.int v_length, .int v_faultKind, .int v_faultPlace, .ref o_into, .ref a_text, .int v_next, .int v_token, .int v_start, .int v_value, .ref a_nameStart, .ref a_nameEnd, .int v_hasElse, .int v_hasLeast, .int v_hasFeel])), (a_text, .inl (k_a_text, 900, .inl f_a_text))] sz)) 0 0 (va_A [(o, .inr (7, [.int v_length, .int v_faultKind, .int v_faultPlace, .ref o_into, .ref a_text, .int v_next, .int v_token, .int v_start, .int v_value, .ref a_nameStart, .ref a_nameEnd, .int v_hasElse, .int v_hasLeast, .int v_hasFeel])), (a_text, .inl (k_a_text, 900, .inl f_a_text))] sz) := by
  refine Met.ofW (cc := cX7_passSemicolon) (maxL := 1) (ret := (some .boolean)) pn_X7 rfl ?_
  intro p e s m args below meth c s₁ B hml hv
  obtain ⟨rfl, hsz, hP, hK, hD0⟩ := hv
  have hx := B.exec
  have hb := B.bytes
  have hr := B.returns
  have hts := atoms_spec (ws := wsX7_passSemicolon) B.pre
  have hown : s.vm.findClass RX7 = some m.cls := findClass_of_methodNamed B.named
  have hlocks := B.notSynchronized
  subst hsz
  have hD := hD0.self (sz := s.heap.size)
  generalize hAe : va_A [(o, .inr (7, [.int v_length, .int v_faultKind, .int v_faultPlace, .ref o_into, .ref a_text, .int v_next, .int v_token, .int v_start, .int v_value, .ref a_nameStart, .ref a_nameEnd, .int v_hasElse, .int v_hasLeast, .int v_hasFeel])), (a_text, .inl (k_a_text, 900, .inl f_a_text))] s.heap.size = A at hD ⊢
  have hA : ∀ q : Nat, s.heap.size ≤ q → A q := fun q h => by rw [← hAe]; exact Or.inr h
  have hS : va_S A s.heap s.heap [] := va_S.rf
  have hP : va_P (dC, dI) vwCl [(o, .inr (7, [.int v_length, .int v_faultKind, .int v_faultPlace, .ref o_into, .ref a_text, .int v_next, .int v_token, .int v_start, .int v_value, .ref a_nameStart, .ref a_nameEnd, .int v_hasElse, .int v_hasLeast, .int v_hasFeel])), (a_text, .inl (k_a_text, 900, .inl f_a_text))] s.heap := hP
  have hl := lv_entry ([.ref o]) (n := 1) (Nat.le_of_ble_eq_true rfl)
  rw [lg_entry_eq]
  generalize (lg_sl ([.ref o]) ++ List.replicate (1 - (lg_sl ([.ref o])).length) Slot.unset).toArray = ls at hl ⊢
  have hl : lv_has ls 1 [(0, .ref o)] := hl
  refine lv_aload_n hx hb dX7_passSemicolon_0 rfl (lv_at hl 0 rfl) ?_
  refine va_get (D := (dC, dI)) (ci := 7) (v := .int v_token) (C := RX7) (T := TX7) (N := 14) hx hb hts iw_X7_passSemicolon_X7 hown hK hP 0 rfl rfl 6 (by decide) (hts _ kk_X7_passSemicolon_0) (fun _ h9 => h9) rfl dX7_passSemicolon_1 ?_
  refine lv_iconst (v := 3) hx hb dX7_passSemicolon_4 (by decide) ?_
  have bv_token := hv_token.u
  refine lv_icmp_eq (tgt := 14) hx hb dX7_passSemicolon_5 (by decide) (fun c1 => ?_) (fun c1 => ?_)
  · have c19 := i32_eq c1 rfl (show (3 : Int32).toInt = 3 by decide)
    refine lv_aload_n hx hb dX7_passSemicolon_14 rfl (lv_at hl 0 rfl) ?_
    have hPc := hP.sub (ws' := [(o, .inr (7, [.int v_length, .int v_faultKind, .int v_faultPlace, .ref o_into, .ref a_text, .int v_next, .int v_token, .int v_start, .int v_value, .ref a_nameStart, .ref a_nameEnd, .int v_hasElse, .int v_hasLeast, .int v_hasFeel])), (a_text, .inl (k_a_text, 900, .inl f_a_text))]) [0, 1] rfl
    have hDc := hD.sub (ws' := [(o, .inr (7, [.int v_length, .int v_faultKind, .int v_faultPlace, .ref o_into, .ref a_text, .int v_next, .int v_token, .int v_start, .int v_value, .ref a_nameStart, .ref a_nameEnd, .int v_hasElse, .int v_hasLeast, .int v_hasFeel])), (a_text, .inl (k_a_text, 900, .inl f_a_text))]) [0, 1] (by decide) rfl
    have hKc := hK.sub (tys' := [(k_a_text, .byte)]) [0] rfl
    have hFc := va_free (wc := [(o, .inr (7, [.int v_length, .int v_faultKind, .int v_faultPlace, .ref o_into, .ref a_text, .int v_next, .int v_token, .int v_start, .int v_value, .ref a_nameStart, .ref a_nameEnd, .int v_hasElse, .int v_hasLeast, .int v_hasFeel])), (a_text, .inl (k_a_text, 900, .inl f_a_text))]) hD hS hA [0, 1] rfl
    refine va_callv (va_runV (As := []) (rest := []) ⟨hx, hb, hml, hown, hts⟩ (ct_X7_advance l dC dI o v_length v_faultKind v_faultPlace o_into a_text v_next v_token v_start v_value a_nameStart a_nameEnd v_hasElse v_hasLeast v_hasFeel k_a_text f_a_text hv_length hv_next s.heap.size) (cwV 0 hts gX7_passSemicolon_X7_advance rfl rfl rfl ⟨rfl, cn_X7.1, cn_X7.2, ds_7⟩ ⟨Nat.le_of_ble_eq_true rfl, Nat.le_of_ble_eq_true rfl⟩) ⟨fun a U g mk q => by obtain ⟨q0, q1, qP, qK, qD⟩ := q; exact ⟨q0, q1, qP, va_K.moved (u := U) (U := U.calling g mk a) (Vm.Alike.refl U.vm) qK, qD⟩, va_recv hKc hPc (ci := 7) (q0 := 0) rfl rfl, fun U hU hW => ⟨rfl, by rw [hU], by rw [hU]; exact hPc, va_K.moved hW.alike hKc, hDc.weaken (fun _ _ _ _ => trivial)⟩⟩ rfl rfl hl.1 rfl (lv_room (Nat.le_of_ble_eq_true rfl)) dX7_passSemicolon_15 ⟨Nat.le_of_ble_eq_true rfl, Nat.le_of_ble_eq_true rfl⟩) hS (fun q _ h => hFc q h) hFc (fun u t H1 locs ht hvm hw hB hz1 hk1 hS => ?_)
    obtain ⟨v3, v4, v5, hv3, hv4, hv5, hP1, hD1⟩ := hB
    rw [ht] at hP1
    obtain ⟨hP, hD⟩ := va_join (wr := []) (w1 := [(o, .inr (7, [.int v_length, .int v_faultKind, .int v_faultPlace, .ref o_into, .ref a_text, .int v3, .int v4, .int v5, .int v_value, .ref a_nameStart, .ref a_nameEnd, .int v_hasElse, .int v_hasLeast, .int v_hasFeel])), (a_text, .inl (k_a_text, 900, .inl f_a_text))]) hP hD [0, 1] [] rfl rfl (by decide) (by decide) hk1 hFc hP1 hD1
    clear hPc hDc hKc hFc hP1 hD1 hk1 hz1
    generalize H1 = H at hP hS ⊢
    have hP : va_P (dC, dI) vwCl [(o, .inr (7, [.int v_length, .int v_faultKind, .int v_faultPlace, .ref o_into, .ref a_text, .int v3, .int v4, .int v5, .int v_value, .ref a_nameStart, .ref a_nameEnd, .int v_hasElse, .int v_hasLeast, .int v_hasFeel])), (a_text, .inl (k_a_text, 900, .inl f_a_text))] H := hP
    have hD : va_D A [(o, .inr (7, [.int v_length, .int v_faultKind, .int v_faultPlace, .ref o_into, .ref a_text, .int v3, .int v4, .int v5, .int v_value, .ref a_nameStart, .ref a_nameEnd, .int v_hasElse, .int v_hasLeast, .int v_hasFeel])), (a_text, .inl (k_a_text, 900, .inl f_a_text))] := hD
    refine W.widen (k := 0) (n := 0) (by decide) (by decide) ?_
    refine lv_iconst (v := 1) hx hb dX7_passSemicolon_18 (by decide) ?_
    have hP9 := hP.sub (ws' := [(o, .inr (7, [.int v_length, .int v_faultKind, .int v_faultPlace, .ref o_into, .ref a_text, .int v3, .int v4, .int v5, .int v_value, .ref a_nameStart, .ref a_nameEnd, .int v_hasElse, .int v_hasLeast, .int v_hasFeel])), (a_text, .inl (k_a_text, 900, .inl f_a_text))]) [0, 1] rfl
    have hD9 := hD.sub (ws' := [(o, .inr (7, [.int v_length, .int v_faultKind, .int v_faultPlace, .ref o_into, .ref a_text, .int v3, .int v4, .int v5, .int v_value, .ref a_nameStart, .ref a_nameEnd, .int v_hasElse, .int v_hasLeast, .int v_hasFeel])), (a_text, .inl (k_a_text, 900, .inl f_a_text))]) [0, 1] (by decide) rfl
    exact W.zret (v := 1) hx hb hr rfl (fun t ht hW => ⟨⟨1, 1, rfl, rfl, v_faultKind, v_faultPlace, v3, v4, v5, hv3, hv4, hv5, (Or.inr (rfl)), by rw [ht]; exact hP9, hD9⟩, hS.F ht⟩) hS.2.2 dX7_passSemicolon_19
  · have c19 := i32_ne c1 rfl (show (3 : Int32).toInt = 3 by decide)
    refine lv_aload_n hx hb dX7_passSemicolon_8 rfl (lv_at hl 0 rfl) ?_
    refine lv_iconst (v := 1) hx hb dX7_passSemicolon_9 (by decide) ?_
    have hPc := hP.sub (ws' := [(o, .inr (7, [.int v_length, .int v_faultKind, .int v_faultPlace, .ref o_into, .ref a_text, .int v_next, .int v_token, .int v_start, .int v_value, .ref a_nameStart, .ref a_nameEnd, .int v_hasElse, .int v_hasLeast, .int v_hasFeel]))]) [0] rfl
    have hDc := hD.sub (ws' := [(o, .inr (7, [.int v_length, .int v_faultKind, .int v_faultPlace, .ref o_into, .ref a_text, .int v_next, .int v_token, .int v_start, .int v_value, .ref a_nameStart, .ref a_nameEnd, .int v_hasElse, .int v_hasLeast, .int v_hasFeel]))]) [0] (by decide) rfl
    have hKc := hK.sub (tys' := []) [] rfl
    have hFc := va_free (wc := [(o, .inr (7, [.int v_length, .int v_faultKind, .int v_faultPlace, .ref o_into, .ref a_text, .int v_next, .int v_token, .int v_start, .int v_value, .ref a_nameStart, .ref a_nameEnd, .int v_hasElse, .int v_hasLeast, .int v_hasFeel]))]) hD hS hA [0] rfl
    refine va_calli (va_runV (As := [.int 1]) (rest := []) ⟨hx, hb, hml, hown, hts⟩ (ct_X7_fail l dC dI o 1 v_length v_faultKind v_faultPlace o_into a_text v_next v_token v_start v_value a_nameStart a_nameEnd v_hasElse v_hasLeast v_hasFeel s.heap.size) (cwV 1 hts gX7_passSemicolon_X7_fail rfl rfl rfl ⟨rfl, cn_X7.1, cn_X7.2, ds_8⟩ ⟨Nat.le_of_ble_eq_true rfl, Nat.le_of_ble_eq_true rfl⟩) ⟨fun a U g mk q => by obtain ⟨q0, q1, qP, qK, qD⟩ := q; exact ⟨q0, q1, qP, va_K.moved (u := U) (U := U.calling g mk a) (Vm.Alike.refl U.vm) qK, qD⟩, va_recv hKc hPc (ci := 7) (q0 := 0) rfl rfl, fun U hU hW => ⟨rfl, by rw [hU], by rw [hU]; exact hPc, va_K.moved hW.alike hKc, hDc.weaken (fun _ _ _ _ => trivial)⟩⟩ rfl rfl hl.1 rfl (lv_room (Nat.le_of_ble_eq_true rfl)) dX7_passSemicolon_10 ⟨Nat.le_of_ble_eq_true rfl, Nat.le_of_ble_eq_true rfl⟩) hS (fun q _ h => hFc q h) hFc (fun r6 u t H1 locs ht hvm hw hB hz1 hk1 hS => ?_)
    have hw : r6 = u := hw.symm
    subst hw
    obtain ⟨hr9, hP1, hD1⟩ := hB
    rw [ht] at hP1
    obtain ⟨hP, hD⟩ := va_join (wr := [(a_text, .inl (k_a_text, 900, .inl f_a_text))]) (w1 := [(o, .inr (7, [.int v_length, .int 1, .int v_start, .ref o_into, .ref a_text, .int v_next, .int v_token, .int v_start, .int v_value, .ref a_nameStart, .ref a_nameEnd, .int v_hasElse, .int v_hasLeast, .int v_hasFeel]))]) hP hD [0] [1] rfl rfl (by decide) (by decide) hk1 hFc hP1 hD1
    clear hPc hDc hKc hFc hP1 hD1 hk1 hz1
    generalize H1 = H at hP hS ⊢
    have hP : va_P (dC, dI) vwCl [(a_text, .inl (k_a_text, 900, .inl f_a_text)), (o, .inr (7, [.int v_length, .int 1, .int v_start, .ref o_into, .ref a_text, .int v_next, .int v_token, .int v_start, .int v_value, .ref a_nameStart, .ref a_nameEnd, .int v_hasElse, .int v_hasLeast, .int v_hasFeel]))] H := hP
    have hD : va_D A [(a_text, .inl (k_a_text, 900, .inl f_a_text)), (o, .inr (7, [.int v_length, .int 1, .int v_start, .ref o_into, .ref a_text, .int v_next, .int v_token, .int v_start, .int v_value, .ref a_nameStart, .ref a_nameEnd, .int v_hasElse, .int v_hasLeast, .int v_hasFeel]))] := hD
    refine W.widen (k := 0) (n := 0) (by decide) (by decide) ?_
    subst hr9
    have hP9 := hP.sub (ws' := [(o, .inr (7, [.int v_length, .int 1, .int v_start, .ref o_into, .ref a_text, .int v_next, .int v_token, .int v_start, .int v_value, .ref a_nameStart, .ref a_nameEnd, .int v_hasElse, .int v_hasLeast, .int v_hasFeel])), (a_text, .inl (k_a_text, 900, .inl f_a_text))]) [1, 0] rfl
    have hD9 := hD.sub (ws' := [(o, .inr (7, [.int v_length, .int 1, .int v_start, .ref o_into, .ref a_text, .int v_next, .int v_token, .int v_start, .int v_value, .ref a_nameStart, .ref a_nameEnd, .int v_hasElse, .int v_hasLeast, .int v_hasFeel])), (a_text, .inl (k_a_text, 900, .inl f_a_text))]) [1, 0] (by decide) rfl
    exact W.zret (v := 0) hx hb hr rfl (fun t ht hW => ⟨⟨0, 0, rfl, rfl, 1, v_start, v_next, v_token, v_start, hv_next, hv_token, hv_start, (Or.inl rfl), by rw [ht]; exact hP9, hD9⟩, hS.F ht⟩) hS.2.2 dX7_passSemicolon_13

set_option maxHeartbeats 4000000 in
set_option maxRecDepth 100000 in
theorem ct_X7_readWhole (l : Launch) (dC : Nat → ClassId) (dI : Nat → Nat → Nat) (o : Nat) (v_length : Int32) (v_faultKind : Int32) (v_faultPlace : Int32) (o_into : Nat) (a_text : Nat) (v_next : Int32) (v_token : Int32) (v_start : Int32) (v_value : Int32) (a_nameStart : Nat) (a_nameEnd : Nat) (v_hasElse : Int32) (v_hasLeast : Int32) (v_hasFeel : Int32) (into_v_signs : Int32) (into_v_works : Int32) (into_v_whole : Int32) (into_v_otherwise : Int32) (into_v_least : Int32) (into_v_rates : Int32) (into_a_brings : Nat) (into_a_costs : Nat) (into_a_chances : Nat) (into_a_rate : Nat) (into_a_mark : Nat) (k_a_text : ClassId) (f_a_text : Nat → Int32) (hv_length : iv v_length 0 900) (hv_next : iv v_next 0 900) (hv_token : iv v_token 0 5) (hv_start : iv v_start 0 900) (hinto_v_whole : iv into_v_whole 2 10) (sz : Nat) : Met l yX7_readWhole wsX7_readWhole ({ frames := 5, cells := 0, slots := 0, locals := 107 }) (va_Pc [.ref o] (fun U => U.heap.size = sz ∧ va_P (dC, dI) vwCl [(o, .inr (7, [.int v_length, .int v_faultKind, .int v_faultPlace, .ref o_into, .ref a_text, .int v_next, .int v_token, .int v_start, .int v_value, .ref a_nameStart, .ref a_nameEnd, .int v_hasElse, .int v_hasLeast, .int v_hasFeel])), (o_into, .inr (3, [.int into_v_signs, .int into_v_works, .int into_v_whole, .int into_v_otherwise, .int into_v_least, .int into_v_rates, .ref into_a_brings, .ref into_a_costs, .ref into_a_chances, .ref into_a_rate, .ref into_a_mark])), (a_text, .inl (k_a_text, 900, .inl f_a_text))] U.heap ∧ va_K (dC, dI) vwCl [(k_a_text, .byte)] U ∧ va_D (fun _ => True) [(o, .inr (7, [.int v_length, .int v_faultKind, .int v_faultPlace, .ref o_into, .ref a_text, .int v_next, .int v_token, .int v_start, .int v_value, .ref a_nameStart, .ref a_nameEnd, .int v_hasElse, .int v_hasLeast, .int v_hasFeel])), (o_into, .inr (3, [.int into_v_signs, .int into_v_works, .int into_v_whole, .int into_v_otherwise, .int into_v_least, .int into_v_rates, .ref into_a_brings, .ref into_a_costs, .ref into_a_chances, .ref into_a_rate, .ref into_a_mark])), (a_text, .inl (k_a_text, 900, .inl f_a_text))] ∧ st_c RX7 80 "whole" 5 st_fX7_80 (va_A [(o, .inr (7, [.int v_length, .int v_faultKind, .int v_faultPlace, .ref o_into, .ref a_text, .int v_next, .int v_token, .int v_start, .int v_value, .ref a_nameStart, .ref a_nameEnd, .int v_hasElse, .int v_hasLeast, .int v_hasFeel])), (o_into, .inr (3, [.int into_v_signs, .int into_v_works, .int into_v_whole, .int into_v_otherwise, .int into_v_least, .int into_v_rates, .ref into_a_brings, .ref into_a_costs, .ref into_a_chances, .ref into_a_rate, .ref into_a_mark])), (a_text, .inl (k_a_text, 900, .inl f_a_text))] sz) U U.heap)) (va_Qi (fun (r u : Int32) => u = r) (fun (r : Int32) t => ∃ (e_v_faultKind : Int32) (e_v_faultPlace : Int32) (e_v_next : Int32) (e_v_token : Int32) (e_v_start : Int32) (e_v_value : Int32) (e_into_v_whole : Int32), iv e_v_next 0 900 ∧ iv e_v_token 0 5 ∧ iv e_v_start 0 900 ∧ iv e_into_v_whole 2 10 ∧ ((r = 0) ∨ (r = 1)) ∧ va_P (dC, dI) vwCl [(o, .inr (7, [.int v_length, .int e_v_faultKind, .int e_v_faultPlace, .ref o_into, .ref a_text, .int e_v_next, .int e_v_token, .int e_v_start, .int e_v_value, .ref a_nameStart, .ref a_nameEnd, .int v_hasElse, .int v_hasLeast, .int v_hasFeel])), (o_into, .inr (3, [.int into_v_signs, .int into_v_works, .int e_into_v_whole, .int into_v_otherwise, .int into_v_least, .int into_v_rates, .ref into_a_brings, .ref into_a_costs, .ref into_a_chances, .ref into_a_rate, .ref into_a_mark])), (a_text, .inl (k_a_text, 900, .inl f_a_text))] t.heap ∧ va_D (va_A [(o, .inr (7, [.int v_length, .int v_faultKind, .int v_faultPlace, .ref o_into, .ref a_text, .int v_next, .int v_token, .int v_start, .int v_value, .ref a_nameStart, .ref a_nameEnd, .int v_hasElse, .int v_hasLeast, .int v_hasFeel])), (o_into, .inr (3, [.int into_v_signs, .int into_v_works, .int into_v_whole, .int into_v_otherwise, .int into_v_least, .int into_v_rates, .ref into_a_brings, .ref into_a_costs, .ref into_a_chances, .ref into_a_rate, .ref into_a_mark])), (a_text, .inl (k_a_text, 900, .inl f_a_text))] sz) [(o, .inr (7, [.int v_length, .int e_v_faultKind, .int e_v_faultPlace, .ref o_into, .ref a_text, .int e_v_next, .int e_v_token, .int e_v_start, .int e_v_value, .ref a_nameStart, .ref a_nameEnd, .int v_hasElse, .int v_hasLeast, .int v_hasFeel])), (o_into, .inr (3, [.int into_v_signs, .int into_v_works, .int e_into_v_whole, .int into_v_otherwise, .int into_v_least, .int into_v_rates, .ref into_a_brings, .ref into_a_costs, .ref into_a_chances, .ref into_a_rate, .ref into_a_mark])), (a_text, .inl (k_a_text, 900, .inl f_a_text))]) (va_A [(o, .inr (7, [.int v_length, .int v_faultKind, .int v_faultPlace, .ref o_into, .ref a_text, .int v_next, .int v_token, .int v_start, .int v_value, .ref a_nameStart, .ref a_nameEnd, .int v_hasElse, .int v_hasLeast, .int v_hasFeel])), (o_into, .inr (3, [.int into_v_signs, .int into_v_works, .int into_v_whole, .int into_v_otherwise, .int into_v_least, .int into_v_rates, .ref into_a_brings, .ref into_a_costs, .ref into_a_chances, .ref into_a_rate, .ref into_a_mark])), (a_text, .inl (k_a_text, 900, .inl f_a_text))] sz)) 0 0 (va_A [(o, .inr (7, [.int v_length, .int v_faultKind, .int v_faultPlace, .ref o_into, .ref a_text, .int v_next, .int v_token, .int v_start, .int v_value, .ref a_nameStart, .ref a_nameEnd, .int v_hasElse, .int v_hasLeast, .int v_hasFeel])), (o_into, .inr (3, [.int into_v_signs, .int into_v_works, .int into_v_whole, .int into_v_otherwise, .int into_v_least, .int into_v_rates, .ref into_a_brings, .ref into_a_costs, .ref into_a_chances, .ref into_a_rate, .ref into_a_mark])), (a_text, .inl (k_a_text, 900, .inl f_a_text))] sz) := by
  refine Met.ofW (cc := cX7_readWhole) (maxL := 1) (ret := (some .boolean)) pn_X7 rfl ?_
  intro p e s m args below meth c s₁ B hml hv
  obtain ⟨rfl, hsz, hP, hK, hD0, hs80⟩ := hv
  have hx := B.exec
  have hb := B.bytes
  have hr := B.returns
  have hts := atoms_spec (ws := wsX7_readWhole) B.pre
  have hown : s.vm.findClass RX7 = some m.cls := findClass_of_methodNamed B.named
  have hlocks := B.notSynchronized
  subst hsz
  have hD := hD0.self (sz := s.heap.size)
  generalize hAe : va_A [(o, .inr (7, [.int v_length, .int v_faultKind, .int v_faultPlace, .ref o_into, .ref a_text, .int v_next, .int v_token, .int v_start, .int v_value, .ref a_nameStart, .ref a_nameEnd, .int v_hasElse, .int v_hasLeast, .int v_hasFeel])), (o_into, .inr (3, [.int into_v_signs, .int into_v_works, .int into_v_whole, .int into_v_otherwise, .int into_v_least, .int into_v_rates, .ref into_a_brings, .ref into_a_costs, .ref into_a_chances, .ref into_a_rate, .ref into_a_mark])), (a_text, .inl (k_a_text, 900, .inl f_a_text))] s.heap.size = A at hD hs80 ⊢
  have hA : ∀ q : Nat, s.heap.size ≤ q → A q := fun q h => by rw [← hAe]; exact Or.inr h
  have hS : va_S A s.heap s.heap [] := va_S.rf
  have hP : va_P (dC, dI) vwCl [(o, .inr (7, [.int v_length, .int v_faultKind, .int v_faultPlace, .ref o_into, .ref a_text, .int v_next, .int v_token, .int v_start, .int v_value, .ref a_nameStart, .ref a_nameEnd, .int v_hasElse, .int v_hasLeast, .int v_hasFeel])), (o_into, .inr (3, [.int into_v_signs, .int into_v_works, .int into_v_whole, .int into_v_otherwise, .int into_v_least, .int into_v_rates, .ref into_a_brings, .ref into_a_costs, .ref into_a_chances, .ref into_a_rate, .ref into_a_mark])), (a_text, .inl (k_a_text, 900, .inl f_a_text))] s.heap := hP
  have hl := lv_entry ([.ref o]) (n := 1) (Nat.le_of_ble_eq_true rfl)
  rw [lg_entry_eq]
  generalize (lg_sl ([.ref o]) ++ List.replicate (1 - (lg_sl ([.ref o])).length) Slot.unset).toArray = ls at hl ⊢
  have hl : lv_has ls 1 [(0, .ref o)] := hl
  refine lv_aload_n hx hb dX7_readWhole_0 rfl (lv_at hl 0 rfl) ?_
  obtain ⟨sq80, sv80, hvk80, hso80⟩ := id hs80
  refine va_ldcS hx hb hown hvk80 dX7_readWhole_1 ?_
  have hPc := hP.sub (ws' := [(o, .inr (7, [.int v_length, .int v_faultKind, .int v_faultPlace, .ref o_into, .ref a_text, .int v_next, .int v_token, .int v_start, .int v_value, .ref a_nameStart, .ref a_nameEnd, .int v_hasElse, .int v_hasLeast, .int v_hasFeel])), (a_text, .inl (k_a_text, 900, .inl f_a_text))]) [0, 2] rfl
  have hDc := hD.sub (ws' := [(o, .inr (7, [.int v_length, .int v_faultKind, .int v_faultPlace, .ref o_into, .ref a_text, .int v_next, .int v_token, .int v_start, .int v_value, .ref a_nameStart, .ref a_nameEnd, .int v_hasElse, .int v_hasLeast, .int v_hasFeel])), (a_text, .inl (k_a_text, 900, .inl f_a_text))]) [0, 2] (by decide) rfl
  have hKc := hK.sub (tys' := [(k_a_text, .byte)]) [0] rfl
  have hFc := va_free (wc := [(o, .inr (7, [.int v_length, .int v_faultKind, .int v_faultPlace, .ref o_into, .ref a_text, .int v_next, .int v_token, .int v_start, .int v_value, .ref a_nameStart, .ref a_nameEnd, .int v_hasElse, .int v_hasLeast, .int v_hasFeel])), (a_text, .inl (k_a_text, 900, .inl f_a_text))]) hD hS hA [0, 2] rfl
  refine va_calli (va_runV (As := [.ref sq80]) (rest := []) ⟨hx, hb, hml, hown, hts⟩ (ct_X7_isWord l dC dI o sq80 v_length v_faultKind v_faultPlace o_into a_text v_next v_token v_start v_value a_nameStart a_nameEnd v_hasElse v_hasLeast v_hasFeel k_a_text f_a_text sv80 5 st_fX7_80 hv_next hv_token hv_start s.heap.size) (cwV 1 hts gX7_readWhole_X7_isWord rfl rfl rfl ⟨rfl, cn_X7.1, cn_X7.2, ds_31⟩ ⟨Nat.le_of_ble_eq_true rfl, Nat.le_of_ble_eq_true rfl⟩) ⟨fun a U g mk q => by obtain ⟨q0, q1, qP, qK, qD, qst⟩ := q; exact ⟨q0, q1, qP, va_K.moved (u := U) (U := U.calling g mk a) (Vm.Alike.refl U.vm) qK, qD, st_ok.moved (u := U) (U := U.calling g mk a) (Vm.Alike.refl U.vm) qst⟩, va_recv hKc hPc (ci := 7) (q0 := 0) rfl rfl, fun U hU hW => ⟨rfl, by rw [hU], by rw [hU]; exact hPc, va_K.moved hW.alike hKc, hDc.weaken (fun _ _ _ _ => trivial), st_ok.callB hso80 hS hFc hU hW⟩⟩ rfl rfl hl.1 rfl (lv_room (Nat.le_of_ble_eq_true rfl)) dX7_readWhole_3 ⟨Nat.le_of_ble_eq_true rfl, Nat.le_of_ble_eq_true rfl⟩) hS (fun q _ h => hFc q h) hFc (fun r1 u t H1 locs ht hvm hw hB hz1 hk1 hS => ?_)
  have hw : r1 = u := hw.symm
  subst hw
  obtain ⟨w2, hP1, hD1⟩ := hB
  rw [ht] at hP1
  obtain ⟨hP, hD⟩ := va_join (wr := [(o_into, .inr (3, [.int into_v_signs, .int into_v_works, .int into_v_whole, .int into_v_otherwise, .int into_v_least, .int into_v_rates, .ref into_a_brings, .ref into_a_costs, .ref into_a_chances, .ref into_a_rate, .ref into_a_mark]))]) (w1 := [(o, .inr (7, [.int v_length, .int v_faultKind, .int v_faultPlace, .ref o_into, .ref a_text, .int v_next, .int v_token, .int v_start, .int v_value, .ref a_nameStart, .ref a_nameEnd, .int v_hasElse, .int v_hasLeast, .int v_hasFeel])), (a_text, .inl (k_a_text, 900, .inl f_a_text))]) hP hD [0, 2] [1] rfl rfl (by decide) (by decide) hk1 hFc hP1 hD1
  clear hPc hDc hKc hFc hP1 hD1 hk1 hz1
  generalize H1 = H at hP hS ⊢
  have hP : va_P (dC, dI) vwCl [(o_into, .inr (3, [.int into_v_signs, .int into_v_works, .int into_v_whole, .int into_v_otherwise, .int into_v_least, .int into_v_rates, .ref into_a_brings, .ref into_a_costs, .ref into_a_chances, .ref into_a_rate, .ref into_a_mark])), (o, .inr (7, [.int v_length, .int v_faultKind, .int v_faultPlace, .ref o_into, .ref a_text, .int v_next, .int v_token, .int v_start, .int v_value, .ref a_nameStart, .ref a_nameEnd, .int v_hasElse, .int v_hasLeast, .int v_hasFeel])), (a_text, .inl (k_a_text, 900, .inl f_a_text))] H := hP
  have hD : va_D A [(o_into, .inr (3, [.int into_v_signs, .int into_v_works, .int into_v_whole, .int into_v_otherwise, .int into_v_least, .int into_v_rates, .ref into_a_brings, .ref into_a_costs, .ref into_a_chances, .ref into_a_rate, .ref into_a_mark])), (o, .inr (7, [.int v_length, .int v_faultKind, .int v_faultPlace, .ref o_into, .ref a_text, .int v_next, .int v_token, .int v_start, .int v_value, .ref a_nameStart, .ref a_nameEnd, .int v_hasElse, .int v_hasLeast, .int v_hasFeel])), (a_text, .inl (k_a_text, 900, .inl f_a_text))] := hD
  refine W.widen (k := 0) (n := 0) (by decide) (by decide) ?_
  rcases w2 with hr9 | hr9
  · subst hr9
    refine lv_if_ne (tgt := 11) hx hb dX7_readWhole_6 (by decide) (fun cz => absurd cz (by decide)) (fun _ => ?_)
    refine lv_iconst (v := 1) hx hb dX7_readWhole_9 (by decide) ?_
    have hP9 := hP.sub (ws' := [(o, .inr (7, [.int v_length, .int v_faultKind, .int v_faultPlace, .ref o_into, .ref a_text, .int v_next, .int v_token, .int v_start, .int v_value, .ref a_nameStart, .ref a_nameEnd, .int v_hasElse, .int v_hasLeast, .int v_hasFeel])), (o_into, .inr (3, [.int into_v_signs, .int into_v_works, .int into_v_whole, .int into_v_otherwise, .int into_v_least, .int into_v_rates, .ref into_a_brings, .ref into_a_costs, .ref into_a_chances, .ref into_a_rate, .ref into_a_mark])), (a_text, .inl (k_a_text, 900, .inl f_a_text))]) [1, 0, 2] rfl
    have hD9 := hD.sub (ws' := [(o, .inr (7, [.int v_length, .int v_faultKind, .int v_faultPlace, .ref o_into, .ref a_text, .int v_next, .int v_token, .int v_start, .int v_value, .ref a_nameStart, .ref a_nameEnd, .int v_hasElse, .int v_hasLeast, .int v_hasFeel])), (o_into, .inr (3, [.int into_v_signs, .int into_v_works, .int into_v_whole, .int into_v_otherwise, .int into_v_least, .int into_v_rates, .ref into_a_brings, .ref into_a_costs, .ref into_a_chances, .ref into_a_rate, .ref into_a_mark])), (a_text, .inl (k_a_text, 900, .inl f_a_text))]) [1, 0, 2] (by decide) rfl
    exact W.zret (v := 1) hx hb hr rfl (fun t ht hW => ⟨⟨1, 1, rfl, rfl, v_faultKind, v_faultPlace, v_next, v_token, v_start, v_value, into_v_whole, hv_next, hv_token, hv_start, hinto_v_whole, (Or.inr (rfl)), by rw [ht]; exact hP9, hD9⟩, hS.F ht⟩) hS.2.2 dX7_readWhole_10
  · subst hr9
    refine lv_if_ne (tgt := 11) hx hb dX7_readWhole_6 (by decide) (fun _ => ?_) (fun cz => absurd cz (by decide))
    refine lv_aload_n hx hb dX7_readWhole_11 rfl (lv_at hl 0 rfl) ?_
    have hPc := hP.sub (ws' := [(o, .inr (7, [.int v_length, .int v_faultKind, .int v_faultPlace, .ref o_into, .ref a_text, .int v_next, .int v_token, .int v_start, .int v_value, .ref a_nameStart, .ref a_nameEnd, .int v_hasElse, .int v_hasLeast, .int v_hasFeel])), (a_text, .inl (k_a_text, 900, .inl f_a_text))]) [1, 2] rfl
    have hDc := hD.sub (ws' := [(o, .inr (7, [.int v_length, .int v_faultKind, .int v_faultPlace, .ref o_into, .ref a_text, .int v_next, .int v_token, .int v_start, .int v_value, .ref a_nameStart, .ref a_nameEnd, .int v_hasElse, .int v_hasLeast, .int v_hasFeel])), (a_text, .inl (k_a_text, 900, .inl f_a_text))]) [1, 2] (by decide) rfl
    have hKc := hK.sub (tys' := [(k_a_text, .byte)]) [0] rfl
    have hFc := va_free (wc := [(o, .inr (7, [.int v_length, .int v_faultKind, .int v_faultPlace, .ref o_into, .ref a_text, .int v_next, .int v_token, .int v_start, .int v_value, .ref a_nameStart, .ref a_nameEnd, .int v_hasElse, .int v_hasLeast, .int v_hasFeel])), (a_text, .inl (k_a_text, 900, .inl f_a_text))]) hD hS hA [1, 2] rfl
    refine va_callv (va_runV (As := []) (rest := []) ⟨hx, hb, hml, hown, hts⟩ (ct_X7_advance l dC dI o v_length v_faultKind v_faultPlace o_into a_text v_next v_token v_start v_value a_nameStart a_nameEnd v_hasElse v_hasLeast v_hasFeel k_a_text f_a_text hv_length hv_next H.size) (cwV 0 hts gX7_readWhole_X7_advance rfl rfl rfl ⟨rfl, cn_X7.1, cn_X7.2, ds_7⟩ ⟨Nat.le_of_ble_eq_true rfl, Nat.le_of_ble_eq_true rfl⟩) ⟨fun a U g mk q => by obtain ⟨q0, q1, qP, qK, qD⟩ := q; exact ⟨q0, q1, qP, va_K.moved (u := U) (U := U.calling g mk a) (Vm.Alike.refl U.vm) qK, qD⟩, va_recv hKc hPc (ci := 7) (q0 := 0) rfl rfl, fun U hU hW => ⟨rfl, by rw [hU], by rw [hU]; exact hPc, va_K.moved hW.alike hKc, hDc.weaken (fun _ _ _ _ => trivial)⟩⟩ rfl rfl hl.1 rfl (lv_room (Nat.le_of_ble_eq_true rfl)) dX7_readWhole_12 ⟨Nat.le_of_ble_eq_true rfl, Nat.le_of_ble_eq_true rfl⟩) hS (fun q _ h => hFc q h) hFc (fun u t H1 locs ht hvm hw hB hz1 hk1 hS => ?_)
    obtain ⟨v4, v5, v6, hv4, hv5, hv6, hP1, hD1⟩ := hB
    rw [ht] at hP1
    obtain ⟨hP, hD⟩ := va_join (wr := [(o_into, .inr (3, [.int into_v_signs, .int into_v_works, .int into_v_whole, .int into_v_otherwise, .int into_v_least, .int into_v_rates, .ref into_a_brings, .ref into_a_costs, .ref into_a_chances, .ref into_a_rate, .ref into_a_mark]))]) (w1 := [(o, .inr (7, [.int v_length, .int v_faultKind, .int v_faultPlace, .ref o_into, .ref a_text, .int v4, .int v5, .int v6, .int v_value, .ref a_nameStart, .ref a_nameEnd, .int v_hasElse, .int v_hasLeast, .int v_hasFeel])), (a_text, .inl (k_a_text, 900, .inl f_a_text))]) hP hD [1, 2] [0] rfl rfl (by decide) (by decide) hk1 hFc hP1 hD1
    clear hPc hDc hKc hFc hP1 hD1 hk1 hz1
    generalize H1 = H at hP hS ⊢
    have hP : va_P (dC, dI) vwCl [(o_into, .inr (3, [.int into_v_signs, .int into_v_works, .int into_v_whole, .int into_v_otherwise, .int into_v_least, .int into_v_rates, .ref into_a_brings, .ref into_a_costs, .ref into_a_chances, .ref into_a_rate, .ref into_a_mark])), (o, .inr (7, [.int v_length, .int v_faultKind, .int v_faultPlace, .ref o_into, .ref a_text, .int v4, .int v5, .int v6, .int v_value, .ref a_nameStart, .ref a_nameEnd, .int v_hasElse, .int v_hasLeast, .int v_hasFeel])), (a_text, .inl (k_a_text, 900, .inl f_a_text))] H := hP
    have hD : va_D A [(o_into, .inr (3, [.int into_v_signs, .int into_v_works, .int into_v_whole, .int into_v_otherwise, .int into_v_least, .int into_v_rates, .ref into_a_brings, .ref into_a_costs, .ref into_a_chances, .ref into_a_rate, .ref into_a_mark])), (o, .inr (7, [.int v_length, .int v_faultKind, .int v_faultPlace, .ref o_into, .ref a_text, .int v4, .int v5, .int v6, .int v_value, .ref a_nameStart, .ref a_nameEnd, .int v_hasElse, .int v_hasLeast, .int v_hasFeel])), (a_text, .inl (k_a_text, 900, .inl f_a_text))] := hD
    refine W.widen (k := 0) (n := 0) (by decide) (by decide) ?_
    refine lv_aload_n hx hb dX7_readWhole_15 rfl (lv_at hl 0 rfl) ?_
    refine lv_iconst (v := 2) hx hb dX7_readWhole_16 (by decide) ?_
    refine lv_bipush (v := 10) hx hb dX7_readWhole_17 (by decide) ?_
    have hPc := hP.sub (ws' := [(o, .inr (7, [.int v_length, .int v_faultKind, .int v_faultPlace, .ref o_into, .ref a_text, .int v4, .int v5, .int v6, .int v_value, .ref a_nameStart, .ref a_nameEnd, .int v_hasElse, .int v_hasLeast, .int v_hasFeel])), (a_text, .inl (k_a_text, 900, .inl f_a_text))]) [1, 2] rfl
    have hDc := hD.sub (ws' := [(o, .inr (7, [.int v_length, .int v_faultKind, .int v_faultPlace, .ref o_into, .ref a_text, .int v4, .int v5, .int v6, .int v_value, .ref a_nameStart, .ref a_nameEnd, .int v_hasElse, .int v_hasLeast, .int v_hasFeel])), (a_text, .inl (k_a_text, 900, .inl f_a_text))]) [1, 2] (by decide) rfl
    have hKc := hK.sub (tys' := [(k_a_text, .byte)]) [0] rfl
    have hFc := va_free (wc := [(o, .inr (7, [.int v_length, .int v_faultKind, .int v_faultPlace, .ref o_into, .ref a_text, .int v4, .int v5, .int v6, .int v_value, .ref a_nameStart, .ref a_nameEnd, .int v_hasElse, .int v_hasLeast, .int v_hasFeel])), (a_text, .inl (k_a_text, 900, .inl f_a_text))]) hD hS hA [1, 2] rfl
    refine va_calli (va_runV (As := [.int 2, .int 10]) (rest := []) ⟨hx, hb, hml, hown, hts⟩ (ct_X7_isNumber l dC dI o 2 10 v_length v_faultKind v_faultPlace o_into a_text v4 v5 v6 v_value a_nameStart a_nameEnd v_hasElse v_hasLeast v_hasFeel k_a_text f_a_text hv4 hv5 hv6 H.size) (cwV 2 hts gX7_readWhole_X7_isNumber rfl rfl rfl ⟨rfl, cn_X7.1, cn_X7.2, ds_4⟩ ⟨Nat.le_of_ble_eq_true rfl, Nat.le_of_ble_eq_true rfl⟩) ⟨fun a U g mk q => by obtain ⟨q0, q1, qP, qK, qD⟩ := q; exact ⟨q0, q1, qP, va_K.moved (u := U) (U := U.calling g mk a) (Vm.Alike.refl U.vm) qK, qD⟩, va_recv hKc hPc (ci := 7) (q0 := 0) rfl rfl, fun U hU hW => ⟨rfl, by rw [hU], by rw [hU]; exact hPc, va_K.moved hW.alike hKc, hDc.weaken (fun _ _ _ _ => trivial)⟩⟩ rfl rfl hl.1 rfl (lv_room (Nat.le_of_ble_eq_true rfl)) dX7_readWhole_19 ⟨Nat.le_of_ble_eq_true rfl, Nat.le_of_ble_eq_true rfl⟩) hS (fun q _ h => hFc q h) hFc (fun r7 u t H1 locs ht hvm hw hB hz1 hk1 hS => ?_)
    have hw : r7 = u := hw.symm
    subst hw
    obtain ⟨v8, v9, v10, w11, hP1, hD1⟩ := hB
    rw [ht] at hP1
    obtain ⟨hP, hD⟩ := va_join (wr := [(o_into, .inr (3, [.int into_v_signs, .int into_v_works, .int into_v_whole, .int into_v_otherwise, .int into_v_least, .int into_v_rates, .ref into_a_brings, .ref into_a_costs, .ref into_a_chances, .ref into_a_rate, .ref into_a_mark]))]) (w1 := [(o, .inr (7, [.int v_length, .int v8, .int v9, .ref o_into, .ref a_text, .int v4, .int v5, .int v6, .int v10, .ref a_nameStart, .ref a_nameEnd, .int v_hasElse, .int v_hasLeast, .int v_hasFeel])), (a_text, .inl (k_a_text, 900, .inl f_a_text))]) hP hD [1, 2] [0] rfl rfl (by decide) (by decide) hk1 hFc hP1 hD1
    clear hPc hDc hKc hFc hP1 hD1 hk1 hz1
    generalize H1 = H at hP hS ⊢
    have hP : va_P (dC, dI) vwCl [(o_into, .inr (3, [.int into_v_signs, .int into_v_works, .int into_v_whole, .int into_v_otherwise, .int into_v_least, .int into_v_rates, .ref into_a_brings, .ref into_a_costs, .ref into_a_chances, .ref into_a_rate, .ref into_a_mark])), (o, .inr (7, [.int v_length, .int v8, .int v9, .ref o_into, .ref a_text, .int v4, .int v5, .int v6, .int v10, .ref a_nameStart, .ref a_nameEnd, .int v_hasElse, .int v_hasLeast, .int v_hasFeel])), (a_text, .inl (k_a_text, 900, .inl f_a_text))] H := hP
    have hD : va_D A [(o_into, .inr (3, [.int into_v_signs, .int into_v_works, .int into_v_whole, .int into_v_otherwise, .int into_v_least, .int into_v_rates, .ref into_a_brings, .ref into_a_costs, .ref into_a_chances, .ref into_a_rate, .ref into_a_mark])), (o, .inr (7, [.int v_length, .int v8, .int v9, .ref o_into, .ref a_text, .int v4, .int v5, .int v6, .int v10, .ref a_nameStart, .ref a_nameEnd, .int v_hasElse, .int v_hasLeast, .int v_hasFeel])), (a_text, .inl (k_a_text, 900, .inl f_a_text))] := hD
    refine W.widen (k := 0) (n := 0) (by decide) (by decide) ?_
    have hq19_0 : (2 : Int32).toInt = 2 := (by decide)
    have hq19_1 : (10 : Int32).toInt = 10 := (by decide)
    rcases w11 with hr9 | ⟨hr9, w11_1_0, w11_1_1⟩
    · subst hr9
      refine lv_if_ne (tgt := 27) hx hb dX7_readWhole_22 (by decide) (fun cz => absurd cz (by decide)) (fun _ => ?_)
      refine lv_iconst (v := 0) hx hb dX7_readWhole_25 (by decide) ?_
      have hP9 := hP.sub (ws' := [(o, .inr (7, [.int v_length, .int v8, .int v9, .ref o_into, .ref a_text, .int v4, .int v5, .int v6, .int v10, .ref a_nameStart, .ref a_nameEnd, .int v_hasElse, .int v_hasLeast, .int v_hasFeel])), (o_into, .inr (3, [.int into_v_signs, .int into_v_works, .int into_v_whole, .int into_v_otherwise, .int into_v_least, .int into_v_rates, .ref into_a_brings, .ref into_a_costs, .ref into_a_chances, .ref into_a_rate, .ref into_a_mark])), (a_text, .inl (k_a_text, 900, .inl f_a_text))]) [1, 0, 2] rfl
      have hD9 := hD.sub (ws' := [(o, .inr (7, [.int v_length, .int v8, .int v9, .ref o_into, .ref a_text, .int v4, .int v5, .int v6, .int v10, .ref a_nameStart, .ref a_nameEnd, .int v_hasElse, .int v_hasLeast, .int v_hasFeel])), (o_into, .inr (3, [.int into_v_signs, .int into_v_works, .int into_v_whole, .int into_v_otherwise, .int into_v_least, .int into_v_rates, .ref into_a_brings, .ref into_a_costs, .ref into_a_chances, .ref into_a_rate, .ref into_a_mark])), (a_text, .inl (k_a_text, 900, .inl f_a_text))]) [1, 0, 2] (by decide) rfl
      exact W.zret (v := 0) hx hb hr rfl (fun t ht hW => ⟨⟨0, 0, rfl, rfl, v8, v9, v4, v5, v6, v10, into_v_whole, hv4, hv5, hv6, hinto_v_whole, (Or.inl rfl), by rw [ht]; exact hP9, hD9⟩, hS.F ht⟩) hS.2.2 dX7_readWhole_26
    · subst hr9
      refine lv_if_ne (tgt := 27) hx hb dX7_readWhole_22 (by decide) (fun _ => ?_) (fun cz => absurd cz (by decide))
      refine lv_aload_n hx hb dX7_readWhole_27 rfl (lv_at hl 0 rfl) ?_
      refine va_get (D := (dC, dI)) (ci := 7) (v := .ref o_into) (C := RX7) (T := TX7) (N := 14) hx hb hts iw_X7_readWhole_X7 hown hK hP 1 rfl rfl 3 (by decide) (hts _ kk_X7_readWhole_0) (fun _ h9 => h9) rfl dX7_readWhole_28 ?_
      refine lv_aload_n hx hb dX7_readWhole_31 rfl (lv_at hl 0 rfl) ?_
      refine va_get (D := (dC, dI)) (ci := 7) (v := .int v10) (C := RX7) (T := TX7) (N := 14) hx hb hts iw_X7_readWhole_X7 hown hK hP 1 rfl rfl 8 (by decide) (hts _ kk_X7_readWhole_1) (fun _ h9 => h9) rfl dX7_readWhole_32 ?_
      refine va_put (D := (dC, dI)) (ci := 3) (v := .int v10) (ty := .int) (C := RX3) (T := TX3) (N := 11) hx hb hts iw_X7_readWhole_X3 tyX3 tyX3_ok nmX3 hown hK hP hD hS 0 rfl rfl 2 (by decide) (hts _ kk_X7_readWhole_2) (fun _ h9 => h9) rfl (by decide +kernel) rfl rfl (Nat.le_of_ble_eq_true rfl) dX7_readWhole_35 (fun H locs hP hD hS => ?_)
      have hP : va_P (dC, dI) vwCl [(o_into, .inr (3, [.int into_v_signs, .int into_v_works, .int v10, .int into_v_otherwise, .int into_v_least, .int into_v_rates, .ref into_a_brings, .ref into_a_costs, .ref into_a_chances, .ref into_a_rate, .ref into_a_mark])), (o, .inr (7, [.int v_length, .int v8, .int v9, .ref o_into, .ref a_text, .int v4, .int v5, .int v6, .int v10, .ref a_nameStart, .ref a_nameEnd, .int v_hasElse, .int v_hasLeast, .int v_hasFeel])), (a_text, .inl (k_a_text, 900, .inl f_a_text))] H := hP
      have hD : va_D A [(o_into, .inr (3, [.int into_v_signs, .int into_v_works, .int v10, .int into_v_otherwise, .int into_v_least, .int into_v_rates, .ref into_a_brings, .ref into_a_costs, .ref into_a_chances, .ref into_a_rate, .ref into_a_mark])), (o, .inr (7, [.int v_length, .int v8, .int v9, .ref o_into, .ref a_text, .int v4, .int v5, .int v6, .int v10, .ref a_nameStart, .ref a_nameEnd, .int v_hasElse, .int v_hasLeast, .int v_hasFeel])), (a_text, .inl (k_a_text, 900, .inl f_a_text))] := hD
      refine lv_aload_n hx hb dX7_readWhole_38 rfl (lv_at hl 0 rfl) ?_
      have hPc := hP.sub (ws' := [(o, .inr (7, [.int v_length, .int v8, .int v9, .ref o_into, .ref a_text, .int v4, .int v5, .int v6, .int v10, .ref a_nameStart, .ref a_nameEnd, .int v_hasElse, .int v_hasLeast, .int v_hasFeel])), (a_text, .inl (k_a_text, 900, .inl f_a_text))]) [1, 2] rfl
      have hDc := hD.sub (ws' := [(o, .inr (7, [.int v_length, .int v8, .int v9, .ref o_into, .ref a_text, .int v4, .int v5, .int v6, .int v10, .ref a_nameStart, .ref a_nameEnd, .int v_hasElse, .int v_hasLeast, .int v_hasFeel])), (a_text, .inl (k_a_text, 900, .inl f_a_text))]) [1, 2] (by decide) rfl
      have hKc := hK.sub (tys' := [(k_a_text, .byte)]) [0] rfl
      have hFc := va_free (wc := [(o, .inr (7, [.int v_length, .int v8, .int v9, .ref o_into, .ref a_text, .int v4, .int v5, .int v6, .int v10, .ref a_nameStart, .ref a_nameEnd, .int v_hasElse, .int v_hasLeast, .int v_hasFeel])), (a_text, .inl (k_a_text, 900, .inl f_a_text))]) hD hS hA [1, 2] rfl
      refine va_callv (va_runV (As := []) (rest := []) ⟨hx, hb, hml, hown, hts⟩ (ct_X7_advance l dC dI o v_length v8 v9 o_into a_text v4 v5 v6 v10 a_nameStart a_nameEnd v_hasElse v_hasLeast v_hasFeel k_a_text f_a_text hv_length hv4 H.size) (cwV 0 hts gX7_readWhole_X7_advance rfl rfl rfl ⟨rfl, cn_X7.1, cn_X7.2, ds_7⟩ ⟨Nat.le_of_ble_eq_true rfl, Nat.le_of_ble_eq_true rfl⟩) ⟨fun a U g mk q => by obtain ⟨q0, q1, qP, qK, qD⟩ := q; exact ⟨q0, q1, qP, va_K.moved (u := U) (U := U.calling g mk a) (Vm.Alike.refl U.vm) qK, qD⟩, va_recv hKc hPc (ci := 7) (q0 := 0) rfl rfl, fun U hU hW => ⟨rfl, by rw [hU], by rw [hU]; exact hPc, va_K.moved hW.alike hKc, hDc.weaken (fun _ _ _ _ => trivial)⟩⟩ rfl rfl hl.1 rfl (lv_room (Nat.le_of_ble_eq_true rfl)) dX7_readWhole_39 ⟨Nat.le_of_ble_eq_true rfl, Nat.le_of_ble_eq_true rfl⟩) hS (fun q _ h => hFc q h) hFc (fun u t H1 locs ht hvm hw hB hz1 hk1 hS => ?_)
      obtain ⟨v13, v14, v15, hv13, hv14, hv15, hP1, hD1⟩ := hB
      rw [ht] at hP1
      obtain ⟨hP, hD⟩ := va_join (wr := [(o_into, .inr (3, [.int into_v_signs, .int into_v_works, .int v10, .int into_v_otherwise, .int into_v_least, .int into_v_rates, .ref into_a_brings, .ref into_a_costs, .ref into_a_chances, .ref into_a_rate, .ref into_a_mark]))]) (w1 := [(o, .inr (7, [.int v_length, .int v8, .int v9, .ref o_into, .ref a_text, .int v13, .int v14, .int v15, .int v10, .ref a_nameStart, .ref a_nameEnd, .int v_hasElse, .int v_hasLeast, .int v_hasFeel])), (a_text, .inl (k_a_text, 900, .inl f_a_text))]) hP hD [1, 2] [0] rfl rfl (by decide) (by decide) hk1 hFc hP1 hD1
      clear hPc hDc hKc hFc hP1 hD1 hk1 hz1
      generalize H1 = H at hP hS ⊢
      have hP : va_P (dC, dI) vwCl [(o_into, .inr (3, [.int into_v_signs, .int into_v_works, .int v10, .int into_v_otherwise, .int into_v_least, .int into_v_rates, .ref into_a_brings, .ref into_a_costs, .ref into_a_chances, .ref into_a_rate, .ref into_a_mark])), (o, .inr (7, [.int v_length, .int v8, .int v9, .ref o_into, .ref a_text, .int v13, .int v14, .int v15, .int v10, .ref a_nameStart, .ref a_nameEnd, .int v_hasElse, .int v_hasLeast, .int v_hasFeel])), (a_text, .inl (k_a_text, 900, .inl f_a_text))] H := hP
      have hD : va_D A [(o_into, .inr (3, [.int into_v_signs, .int into_v_works, .int v10, .int into_v_otherwise, .int into_v_least, .int into_v_rates, .ref into_a_brings, .ref into_a_costs, .ref into_a_chances, .ref into_a_rate, .ref into_a_mark])), (o, .inr (7, [.int v_length, .int v8, .int v9, .ref o_into, .ref a_text, .int v13, .int v14, .int v15, .int v10, .ref a_nameStart, .ref a_nameEnd, .int v_hasElse, .int v_hasLeast, .int v_hasFeel])), (a_text, .inl (k_a_text, 900, .inl f_a_text))] := hD
      refine W.widen (k := 0) (n := 0) (by decide) (by decide) ?_
      refine lv_aload_n hx hb dX7_readWhole_42 rfl (lv_at hl 0 rfl) ?_
      have hPc := hP.sub (ws' := [(o, .inr (7, [.int v_length, .int v8, .int v9, .ref o_into, .ref a_text, .int v13, .int v14, .int v15, .int v10, .ref a_nameStart, .ref a_nameEnd, .int v_hasElse, .int v_hasLeast, .int v_hasFeel])), (a_text, .inl (k_a_text, 900, .inl f_a_text))]) [1, 2] rfl
      have hDc := hD.sub (ws' := [(o, .inr (7, [.int v_length, .int v8, .int v9, .ref o_into, .ref a_text, .int v13, .int v14, .int v15, .int v10, .ref a_nameStart, .ref a_nameEnd, .int v_hasElse, .int v_hasLeast, .int v_hasFeel])), (a_text, .inl (k_a_text, 900, .inl f_a_text))]) [1, 2] (by decide) rfl
      have hKc := hK.sub (tys' := [(k_a_text, .byte)]) [0] rfl
      have hFc := va_free (wc := [(o, .inr (7, [.int v_length, .int v8, .int v9, .ref o_into, .ref a_text, .int v13, .int v14, .int v15, .int v10, .ref a_nameStart, .ref a_nameEnd, .int v_hasElse, .int v_hasLeast, .int v_hasFeel])), (a_text, .inl (k_a_text, 900, .inl f_a_text))]) hD hS hA [1, 2] rfl
      refine va_calli (va_runV (As := []) (rest := []) ⟨hx, hb, hml, hown, hts⟩ (ct_X7_passSemicolon l dC dI o v_length v8 v9 o_into a_text v13 v14 v15 v10 a_nameStart a_nameEnd v_hasElse v_hasLeast v_hasFeel k_a_text f_a_text hv_length hv13 hv14 hv15 H.size) (cwV 0 hts gX7_readWhole_X7_passSemicolon rfl rfl rfl ⟨rfl, cn_X7.1, cn_X7.2, ds_25⟩ ⟨Nat.le_of_ble_eq_true rfl, Nat.le_of_ble_eq_true rfl⟩) ⟨fun a U g mk q => by obtain ⟨q0, q1, qP, qK, qD⟩ := q; exact ⟨q0, q1, qP, va_K.moved (u := U) (U := U.calling g mk a) (Vm.Alike.refl U.vm) qK, qD⟩, va_recv hKc hPc (ci := 7) (q0 := 0) rfl rfl, fun U hU hW => ⟨rfl, by rw [hU], by rw [hU]; exact hPc, va_K.moved hW.alike hKc, hDc.weaken (fun _ _ _ _ => trivial)⟩⟩ rfl rfl hl.1 rfl (lv_room (Nat.le_of_ble_eq_true rfl)) dX7_readWhole_43 ⟨Nat.le_of_ble_eq_true rfl, Nat.le_of_ble_eq_true rfl⟩) hS (fun q _ h => hFc q h) hFc (fun r16 u t H1 locs ht hvm hw hB hz1 hk1 hS => ?_)
      have hw : r16 = u := hw.symm
      subst hw
      obtain ⟨v17, v18, v19, v20, v21, hv19, hv20, hv21, w22, hP1, hD1⟩ := hB
      rw [ht] at hP1
      obtain ⟨hP, hD⟩ := va_join (wr := [(o_into, .inr (3, [.int into_v_signs, .int into_v_works, .int v10, .int into_v_otherwise, .int into_v_least, .int into_v_rates, .ref into_a_brings, .ref into_a_costs, .ref into_a_chances, .ref into_a_rate, .ref into_a_mark]))]) (w1 := [(o, .inr (7, [.int v_length, .int v17, .int v18, .ref o_into, .ref a_text, .int v19, .int v20, .int v21, .int v10, .ref a_nameStart, .ref a_nameEnd, .int v_hasElse, .int v_hasLeast, .int v_hasFeel])), (a_text, .inl (k_a_text, 900, .inl f_a_text))]) hP hD [1, 2] [0] rfl rfl (by decide) (by decide) hk1 hFc hP1 hD1
      clear hPc hDc hKc hFc hP1 hD1 hk1 hz1
      generalize H1 = H at hP hS ⊢
      have hP : va_P (dC, dI) vwCl [(o_into, .inr (3, [.int into_v_signs, .int into_v_works, .int v10, .int into_v_otherwise, .int into_v_least, .int into_v_rates, .ref into_a_brings, .ref into_a_costs, .ref into_a_chances, .ref into_a_rate, .ref into_a_mark])), (o, .inr (7, [.int v_length, .int v17, .int v18, .ref o_into, .ref a_text, .int v19, .int v20, .int v21, .int v10, .ref a_nameStart, .ref a_nameEnd, .int v_hasElse, .int v_hasLeast, .int v_hasFeel])), (a_text, .inl (k_a_text, 900, .inl f_a_text))] H := hP
      have hD : va_D A [(o_into, .inr (3, [.int into_v_signs, .int into_v_works, .int v10, .int into_v_otherwise, .int into_v_least, .int into_v_rates, .ref into_a_brings, .ref into_a_costs, .ref into_a_chances, .ref into_a_rate, .ref into_a_mark])), (o, .inr (7, [.int v_length, .int v17, .int v18, .ref o_into, .ref a_text, .int v19, .int v20, .int v21, .int v10, .ref a_nameStart, .ref a_nameEnd, .int v_hasElse, .int v_hasLeast, .int v_hasFeel])), (a_text, .inl (k_a_text, 900, .inl f_a_text))] := hD
      refine W.widen (k := 0) (n := 0) (by decide) (by decide) ?_
      rcases w22 with hr9 | hr9
      · subst hr9
        have hP9 := hP.sub (ws' := [(o, .inr (7, [.int v_length, .int v17, .int v18, .ref o_into, .ref a_text, .int v19, .int v20, .int v21, .int v10, .ref a_nameStart, .ref a_nameEnd, .int v_hasElse, .int v_hasLeast, .int v_hasFeel])), (o_into, .inr (3, [.int into_v_signs, .int into_v_works, .int v10, .int into_v_otherwise, .int into_v_least, .int into_v_rates, .ref into_a_brings, .ref into_a_costs, .ref into_a_chances, .ref into_a_rate, .ref into_a_mark])), (a_text, .inl (k_a_text, 900, .inl f_a_text))]) [1, 0, 2] rfl
        have hD9 := hD.sub (ws' := [(o, .inr (7, [.int v_length, .int v17, .int v18, .ref o_into, .ref a_text, .int v19, .int v20, .int v21, .int v10, .ref a_nameStart, .ref a_nameEnd, .int v_hasElse, .int v_hasLeast, .int v_hasFeel])), (o_into, .inr (3, [.int into_v_signs, .int into_v_works, .int v10, .int into_v_otherwise, .int into_v_least, .int into_v_rates, .ref into_a_brings, .ref into_a_costs, .ref into_a_chances, .ref into_a_rate, .ref into_a_mark])), (a_text, .inl (k_a_text, 900, .inl f_a_text))]) [1, 0, 2] (by decide) rfl
        exact W.zret (v := 0) hx hb hr rfl (fun t ht hW => ⟨⟨0, 0, rfl, rfl, v17, v18, v19, v20, v21, v10, v10, hv19, hv20, hv21, (iv.m (by omega)), (Or.inl rfl), by rw [ht]; exact hP9, hD9⟩, hS.F ht⟩) hS.2.2 dX7_readWhole_46
      · subst hr9
        have hP9 := hP.sub (ws' := [(o, .inr (7, [.int v_length, .int v17, .int v18, .ref o_into, .ref a_text, .int v19, .int v20, .int v21, .int v10, .ref a_nameStart, .ref a_nameEnd, .int v_hasElse, .int v_hasLeast, .int v_hasFeel])), (o_into, .inr (3, [.int into_v_signs, .int into_v_works, .int v10, .int into_v_otherwise, .int into_v_least, .int into_v_rates, .ref into_a_brings, .ref into_a_costs, .ref into_a_chances, .ref into_a_rate, .ref into_a_mark])), (a_text, .inl (k_a_text, 900, .inl f_a_text))]) [1, 0, 2] rfl
        have hD9 := hD.sub (ws' := [(o, .inr (7, [.int v_length, .int v17, .int v18, .ref o_into, .ref a_text, .int v19, .int v20, .int v21, .int v10, .ref a_nameStart, .ref a_nameEnd, .int v_hasElse, .int v_hasLeast, .int v_hasFeel])), (o_into, .inr (3, [.int into_v_signs, .int into_v_works, .int v10, .int into_v_otherwise, .int into_v_least, .int into_v_rates, .ref into_a_brings, .ref into_a_costs, .ref into_a_chances, .ref into_a_rate, .ref into_a_mark])), (a_text, .inl (k_a_text, 900, .inl f_a_text))]) [1, 0, 2] (by decide) rfl
        exact W.zret (v := 1) hx hb hr rfl (fun t ht hW => ⟨⟨1, 1, rfl, rfl, v17, v18, v19, v20, v21, v10, v10, hv19, hv20, hv21, (iv.m (by omega)), (Or.inr (rfl)), by rw [ht]; exact hP9, hD9⟩, hS.F ht⟩) hS.2.2 dX7_readWhole_46

set_option maxHeartbeats 4000000 in
set_option maxRecDepth 100000 in
theorem ct_X7_isSameRun (l : Launch) (dC : Nat → ClassId) (dI : Nat → Nat → Nat) (o : Nat) (p0 : Int32) (p1 : Int32) (v_length : Int32) (v_faultKind : Int32) (v_faultPlace : Int32) (o_into : Nat) (a_text : Nat) (v_next : Int32) (v_token : Int32) (v_start : Int32) (v_value : Int32) (a_nameStart : Nat) (a_nameEnd : Nat) (v_hasElse : Int32) (v_hasLeast : Int32) (v_hasFeel : Int32) (k_a_text : ClassId) (f_a_text : Nat → Int32) (hp0 : iv p0 0 900) (hp1 : iv p1 0 900) (hv_next : iv v_next 0 900) (hv_start : iv v_start 0 900) (sz : Nat) : Met l yX7_isSameRun wsX7_isSameRun ({ frames := 0, cells := 0, slots := 0, locals := 0 }) (va_Pc [.ref o, .int p0, .int p1] (fun U => U.heap.size = sz ∧ va_P (dC, dI) vwCl [(o, .inr (7, [.int v_length, .int v_faultKind, .int v_faultPlace, .ref o_into, .ref a_text, .int v_next, .int v_token, .int v_start, .int v_value, .ref a_nameStart, .ref a_nameEnd, .int v_hasElse, .int v_hasLeast, .int v_hasFeel])), (a_text, .inl (k_a_text, 900, .inl f_a_text))] U.heap ∧ va_K (dC, dI) vwCl [(k_a_text, .byte)] U ∧ va_D (fun _ => True) [(o, .inr (7, [.int v_length, .int v_faultKind, .int v_faultPlace, .ref o_into, .ref a_text, .int v_next, .int v_token, .int v_start, .int v_value, .ref a_nameStart, .ref a_nameEnd, .int v_hasElse, .int v_hasLeast, .int v_hasFeel])), (a_text, .inl (k_a_text, 900, .inl f_a_text))])) (va_Qi (fun (r u : Int32) => u = r) (fun (r : Int32) t => ((r = 0) ∨ (r = 1)) ∧ va_P (dC, dI) vwCl [(o, .inr (7, [.int v_length, .int v_faultKind, .int v_faultPlace, .ref o_into, .ref a_text, .int v_next, .int v_token, .int v_start, .int v_value, .ref a_nameStart, .ref a_nameEnd, .int v_hasElse, .int v_hasLeast, .int v_hasFeel])), (a_text, .inl (k_a_text, 900, .inl f_a_text))] t.heap ∧ va_D (va_A [(o, .inr (7, [.int v_length, .int v_faultKind, .int v_faultPlace, .ref o_into, .ref a_text, .int v_next, .int v_token, .int v_start, .int v_value, .ref a_nameStart, .ref a_nameEnd, .int v_hasElse, .int v_hasLeast, .int v_hasFeel])), (a_text, .inl (k_a_text, 900, .inl f_a_text))] sz) [(o, .inr (7, [.int v_length, .int v_faultKind, .int v_faultPlace, .ref o_into, .ref a_text, .int v_next, .int v_token, .int v_start, .int v_value, .ref a_nameStart, .ref a_nameEnd, .int v_hasElse, .int v_hasLeast, .int v_hasFeel])), (a_text, .inl (k_a_text, 900, .inl f_a_text))]) (va_A [(o, .inr (7, [.int v_length, .int v_faultKind, .int v_faultPlace, .ref o_into, .ref a_text, .int v_next, .int v_token, .int v_start, .int v_value, .ref a_nameStart, .ref a_nameEnd, .int v_hasElse, .int v_hasLeast, .int v_hasFeel])), (a_text, .inl (k_a_text, 900, .inl f_a_text))] sz)) 0 0 (va_A [(o, .inr (7, [.int v_length, .int v_faultKind, .int v_faultPlace, .ref o_into, .ref a_text, .int v_next, .int v_token, .int v_start, .int v_value, .ref a_nameStart, .ref a_nameEnd, .int v_hasElse, .int v_hasLeast, .int v_hasFeel])), (a_text, .inl (k_a_text, 900, .inl f_a_text))] sz) := by
  refine Met.ofW (cc := cX7_isSameRun) (maxL := 4) (ret := (some .boolean)) pn_X7 rfl ?_
  intro p e s m args below meth c s₁ B hml hv
  obtain ⟨rfl, hsz, hP, hK, hD0⟩ := hv
  have hx := B.exec
  have hb := B.bytes
  have hr := B.returns
  have hts := atoms_spec (ws := wsX7_isSameRun) B.pre
  have hown : s.vm.findClass RX7 = some m.cls := findClass_of_methodNamed B.named
  have hlocks := B.notSynchronized
  subst hsz
  have hD := hD0.self (sz := s.heap.size)
  generalize hAe : va_A [(o, .inr (7, [.int v_length, .int v_faultKind, .int v_faultPlace, .ref o_into, .ref a_text, .int v_next, .int v_token, .int v_start, .int v_value, .ref a_nameStart, .ref a_nameEnd, .int v_hasElse, .int v_hasLeast, .int v_hasFeel])), (a_text, .inl (k_a_text, 900, .inl f_a_text))] s.heap.size = A at hD ⊢
  have hA : ∀ q : Nat, s.heap.size ≤ q → A q := fun q h => by rw [← hAe]; exact Or.inr h
  have hS : va_S A s.heap s.heap [] := va_S.rf
  have hP : va_P (dC, dI) vwCl [(o, .inr (7, [.int v_length, .int v_faultKind, .int v_faultPlace, .ref o_into, .ref a_text, .int v_next, .int v_token, .int v_start, .int v_value, .ref a_nameStart, .ref a_nameEnd, .int v_hasElse, .int v_hasLeast, .int v_hasFeel])), (a_text, .inl (k_a_text, 900, .inl f_a_text))] s.heap := hP
  have hl := lv_entry ([.ref o, .int p0, .int p1]) (n := 4) (Nat.le_of_ble_eq_true rfl)
  rw [lg_entry_eq]
  generalize (lg_sl ([.ref o, .int p0, .int p1]) ++ List.replicate (4 - (lg_sl ([.ref o, .int p0, .int p1])).length) Slot.unset).toArray = ls at hl ⊢
  have hl : lv_has ls 4 [(0, .ref o), (1, .int p0), (2, .int p1)] := hl
  refine lv_iload_n hx hb dX7_isSameRun_0 rfl (lv_at hl 2 rfl) ?_
  refine lv_iload_n hx hb dX7_isSameRun_1 rfl (lv_at hl 1 rfl) ?_
  refine lv_isub hx hb dX7_isSameRun_2 ?_
  refine lv_topi (fun x1 ex1 => ?_)
  have bp1 := hp1.u
  have bp0 := hp0.u
  have tx1 := i32_sub ex1 rfl rfl (by omega) (by omega)
  refine lv_aload_n hx hb dX7_isSameRun_3 rfl (lv_at hl 0 rfl) ?_
  refine va_get (D := (dC, dI)) (ci := 7) (v := .int v_next) (C := RX7) (T := TX7) (N := 14) hx hb hts iw_X7_isSameRun_X7 hown hK hP 0 rfl rfl 5 (by decide) (hts _ kk_X7_isSameRun_0) (fun _ h9 => h9) rfl dX7_isSameRun_4 ?_
  refine lv_aload_n hx hb dX7_isSameRun_7 rfl (lv_at hl 0 rfl) ?_
  refine va_get (D := (dC, dI)) (ci := 7) (v := .int v_start) (C := RX7) (T := TX7) (N := 14) hx hb hts iw_X7_isSameRun_X7 hown hK hP 0 rfl rfl 7 (by decide) (hts _ kk_X7_isSameRun_1) (fun _ h9 => h9) rfl dX7_isSameRun_8 ?_
  refine lv_isub hx hb dX7_isSameRun_11 ?_
  refine lv_topi (fun x2 ex2 => ?_)
  have bv_next := hv_next.u
  have bv_start := hv_start.u
  have tx2 := i32_sub ex2 rfl rfl (by omega) (by omega)
  refine lv_icmp_eq (tgt := 17) hx hb dX7_isSameRun_12 (by decide) (fun c3 => ?_) (fun c3 => ?_)
  · have c39 := i32_eq c3 rfl rfl
    refine lv_iconst (v := 0) hx hb dX7_isSameRun_17 (by decide) ?_
    refine lv_istore_n (lv' := [(3, .int 0), (0, .ref o), (1, .int p0), (2, .int p1)]) hx hb dX7_isSameRun_18 rfl hl (by decide) rfl (fun ls hl => ?_)
    refine tl_loop (I := fun nn H locs ls => ∃ (v4 : Int32), nn = (900 - v4.toInt).toNat ∧ iv v4 0 900 ∧  va_P (dC, dI) vwCl [(o, .inr (7, [.int v_length, .int v_faultKind, .int v_faultPlace, .ref o_into, .ref a_text, .int v_next, .int v_token, .int v_start, .int v_value, .ref a_nameStart, .ref a_nameEnd, .int v_hasElse, .int v_hasLeast, .int v_hasFeel])), (a_text, .inl (k_a_text, 900, .inl f_a_text))] H ∧ va_D A [(o, .inr (7, [.int v_length, .int v_faultKind, .int v_faultPlace, .ref o_into, .ref a_text, .int v_next, .int v_token, .int v_start, .int v_value, .ref a_nameStart, .ref a_nameEnd, .int v_hasElse, .int v_hasLeast, .int v_hasFeel])), (a_text, .inl (k_a_text, 900, .inl f_a_text))] ∧ va_S A s.heap H locs ∧ lv_has ls 4 [(3, .int v4), (0, .ref o), (1, .int p0), (2, .int p1)]) ?_ ⟨0, rfl, (iv.m (by decide)), hP, hD, hS, lv_sub hl [0, 1, 2, 3] rfl⟩
    clear hP hD hS hl
    intro nn19 H locs ls hI ih19
    obtain ⟨v4, hn19, hv4, hP, hD, hS, hl⟩ := hI
    have bv4 := hv4.u
    refine lv_iload_n hx hb dX7_isSameRun_19 rfl (lv_at hl 0 rfl) ?_
    refine lv_iload_n hx hb dX7_isSameRun_20 rfl (lv_at hl 3 rfl) ?_
    refine lv_iload_n hx hb dX7_isSameRun_21 rfl (lv_at hl 2 rfl) ?_
    refine lv_isub hx hb dX7_isSameRun_22 ?_
    refine lv_topi (fun x5 ex5 => ?_)
    have tx5 := i32_sub ex5 rfl rfl (by omega) (by omega)
    refine lv_icmp_ge (tgt := 56) hx hb dX7_isSameRun_23 (by decide) (fun c6 => ?_) (fun c6 => ?_)
    · have c69 := i32_le c6 rfl rfl
      refine lv_iconst (v := 1) hx hb dX7_isSameRun_56 (by decide) ?_
      have hP9 := hP.sub (ws' := [(o, .inr (7, [.int v_length, .int v_faultKind, .int v_faultPlace, .ref o_into, .ref a_text, .int v_next, .int v_token, .int v_start, .int v_value, .ref a_nameStart, .ref a_nameEnd, .int v_hasElse, .int v_hasLeast, .int v_hasFeel])), (a_text, .inl (k_a_text, 900, .inl f_a_text))]) [0, 1] rfl
      have hD9 := hD.sub (ws' := [(o, .inr (7, [.int v_length, .int v_faultKind, .int v_faultPlace, .ref o_into, .ref a_text, .int v_next, .int v_token, .int v_start, .int v_value, .ref a_nameStart, .ref a_nameEnd, .int v_hasElse, .int v_hasLeast, .int v_hasFeel])), (a_text, .inl (k_a_text, 900, .inl f_a_text))]) [0, 1] (by decide) rfl
      exact W.zret (v := 1) hx hb hr rfl (fun t ht hW => ⟨⟨1, 1, rfl, rfl, (Or.inr (rfl)), by rw [ht]; exact hP9, hD9⟩, hS.F ht⟩) hS.2.2 dX7_isSameRun_57
    · have c69 := i32_nle c6 rfl rfl
      refine lv_aload_n hx hb dX7_isSameRun_26 rfl (lv_at hl 1 rfl) ?_
      refine va_get (D := (dC, dI)) (ci := 7) (v := .ref a_text) (C := RX7) (T := TX7) (N := 14) hx hb hts iw_X7_isSameRun_X7 hown hK hP 0 rfl rfl 4 (by decide) (hts _ kk_X7_isSameRun_2) (fun _ h9 => h9) rfl dX7_isSameRun_27 ?_
      refine lv_iload_n hx hb dX7_isSameRun_30 rfl (lv_at hl 2 rfl) ?_
      refine lv_iload_n hx hb dX7_isSameRun_31 rfl (lv_at hl 0 rfl) ?_
      refine lv_iadd hx hb dX7_isSameRun_32 ?_
      refine lv_topi (fun x7 ex7 => ?_)
      have tx7 := i32_add ex7 rfl rfl (by omega) (by omega)
      refine va_bald hx hb hK hP 1 0 rfl rfl (vq_in x7 900 (by omega)) dX7_isSameRun_33 ?_
      refine lv_topi (fun x8 ex8 => ?_)
      refine lv_aload_n hx hb dX7_isSameRun_34 rfl (lv_at hl 1 rfl) ?_
      refine va_get (D := (dC, dI)) (ci := 7) (v := .ref a_text) (C := RX7) (T := TX7) (N := 14) hx hb hts iw_X7_isSameRun_X7 hown hK hP 0 rfl rfl 4 (by decide) (hts _ kk_X7_isSameRun_2) (fun _ h9 => h9) rfl dX7_isSameRun_35 ?_
      refine lv_aload_n hx hb dX7_isSameRun_38 rfl (lv_at hl 1 rfl) ?_
      refine va_get (D := (dC, dI)) (ci := 7) (v := .int v_start) (C := RX7) (T := TX7) (N := 14) hx hb hts iw_X7_isSameRun_X7 hown hK hP 0 rfl rfl 7 (by decide) (hts _ kk_X7_isSameRun_1) (fun _ h9 => h9) rfl dX7_isSameRun_39 ?_
      refine lv_iload_n hx hb dX7_isSameRun_42 rfl (lv_at hl 0 rfl) ?_
      refine lv_iadd hx hb dX7_isSameRun_43 ?_
      refine lv_topi (fun x9 ex9 => ?_)
      have tx9 := i32_add ex9 rfl rfl (by omega) (by omega)
      refine va_bald hx hb hK hP 1 0 rfl rfl (vq_in x9 900 (by omega)) dX7_isSameRun_44 ?_
      refine lv_topi (fun x10 ex10 => ?_)
      have bx8 := i32_rng x8
      have bx10 := i32_rng x10
      refine lv_icmp_eq (tgt := 50) hx hb dX7_isSameRun_45 (by decide) (fun c11 => ?_) (fun c11 => ?_)
      · have c119 := i32_eq c11 rfl rfl
        obtain ⟨x12, ex12⟩ : ∃ z : Int32, v4 + Int32.ofInt 1 = z := ⟨_, rfl⟩
        have tx12 := i32_inc ex12 rfl (by decide) (by omega) (by omega)
        refine lv_iinc (v := x12) (lv' := [(3, .int x12), (0, .ref o), (1, .int p0), (2, .int p1)]) hx hb dX7_isSameRun_50 hl (k := 0) rfl ex12 (by decide) rfl (fun ls hl => ?_)
        refine lv_goto (tgt := 19) hx hb dX7_isSameRun_53 (by decide) ?_
        exact ih19 _ _ _ _ (by omega) ⟨x12, rfl, (iv.m (by omega)), hP, hD, hS, lv_sub hl [0, 1, 2, 3] rfl⟩
      · have c119 := i32_ne c11 rfl rfl
        refine lv_iconst (v := 0) hx hb dX7_isSameRun_48 (by decide) ?_
        have hP9 := hP.sub (ws' := [(o, .inr (7, [.int v_length, .int v_faultKind, .int v_faultPlace, .ref o_into, .ref a_text, .int v_next, .int v_token, .int v_start, .int v_value, .ref a_nameStart, .ref a_nameEnd, .int v_hasElse, .int v_hasLeast, .int v_hasFeel])), (a_text, .inl (k_a_text, 900, .inl f_a_text))]) [0, 1] rfl
        have hD9 := hD.sub (ws' := [(o, .inr (7, [.int v_length, .int v_faultKind, .int v_faultPlace, .ref o_into, .ref a_text, .int v_next, .int v_token, .int v_start, .int v_value, .ref a_nameStart, .ref a_nameEnd, .int v_hasElse, .int v_hasLeast, .int v_hasFeel])), (a_text, .inl (k_a_text, 900, .inl f_a_text))]) [0, 1] (by decide) rfl
        exact W.zret (v := 0) hx hb hr rfl (fun t ht hW => ⟨⟨0, 0, rfl, rfl, (Or.inl rfl), by rw [ht]; exact hP9, hD9⟩, hS.F ht⟩) hS.2.2 dX7_isSameRun_49
  · have c39 := i32_ne c3 rfl rfl
    refine lv_iconst (v := 0) hx hb dX7_isSameRun_15 (by decide) ?_
    have hP9 := hP.sub (ws' := [(o, .inr (7, [.int v_length, .int v_faultKind, .int v_faultPlace, .ref o_into, .ref a_text, .int v_next, .int v_token, .int v_start, .int v_value, .ref a_nameStart, .ref a_nameEnd, .int v_hasElse, .int v_hasLeast, .int v_hasFeel])), (a_text, .inl (k_a_text, 900, .inl f_a_text))]) [0, 1] rfl
    have hD9 := hD.sub (ws' := [(o, .inr (7, [.int v_length, .int v_faultKind, .int v_faultPlace, .ref o_into, .ref a_text, .int v_next, .int v_token, .int v_start, .int v_value, .ref a_nameStart, .ref a_nameEnd, .int v_hasElse, .int v_hasLeast, .int v_hasFeel])), (a_text, .inl (k_a_text, 900, .inl f_a_text))]) [0, 1] (by decide) rfl
    exact W.zret (v := 0) hx hb hr rfl (fun t ht hW => ⟨⟨0, 0, rfl, rfl, (Or.inl rfl), by rw [ht]; exact hP9, hD9⟩, hS.F ht⟩) hS.2.2 dX7_isSameRun_16

