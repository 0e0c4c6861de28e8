set_option maxHeartbeats 4000000 in
set_option maxRecDepth 100000 in
theorem ct_X9_wages_v2 (l : Launch) (dC : Nat → ClassId) (dI : Nat → Nat → Nat) (ad0 : Nat) (vi0 : Int32) (ad1 : Nat) (ad2 : Nat) (ad3 : Nat) (ad4 : Nat) (ad5 : Nat) (ad6 : Nat) (ad7 : Nat) (ad8 : Nat) (ad9 : Nat) (ad10 : Nat) (ad11 : Nat) (ad12 : Nat) (ad13 : Nat) (sz : Nat) : Met l yX9_wages wsX9_wages ({ frames := 0, cells := 0, slots := 0, locals := 0 }) (va_Pc [.ref ad0, .int vi0, .int 0] (fun U => U.heap.size = sz ∧ va_P (dC, dI) vwCl [(ad0, .inr (9, [.ref ad1, .ref ad2, .ref ad3, .ref ad4, .ref ad5, .ref ad6, .ref ad7, .ref ad8, .int 0, .ref ad9, .ref ad10, .ref ad11, .ref ad12, .ref ad13]))] U.heap ∧ va_K (dC, dI) vwCl [] U ∧ va_D (fun _ => True) [(ad0, .inr (9, [.ref ad1, .ref ad2, .ref ad3, .ref ad4, .ref ad5, .ref ad6, .ref ad7, .ref ad8, .int 0, .ref ad9, .ref ad10, .ref ad11, .ref ad12, .ref ad13]))])) (va_Ql (fun (r : Int64) (_ : Unit) => r = (-1)) (fun _ _ => True) (va_A [(ad0, .inr (9, [.ref ad1, .ref ad2, .ref ad3, .ref ad4, .ref ad5, .ref ad6, .ref ad7, .ref ad8, .int 0, .ref ad9, .ref ad10, .ref ad11, .ref ad12, .ref ad13]))] sz)) 0 0 (va_A [(ad0, .inr (9, [.ref ad1, .ref ad2, .ref ad3, .ref ad4, .ref ad5, .ref ad6, .ref ad7, .ref ad8, .int 0, .ref ad9, .ref ad10, .ref ad11, .ref ad12, .ref ad13]))] sz) := by
  refine Met.ofW (cc := cX9_wages) (maxL := 3) (ret := (some .long)) (by decide) rfl ?_
  intro p e s m args below meth c s₁ B hml hv
  obtain ⟨rfl, hsz, hP, hK, hD0⟩ := hv
  have hx := B.exec
  have hb := B.bytes
  have hr := B.returns
  have hts := atoms_spec (ws := wsX9_wages) B.pre
  have hown : s.vm.findClass RX9 = some m.cls := findClass_of_methodNamed B.named
  have hlocks := B.notSynchronized
  subst hsz
  have hD := hD0.self (sz := s.heap.size)
  generalize hAe : va_A [(ad0, .inr (9, [.ref ad1, .ref ad2, .ref ad3, .ref ad4, .ref ad5, .ref ad6, .ref ad7, .ref ad8, .int 0, .ref ad9, .ref ad10, .ref ad11, .ref ad12, .ref ad13]))] s.heap.size = A at hD ⊢
  have hA : ∀ q : Nat, s.heap.size ≤ q → A q := fun q h => by rw [← hAe]; exact Or.inr h
  have hS : va_S A s.heap s.heap [] := va_S.rf
  have hP : va_P (dC, dI) vwCl [(ad0, .inr (9, [.ref ad1, .ref ad2, .ref ad3, .ref ad4, .ref ad5, .ref ad6, .ref ad7, .ref ad8, .int 0, .ref ad9, .ref ad10, .ref ad11, .ref ad12, .ref ad13]))] s.heap := hP
  have hl := lv_entry ([.ref ad0, .int vi0, .int 0]) (n := 3) (Nat.le_of_ble_eq_true rfl)
  rw [lg_entry_eq]
  generalize (lg_sl ([.ref ad0, .int vi0, .int 0]) ++ List.replicate (3 - (lg_sl ([.ref ad0, .int vi0, .int 0])).length) Slot.unset).toArray = ls at hl ⊢
  have hl : lv_has ls 3 [(0, .ref ad0), (1, .int vi0), (2, .int 0)] := hl
  refine lv_aload_n hx hb dX9_wages_0 rfl (lv_at hl 0 rfl) ?_
  refine va_get (D := (dC, dI)) (ci := 9) (v := .int 0) (C := RX9) (T := TX9) (N := 14) hx hb hts iw_X9_wages_X9 hown hK hP 0 rfl rfl 8 (by decide) (hts _ kk_X9_wages_0) (fun _ h9 => h9) rfl dX9_wages_1 ?_
  refine lv_if_eq (tgt := 15) hx hb dX9_wages_4 (by decide) (fun _ => ?_) (fun cz => absurd cz (by decide))
  refine lv_ldc2 (v := (-1)) hx hb hown (hts _ kk_X9_wages_1) dX9_wages_15 ?_
  refine W.widen (k := 0) (n := 0) (by decide) (by decide) ?_
  exact W.lret (v := (-1)) hx hb hr (fun t ht hW => ⟨⟨(-1), (), rfl, rfl, trivial⟩, hS.F ht⟩) hS.2.2 dX9_wages_18

set_option maxHeartbeats 4000000 in
set_option maxRecDepth 100000 in
theorem ct_X10_wages_v2 (l : Launch) (dC : Nat → ClassId) (dI : Nat → Nat → Nat) (ad0 : Nat) (vi0 : Int32) (ad1 : Nat) (ad2 : Nat) (ad3 : Nat) (ad4 : Nat) (ad5 : Nat) (ad6 : Nat) (ad7 : Nat) (ad8 : Nat) (ad9 : Nat) (ad10 : Nat) (ad11 : Nat) (ad12 : Nat) (ad13 : Nat) (ad14 : Nat) (ad15 : Nat) (ad16 : Nat) (ad17 : Nat) (ad18 : Nat) (ad19 : Nat) (ad20 : Nat) (ad21 : Nat) (ad22 : Nat) (ad23 : Nat) (ad24 : Nat) (ad25 : Nat) (ad26 : Nat) (ad27 : Nat) (ad28 : Nat) (ad29 : Nat) (ad30 : Nat) (sz : Nat) : Met l yX10_wages wsX10_wages ({ frames := 0, cells := 0, slots := 0, locals := 0 }) (va_Pc [.ref ad0, .int vi0, .int 0] (fun U => U.heap.size = sz ∧ va_P (dC, dI) vwCl [(ad0, .inr (10, [.ref ad1, .int 0, .int 0, .int 0, .int 0, .int 0, .int 0, .int 0, .int 0, .int (-1), .long 0, .int 0, .ref ad2, .ref ad3, .ref ad4, .ref ad5, .ref ad6, .ref ad7, .ref ad8, .ref ad9, .int 0, .ref ad10, .int 0, .long 0, .long 0, .int 0, .int 0, .ref ad11, .ref ad12, .ref ad13, .int 0, .ref ad14, .ref ad15, .ref ad16, .long 0, .ref ad17, .ref ad18, .int 0, .long 0, .long 0, .ref ad19, .ref ad20, .int 0, .int 0, .ref ad21, .ref ad22, .long 0, .long 0, .ref ad23, .long 0, .long 0, .long 0, .long 0, .int 0, .ref ad24, .ref ad25, .int 1, .int 0, .int 0, .int 0, .ref ad26, .ref ad27, .ref ad28, .ref ad29, .ref ad30]))] U.heap ∧ va_K (dC, dI) vwCl [] U ∧ va_D (fun _ => True) [(ad0, .inr (10, [.ref ad1, .int 0, .int 0, .int 0, .int 0, .int 0, .int 0, .int 0, .int 0, .int (-1), .long 0, .int 0, .ref ad2, .ref ad3, .ref ad4, .ref ad5, .ref ad6, .ref ad7, .ref ad8, .ref ad9, .int 0, .ref ad10, .int 0, .long 0, .long 0, .int 0, .int 0, .ref ad11, .ref ad12, .ref ad13, .int 0, .ref ad14, .ref ad15, .ref ad16, .long 0, .ref ad17, .ref ad18, .int 0, .long 0, .long 0, .ref ad19, .ref ad20, .int 0, .int 0, .ref ad21, .ref ad22, .long 0, .long 0, .ref ad23, .long 0, .long 0, .long 0, .long 0, .int 0, .ref ad24, .ref ad25, .int 1, .int 0, .int 0, .int 0, .ref ad26, .ref ad27, .ref ad28, .ref ad29, .ref ad30]))])) (va_Ql (fun (r : Int64) (_ : Unit) => r = (-1)) (fun _ _ => True) (va_A [(ad0, .inr (10, [.ref ad1, .int 0, .int 0, .int 0, .int 0, .int 0, .int 0, .int 0, .int 0, .int (-1), .long 0, .int 0, .ref ad2, .ref ad3, .ref ad4, .ref ad5, .ref ad6, .ref ad7, .ref ad8, .ref ad9, .int 0, .ref ad10, .int 0, .long 0, .long 0, .int 0, .int 0, .ref ad11, .ref ad12, .ref ad13, .int 0, .ref ad14, .ref ad15, .ref ad16, .long 0, .ref ad17, .ref ad18, .int 0, .long 0, .long 0, .ref ad19, .ref ad20, .int 0, .int 0, .ref ad21, .ref ad22, .long 0, .long 0, .ref ad23, .long 0, .long 0, .long 0, .long 0, .int 0, .ref ad24, .ref ad25, .int 1, .int 0, .int 0, .int 0, .ref ad26, .ref ad27, .ref ad28, .ref ad29, .ref ad30]))] sz)) 0 0 (va_A [(ad0, .inr (10, [.ref ad1, .int 0, .int 0, .int 0, .int 0, .int 0, .int 0, .int 0, .int 0, .int (-1), .long 0, .int 0, .ref ad2, .ref ad3, .ref ad4, .ref ad5, .ref ad6, .ref ad7, .ref ad8, .ref ad9, .int 0, .ref ad10, .int 0, .long 0, .long 0, .int 0, .int 0, .ref ad11, .ref ad12, .ref ad13, .int 0, .ref ad14, .ref ad15, .ref ad16, .long 0, .ref ad17, .ref ad18, .int 0, .long 0, .long 0, .ref ad19, .ref ad20, .int 0, .int 0, .ref ad21, .ref ad22, .long 0, .long 0, .ref ad23, .long 0, .long 0, .long 0, .long 0, .int 0, .ref ad24, .ref ad25, .int 1, .int 0, .int 0, .int 0, .ref ad26, .ref ad27, .ref ad28, .ref ad29, .ref ad30]))] sz) := by
  refine Met.ofW (cc := cX10_wages) (maxL := 3) (ret := (some .long)) (by decide) rfl ?_
  intro p e s m args below meth c s₁ B hml hv
  obtain ⟨rfl, hsz, hP, hK, hD0⟩ := hv
  have hx := B.exec
  have hb := B.bytes
  have hr := B.returns
  have hts := atoms_spec (ws := wsX10_wages) B.pre
  have hown : s.vm.findClass RX10 = some m.cls := findClass_of_methodNamed B.named
  have hlocks := B.notSynchronized
  subst hsz
  have hD := hD0.self (sz := s.heap.size)
  generalize hAe : va_A [(ad0, .inr (10, [.ref ad1, .int 0, .int 0, .int 0, .int 0, .int 0, .int 0, .int 0, .int 0, .int (-1), .long 0, .int 0, .ref ad2, .ref ad3, .ref ad4, .ref ad5, .ref ad6, .ref ad7, .ref ad8, .ref ad9, .int 0, .ref ad10, .int 0, .long 0, .long 0, .int 0, .int 0, .ref ad11, .ref ad12, .ref ad13, .int 0, .ref ad14, .ref ad15, .ref ad16, .long 0, .ref ad17, .ref ad18, .int 0, .long 0, .long 0, .ref ad19, .ref ad20, .int 0, .int 0, .ref ad21, .ref ad22, .long 0, .long 0, .ref ad23, .long 0, .long 0, .long 0, .long 0, .int 0, .ref ad24, .ref ad25, .int 1, .int 0, .int 0, .int 0, .ref ad26, .ref ad27, .ref ad28, .ref ad29, .ref ad30]))] s.heap.size = A at hD ⊢
  have hA : ∀ q : Nat, s.heap.size ≤ q → A q := fun q h => by rw [← hAe]; exact Or.inr h
  have hS : va_S A s.heap s.heap [] := va_S.rf
  have hP : va_P (dC, dI) vwCl [(ad0, .inr (10, [.ref ad1, .int 0, .int 0, .int 0, .int 0, .int 0, .int 0, .int 0, .int 0, .int (-1), .long 0, .int 0, .ref ad2, .ref ad3, .ref ad4, .ref ad5, .ref ad6, .ref ad7, .ref ad8, .ref ad9, .int 0, .ref ad10, .int 0, .long 0, .long 0, .int 0, .int 0, .ref ad11, .ref ad12, .ref ad13, .int 0, .ref ad14, .ref ad15, .ref ad16, .long 0, .ref ad17, .ref ad18, .int 0, .long 0, .long 0, .ref ad19, .ref ad20, .int 0, .int 0, .ref ad21, .ref ad22, .long 0, .long 0, .ref ad23, .long 0, .long 0, .long 0, .long 0, .int 0, .ref ad24, .ref ad25, .int 1, .int 0, .int 0, .int 0, .ref ad26, .ref ad27, .ref ad28, .ref ad29, .ref ad30]))] s.heap := hP
  have hl := lv_entry ([.ref ad0, .int vi0, .int 0]) (n := 3) (Nat.le_of_ble_eq_true rfl)
  rw [lg_entry_eq]
  generalize (lg_sl ([.ref ad0, .int vi0, .int 0]) ++ List.replicate (3 - (lg_sl ([.ref ad0, .int vi0, .int 0])).length) Slot.unset).toArray = ls at hl ⊢
  have hl : lv_has ls 3 [(0, .ref ad0), (1, .int vi0), (2, .int 0)] := hl
  refine lv_aload_n hx hb dX10_wages_0 rfl (lv_at hl 0 rfl) ?_
  refine va_get (D := (dC, dI)) (ci := 10) (v := .int 0) (C := RX10) (T := TX10) (N := 65) hx hb hts iw_X10_wages_X10 hown hK hP 0 rfl rfl 42 (by decide) (hts _ kk_X10_wages_0) (fun _ h9 => h9) rfl dX10_wages_1 ?_
  refine lv_if_eq (tgt := 23) hx hb dX10_wages_4 (by decide) (fun _ => ?_) (fun cz => absurd cz (by decide))
  refine lv_ldc2 (v := (-1)) hx hb hown (hts _ kk_X10_wages_1) dX10_wages_23 ?_
  refine lv_goto (tgt := 48) hx hb dX10_wages_26 (by decide) ?_
  refine W.widen (k := 0) (n := 0) (by decide) (by decide) ?_
  exact W.lret (v := (-1)) hx hb hr (fun t ht hW => ⟨⟨(-1), (), rfl, rfl, trivial⟩, hS.F ht⟩) hS.2.2 dX10_wages_48

set_option maxHeartbeats 4000000 in
set_option maxRecDepth 100000 in
theorem ct_X9_wages_v3 (l : Launch) (dC : Nat → ClassId) (dI : Nat → Nat → Nat) (ad0 : Nat) (vi0 : Int32) (ad1 : Nat) (ad2 : Nat) (ad3 : Nat) (ad4 : Nat) (ad5 : Nat) (ad6 : Nat) (ad7 : Nat) (ad8 : Nat) (ad9 : Nat) (ad10 : Nat) (ad11 : Nat) (ad12 : Nat) (ad13 : Nat) (sz : Nat) : Met l yX9_wages wsX9_wages ({ frames := 0, cells := 0, slots := 0, locals := 0 }) (va_Pc [.ref ad0, .int vi0, .int 1] (fun U => U.heap.size = sz ∧ va_P (dC, dI) vwCl [(ad0, .inr (9, [.ref ad1, .ref ad2, .ref ad3, .ref ad4, .ref ad5, .ref ad6, .ref ad7, .ref ad8, .int 0, .ref ad9, .ref ad10, .ref ad11, .ref ad12, .ref ad13]))] U.heap ∧ va_K (dC, dI) vwCl [] U ∧ va_D (fun _ => True) [(ad0, .inr (9, [.ref ad1, .ref ad2, .ref ad3, .ref ad4, .ref ad5, .ref ad6, .ref ad7, .ref ad8, .int 0, .ref ad9, .ref ad10, .ref ad11, .ref ad12, .ref ad13]))])) (va_Ql (fun (r : Int64) (_ : Unit) => r = (-1)) (fun _ _ => True) (va_A [(ad0, .inr (9, [.ref ad1, .ref ad2, .ref ad3, .ref ad4, .ref ad5, .ref ad6, .ref ad7, .ref ad8, .int 0, .ref ad9, .ref ad10, .ref ad11, .ref ad12, .ref ad13]))] sz)) 0 0 (va_A [(ad0, .inr (9, [.ref ad1, .ref ad2, .ref ad3, .ref ad4, .ref ad5, .ref ad6, .ref ad7, .ref ad8, .int 0, .ref ad9, .ref ad10, .ref ad11, .ref ad12, .ref ad13]))] sz) := by
  refine Met.ofW (cc := cX9_wages) (maxL := 3) (ret := (some .long)) (by decide) rfl ?_
  intro p e s m args below meth c s₁ B hml hv
  obtain ⟨rfl, hsz, hP, hK, hD0⟩ := hv
  have hx := B.exec
  have hb := B.bytes
  have hr := B.returns
  have hts := atoms_spec (ws := wsX9_wages) B.pre
  have hown : s.vm.findClass RX9 = some m.cls := findClass_of_methodNamed B.named
  have hlocks := B.notSynchronized
  subst hsz
  have hD := hD0.self (sz := s.heap.size)
  generalize hAe : va_A [(ad0, .inr (9, [.ref ad1, .ref ad2, .ref ad3, .ref ad4, .ref ad5, .ref ad6, .ref ad7, .ref ad8, .int 0, .ref ad9, .ref ad10, .ref ad11, .ref ad12, .ref ad13]))] s.heap.size = A at hD ⊢
  have hA : ∀ q : Nat, s.heap.size ≤ q → A q := fun q h => by rw [← hAe]; exact Or.inr h
  have hS : va_S A s.heap s.heap [] := va_S.rf
  have hP : va_P (dC, dI) vwCl [(ad0, .inr (9, [.ref ad1, .ref ad2, .ref ad3, .ref ad4, .ref ad5, .ref ad6, .ref ad7, .ref ad8, .int 0, .ref ad9, .ref ad10, .ref ad11, .ref ad12, .ref ad13]))] s.heap := hP
  have hl := lv_entry ([.ref ad0, .int vi0, .int 1]) (n := 3) (Nat.le_of_ble_eq_true rfl)
  rw [lg_entry_eq]
  generalize (lg_sl ([.ref ad0, .int vi0, .int 1]) ++ List.replicate (3 - (lg_sl ([.ref ad0, .int vi0, .int 1])).length) Slot.unset).toArray = ls at hl ⊢
  have hl : lv_has ls 3 [(0, .ref ad0), (1, .int vi0), (2, .int 1)] := hl
  refine lv_aload_n hx hb dX9_wages_0 rfl (lv_at hl 0 rfl) ?_
  refine va_get (D := (dC, dI)) (ci := 9) (v := .int 0) (C := RX9) (T := TX9) (N := 14) hx hb hts iw_X9_wages_X9 hown hK hP 0 rfl rfl 8 (by decide) (hts _ kk_X9_wages_0) (fun _ h9 => h9) rfl dX9_wages_1 ?_
  refine lv_if_eq (tgt := 15) hx hb dX9_wages_4 (by decide) (fun _ => ?_) (fun cz => absurd cz (by decide))
  refine lv_ldc2 (v := (-1)) hx hb hown (hts _ kk_X9_wages_1) dX9_wages_15 ?_
  refine W.widen (k := 0) (n := 0) (by decide) (by decide) ?_
  exact W.lret (v := (-1)) hx hb hr (fun t ht hW => ⟨⟨(-1), (), rfl, rfl, trivial⟩, hS.F ht⟩) hS.2.2 dX9_wages_18

set_option maxHeartbeats 4000000 in
set_option maxRecDepth 100000 in
theorem ct_X10_wages_v3 (l : Launch) (dC : Nat → ClassId) (dI : Nat → Nat → Nat) (ad0 : Nat) (vi0 : Int32) (ad1 : Nat) (ad2 : Nat) (ad3 : Nat) (ad4 : Nat) (ad5 : Nat) (ad6 : Nat) (ad7 : Nat) (ad8 : Nat) (ad9 : Nat) (ad10 : Nat) (ad11 : Nat) (ad12 : Nat) (ad13 : Nat) (ad14 : Nat) (ad15 : Nat) (ad16 : Nat) (ad17 : Nat) (ad18 : Nat) (ad19 : Nat) (ad20 : Nat) (ad21 : Nat) (ad22 : Nat) (ad23 : Nat) (ad24 : Nat) (ad25 : Nat) (ad26 : Nat) (ad27 : Nat) (ad28 : Nat) (ad29 : Nat) (ad30 : Nat) (sz : Nat) : Met l yX10_wages wsX10_wages ({ frames := 0, cells := 0, slots := 0, locals := 0 }) (va_Pc [.ref ad0, .int vi0, .int 1] (fun U => U.heap.size = sz ∧ va_P (dC, dI) vwCl [(ad0, .inr (10, [.ref ad1, .int 0, .int 0, .int 0, .int 0, .int 0, .int 0, .int 0, .int 0, .int (-1), .long 0, .int 0, .ref ad2, .ref ad3, .ref ad4, .ref ad5, .ref ad6, .ref ad7, .ref ad8, .ref ad9, .int 0, .ref ad10, .int 0, .long 0, .long 0, .int 0, .int 0, .ref ad11, .ref ad12, .ref ad13, .int 0, .ref ad14, .ref ad15, .ref ad16, .long 0, .ref ad17, .ref ad18, .int 0, .long 0, .long 0, .ref ad19, .ref ad20, .int 0, .int 0, .ref ad21, .ref ad22, .long 0, .long 0, .ref ad23, .long 0, .long 0, .long 0, .long 0, .int 0, .ref ad24, .ref ad25, .int 1, .int 0, .int 0, .int 0, .ref ad26, .ref ad27, .ref ad28, .ref ad29, .ref ad30]))] U.heap ∧ va_K (dC, dI) vwCl [] U ∧ va_D (fun _ => True) [(ad0, .inr (10, [.ref ad1, .int 0, .int 0, .int 0, .int 0, .int 0, .int 0, .int 0, .int 0, .int (-1), .long 0, .int 0, .ref ad2, .ref ad3, .ref ad4, .ref ad5, .ref ad6, .ref ad7, .ref ad8, .ref ad9, .int 0, .ref ad10, .int 0, .long 0, .long 0, .int 0, .int 0, .ref ad11, .ref ad12, .ref ad13, .int 0, .ref ad14, .ref ad15, .ref ad16, .long 0, .ref ad17, .ref ad18, .int 0, .long 0, .long 0, .ref ad19, .ref ad20, .int 0, .int 0, .ref ad21, .ref ad22, .long 0, .long 0, .ref ad23, .long 0, .long 0, .long 0, .long 0, .int 0, .ref ad24, .ref ad25, .int 1, .int 0, .int 0, .int 0, .ref ad26, .ref ad27, .ref ad28, .ref ad29, .ref ad30]))])) (va_Ql (fun (r : Int64) (_ : Unit) => r = (-1)) (fun _ _ => True) (va_A [(ad0, .inr (10, [.ref ad1, .int 0, .int 0, .int 0, .int 0, .int 0, .int 0, .int 0, .int 0, .int (-1), .long 0, .int 0, .ref ad2, .ref ad3, .ref ad4, .ref ad5, .ref ad6, .ref ad7, .ref ad8, .ref ad9, .int 0, .ref ad10, .int 0, .long 0, .long 0, .int 0, .int 0, .ref ad11, .ref ad12, .ref ad13, .int 0, .ref ad14, .ref ad15, .ref ad16, .long 0, .ref ad17, .ref ad18, .int 0, .long 0, .long 0, .ref ad19, .ref ad20, .int 0, .int 0, .ref ad21, .ref ad22, .long 0, .long 0, .ref ad23, .long 0, .long 0, .long 0, .long 0, .int 0, .ref ad24, .ref ad25, .int 1, .int 0, .int 0, .int 0, .ref ad26, .ref ad27, .ref ad28, .ref ad29, .ref ad30]))] sz)) 0 0 (va_A [(ad0, .inr (10, [.ref ad1, .int 0, .int 0, .int 0, .int 0, .int 0, .int 0, .int 0, .int 0, .int (-1), .long 0, .int 0, .ref ad2, .ref ad3, .ref ad4, .ref ad5, .ref ad6, .ref ad7, .ref ad8, .ref ad9, .int 0, .ref ad10, .int 0, .long 0, .long 0, .int 0, .int 0, .ref ad11, .ref ad12, .ref ad13, .int 0, .ref ad14, .ref ad15, .ref ad16, .long 0, .ref ad17, .ref ad18, .int 0, .long 0, .long 0, .ref ad19, .ref ad20, .int 0, .int 0, .ref ad21, .ref ad22, .long 0, .long 0, .ref ad23, .long 0, .long 0, .long 0, .long 0, .int 0, .ref ad24, .ref ad25, .int 1, .int 0, .int 0, .int 0, .ref ad26, .ref ad27, .ref ad28, .ref ad29, .ref ad30]))] sz) := by
  refine Met.ofW (cc := cX10_wages) (maxL := 3) (ret := (some .long)) (by decide) rfl ?_
  intro p e s m args below meth c s₁ B hml hv
  obtain ⟨rfl, hsz, hP, hK, hD0⟩ := hv
  have hx := B.exec
  have hb := B.bytes
  have hr := B.returns
  have hts := atoms_spec (ws := wsX10_wages) B.pre
  have hown : s.vm.findClass RX10 = some m.cls := findClass_of_methodNamed B.named
  have hlocks := B.notSynchronized
  subst hsz
  have hD := hD0.self (sz := s.heap.size)
  generalize hAe : va_A [(ad0, .inr (10, [.ref ad1, .int 0, .int 0, .int 0, .int 0, .int 0, .int 0, .int 0, .int 0, .int (-1), .long 0, .int 0, .ref ad2, .ref ad3, .ref ad4, .ref ad5, .ref ad6, .ref ad7, .ref ad8, .ref ad9, .int 0, .ref ad10, .int 0, .long 0, .long 0, .int 0, .int 0, .ref ad11, .ref ad12, .ref ad13, .int 0, .ref ad14, .ref ad15, .ref ad16, .long 0, .ref ad17, .ref ad18, .int 0, .long 0, .long 0, .ref ad19, .ref ad20, .int 0, .int 0, .ref ad21, .ref ad22, .long 0, .long 0, .ref ad23, .long 0, .long 0, .long 0, .long 0, .int 0, .ref ad24, .ref ad25, .int 1, .int 0, .int 0, .int 0, .ref ad26, .ref ad27, .ref ad28, .ref ad29, .ref ad30]))] s.heap.size = A at hD ⊢
  have hA : ∀ q : Nat, s.heap.size ≤ q → A q := fun q h => by rw [← hAe]; exact Or.inr h
  have hS : va_S A s.heap s.heap [] := va_S.rf
  have hP : va_P (dC, dI) vwCl [(ad0, .inr (10, [.ref ad1, .int 0, .int 0, .int 0, .int 0, .int 0, .int 0, .int 0, .int 0, .int (-1), .long 0, .int 0, .ref ad2, .ref ad3, .ref ad4, .ref ad5, .ref ad6, .ref ad7, .ref ad8, .ref ad9, .int 0, .ref ad10, .int 0, .long 0, .long 0, .int 0, .int 0, .ref ad11, .ref ad12, .ref ad13, .int 0, .ref ad14, .ref ad15, .ref ad16, .long 0, .ref ad17, .ref ad18, .int 0, .long 0, .long 0, .ref ad19, .ref ad20, .int 0, .int 0, .ref ad21, .ref ad22, .long 0, .long 0, .ref ad23, .long 0, .long 0, .long 0, .long 0, .int 0, .ref ad24, .ref ad25, .int 1, .int 0, .int 0, .int 0, .ref ad26, .ref ad27, .ref ad28, .ref ad29, .ref ad30]))] s.heap := hP
  have hl := lv_entry ([.ref ad0, .int vi0, .int 1]) (n := 3) (Nat.le_of_ble_eq_true rfl)
  rw [lg_entry_eq]
  generalize (lg_sl ([.ref ad0, .int vi0, .int 1]) ++ List.replicate (3 - (lg_sl ([.ref ad0, .int vi0, .int 1])).length) Slot.unset).toArray = ls at hl ⊢
  have hl : lv_has ls 3 [(0, .ref ad0), (1, .int vi0), (2, .int 1)] := hl
  refine lv_aload_n hx hb dX10_wages_0 rfl (lv_at hl 0 rfl) ?_
  refine va_get (D := (dC, dI)) (ci := 10) (v := .int 0) (C := RX10) (T := TX10) (N := 65) hx hb hts iw_X10_wages_X10 hown hK hP 0 rfl rfl 42 (by decide) (hts _ kk_X10_wages_0) (fun _ h9 => h9) rfl dX10_wages_1 ?_
  refine lv_if_eq (tgt := 23) hx hb dX10_wages_4 (by decide) (fun _ => ?_) (fun cz => absurd cz (by decide))
  refine lv_ldc2 (v := (-1)) hx hb hown (hts _ kk_X10_wages_1) dX10_wages_23 ?_
  refine lv_goto (tgt := 48) hx hb dX10_wages_26 (by decide) ?_
  refine W.widen (k := 0) (n := 0) (by decide) (by decide) ?_
  exact W.lret (v := (-1)) hx hb hr (fun t ht hW => ⟨⟨(-1), (), rfl, rfl, trivial⟩, hS.F ht⟩) hS.2.2 dX10_wages_48

