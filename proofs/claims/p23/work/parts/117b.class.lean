set_option maxHeartbeats 4000000 in
set_option maxRecDepth 100000 in
theorem ct_X6_changeElse (l : Launch) (dC : Nat → ClassId) (dI : Nat → Nat → Nat) (o : Nat) (p0 : Int32) (v_lowerNumber : Int32) (a_press : Nat) (v_pressOfElse : Int32) (a_mixed : Nat) (sz : Nat) : Met l yX6_changeElse wsX6_changeElse ({ frames := 0, cells := 0, slots := 0, locals := 0 }) (va_Pc [Value.ref o, Value.int p0] (fun U => U.heap.size = sz ∧ va_P (dC, dI) vwCl [(o, Sum.inr (6, [Value.int v_lowerNumber, Value.ref a_press, Value.int v_pressOfElse, Value.ref a_mixed]))] U.heap ∧ va_K (dC, dI) vwCl [] U ∧ va_D (fun _ => True) [(o, Sum.inr (6, [Value.int v_lowerNumber, Value.ref a_press, Value.int v_pressOfElse, Value.ref a_mixed]))])) (va_Qi (fun (r u : Int32) => u = r) (fun (r : Int32) t => (r = v_pressOfElse) ∧ (p0 = p0) ∧ va_P (dC, dI) vwCl [(o, Sum.inr (6, [Value.int v_lowerNumber, Value.ref a_press, Value.int p0, Value.ref a_mixed]))] t.heap ∧ va_D (va_A [(o, Sum.inr (6, [Value.int v_lowerNumber, Value.ref a_press, Value.int v_pressOfElse, Value.ref a_mixed]))] sz) [(o, Sum.inr (6, [Value.int v_lowerNumber, Value.ref a_press, Value.int p0, Value.ref a_mixed]))]) (va_A [(o, Sum.inr (6, [Value.int v_lowerNumber, Value.ref a_press, Value.int v_pressOfElse, Value.ref a_mixed]))] sz)) 0 0 (va_A [(o, Sum.inr (6, [Value.int v_lowerNumber, Value.ref a_press, Value.int v_pressOfElse, Value.ref a_mixed]))] sz) := by
  refine Met.ofW (cc := cX6_changeElse) (maxL := 3) (ret := (some .int)) pn_X6 rfl ?_
  intro p e s m args below meth c s₁ B hml hv
  obtain ⟨rfl, hsz, hP, hK, hD0⟩ := hv
  have hx := B.exec
  have hb := B.bytes
  have hr := B.returns
  have hts := atoms_spec (ws := wsX6_changeElse) B.pre
  have hown : s.vm.findClass RX6 = some m.cls := findClass_of_methodNamed B.named
  have hlocks := B.notSynchronized
  subst hsz
  have hD := hD0.self (sz := s.heap.size)
  generalize hAe : va_A [(o, Sum.inr (6, [Value.int v_lowerNumber, Value.ref a_press, Value.int v_pressOfElse, Value.ref a_mixed]))] s.heap.size = A at hD ⊢
  have hA : ∀ q : Nat, s.heap.size ≤ q → A q := fun q h => by rw [← hAe]; exact Or.inr h
  have hS : va_S A s.heap s.heap [] := va_S.rf
  have hP : va_P (dC, dI) vwCl [(o, Sum.inr (6, [Value.int v_lowerNumber, Value.ref a_press, Value.int v_pressOfElse, Value.ref a_mixed]))] s.heap := hP
  have hl := lv_entry ([Value.ref o, Value.int p0]) (n := 3) (Nat.le_of_ble_eq_true rfl)
  rw [lg_entry_eq]
  generalize (lg_sl ([Value.ref o, Value.int p0]) ++ List.replicate (3 - (lg_sl ([Value.ref o, Value.int p0])).length) Slot.unset).toArray = ls at hl ⊢
  have hl : lv_has ls 3 [(0, Value.ref o), (1, Value.int p0)] := hl
  refine lv_aload_n hx hb dX6_changeElse_0 rfl (lv_at hl 0 rfl) ?_
  refine va_get (D := (dC, dI)) (ci := 6) (v := Value.int v_pressOfElse) (C := RX6) (T := TX6) (N := 4) hx hb hts iw_X6_changeElse_X6 hown hK hP 0 rfl rfl 2 (by decide) (hts _ kk_X6_changeElse_0) (fun _ h9 => h9) rfl dX6_changeElse_1 ?_
  refine lv_istore_n (lv' := [(2, Value.int v_pressOfElse), (0, Value.ref o), (1, Value.int p0)]) hx hb dX6_changeElse_4 rfl hl (by decide) rfl (fun ls hl => ?_)
  refine lv_aload_n hx hb dX6_changeElse_5 rfl (lv_at hl 1 rfl) ?_
  refine lv_iload_n hx hb dX6_changeElse_6 rfl (lv_at hl 2 rfl) ?_
  refine va_put (D := (dC, dI)) (ci := 6) (v := Value.int p0) (ty := FieldType.int) (C := RX6) (T := TX6) (N := 4) hx hb hts iw_X6_changeElse_X6 tyX6 tyX6_ok nmX6 hown hK hP hD hS 0 rfl rfl 2 (by decide) (hts _ kk_X6_changeElse_0) (fun _ h9 => h9) rfl (by decide +kernel) rfl rfl (Nat.le_of_ble_eq_true rfl) dX6_changeElse_7 (fun H locs hP hD hS => ?_)
  have hP : va_P (dC, dI) vwCl [(o, Sum.inr (6, [Value.int v_lowerNumber, Value.ref a_press, Value.int p0, Value.ref a_mixed]))] H := hP
  have hD : va_D A [(o, Sum.inr (6, [Value.int v_lowerNumber, Value.ref a_press, Value.int p0, Value.ref a_mixed]))] := hD
  refine lv_iload_n hx hb dX6_changeElse_10 rfl (lv_at hl 0 rfl) ?_
  have hP9 := hP.sub (ws' := [(o, Sum.inr (6, [Value.int v_lowerNumber, Value.ref a_press, Value.int p0, Value.ref a_mixed]))]) [0] rfl
  have hD9 := hD.sub (ws' := [(o, Sum.inr (6, [Value.int v_lowerNumber, Value.ref a_press, Value.int p0, Value.ref a_mixed]))]) [0] (by decide) rfl
  have bv_pressOfElse := i32_rng v_pressOfElse
  exact W.iret (v := v_pressOfElse) hx hb hr (fun t ht hW => ⟨⟨v_pressOfElse, v_pressOfElse, rfl, rfl, (by rfl), (by rfl), by rw [ht]; exact hP9, hD9⟩, hS.F ht⟩) hS.2.2 dX6_changeElse_11

set_option maxHeartbeats 4000000 in
set_option maxRecDepth 100000 in
theorem ct_X6_changeMix (l : Launch) (dC : Nat → ClassId) (dI : Nat → Nat → Nat) (o : Nat) (p0 : Int32) (p1 : Int32) (v_lowerNumber : Int32) (a_press : Nat) (v_pressOfElse : Int32) (a_mixed : Nat) (k_a_mixed : ClassId) (f_a_mixed : Nat → Int32) (hp0 : iv p0 0 4) (sz : Nat) : Met l yX6_changeMix wsX6_changeMix ({ frames := 0, cells := 0, slots := 0, locals := 0 }) (va_Pc [Value.ref o, Value.int p0, Value.int p1] (fun U => U.heap.size = sz ∧ va_P (dC, dI) vwCl [(o, Sum.inr (6, [Value.int v_lowerNumber, Value.ref a_press, Value.int v_pressOfElse, Value.ref a_mixed])), (a_mixed, Sum.inl (k_a_mixed, 5, Sum.inl f_a_mixed))] U.heap ∧ va_K (dC, dI) vwCl [(k_a_mixed, FieldType.int)] U ∧ va_D (fun _ => True) [(o, Sum.inr (6, [Value.int v_lowerNumber, Value.ref a_press, Value.int v_pressOfElse, Value.ref a_mixed])), (a_mixed, Sum.inl (k_a_mixed, 5, Sum.inl f_a_mixed))])) (va_Qi (fun (r u : Int32) => u = r) (fun (r : Int32) t => ∃ (e_f_a_mixed : Nat → Int32), (r = f_a_mixed p0.toNatClampNeg) ∧ (e_f_a_mixed = upd f_a_mixed p0.toNatClampNeg p1) ∧ va_P (dC, dI) vwCl [(o, Sum.inr (6, [Value.int v_lowerNumber, Value.ref a_press, Value.int v_pressOfElse, Value.ref a_mixed])), (a_mixed, Sum.inl (k_a_mixed, 5, Sum.inl e_f_a_mixed))] t.heap ∧ va_D (va_A [(o, Sum.inr (6, [Value.int v_lowerNumber, Value.ref a_press, Value.int v_pressOfElse, Value.ref a_mixed])), (a_mixed, Sum.inl (k_a_mixed, 5, Sum.inl f_a_mixed))] sz) [(o, Sum.inr (6, [Value.int v_lowerNumber, Value.ref a_press, Value.int v_pressOfElse, Value.ref a_mixed])), (a_mixed, Sum.inl (k_a_mixed, 5, Sum.inl e_f_a_mixed))]) (va_A [(o, Sum.inr (6, [Value.int v_lowerNumber, Value.ref a_press, Value.int v_pressOfElse, Value.ref a_mixed])), (a_mixed, Sum.inl (k_a_mixed, 5, Sum.inl f_a_mixed))] sz)) 0 0 (va_A [(o, Sum.inr (6, [Value.int v_lowerNumber, Value.ref a_press, Value.int v_pressOfElse, Value.ref a_mixed])), (a_mixed, Sum.inl (k_a_mixed, 5, Sum.inl f_a_mixed))] sz) := by
  refine Met.ofW (cc := cX6_changeMix) (maxL := 4) (ret := (some .int)) pn_X6 rfl ?_
  intro p e s m args below meth c s₁ B hml hv
  obtain ⟨rfl, hsz, hP, hK, hD0⟩ := hv
  have hx := B.exec
  have hb := B.bytes
  have hr := B.returns
  have hts := atoms_spec (ws := wsX6_changeMix) B.pre
  have hown : s.vm.findClass RX6 = some m.cls := findClass_of_methodNamed B.named
  have hlocks := B.notSynchronized
  subst hsz
  have hD := hD0.self (sz := s.heap.size)
  generalize hAe : va_A [(o, Sum.inr (6, [Value.int v_lowerNumber, Value.ref a_press, Value.int v_pressOfElse, Value.ref a_mixed])), (a_mixed, Sum.inl (k_a_mixed, 5, Sum.inl f_a_mixed))] s.heap.size = A at hD ⊢
  have hA : ∀ q : Nat, s.heap.size ≤ q → A q := fun q h => by rw [← hAe]; exact Or.inr h
  have hS : va_S A s.heap s.heap [] := va_S.rf
  have hP : va_P (dC, dI) vwCl [(o, Sum.inr (6, [Value.int v_lowerNumber, Value.ref a_press, Value.int v_pressOfElse, Value.ref a_mixed])), (a_mixed, Sum.inl (k_a_mixed, 5, Sum.inl f_a_mixed))] s.heap := hP
  have hl := lv_entry ([Value.ref o, Value.int p0, Value.int p1]) (n := 4) (Nat.le_of_ble_eq_true rfl)
  rw [lg_entry_eq]
  generalize (lg_sl ([Value.ref o, Value.int p0, Value.int p1]) ++ List.replicate (4 - (lg_sl ([Value.ref o, Value.int p0, Value.int p1])).length) Slot.unset).toArray = ls at hl ⊢
  have hl : lv_has ls 4 [(0, Value.ref o), (1, Value.int p0), (2, Value.int p1)] := hl
  refine lv_aload_n hx hb dX6_changeMix_0 rfl (lv_at hl 0 rfl) ?_
  refine va_get (D := (dC, dI)) (ci := 6) (v := Value.ref a_mixed) (C := RX6) (T := TX6) (N := 4) hx hb hts iw_X6_changeMix_X6 hown hK hP 0 rfl rfl 3 (by decide) (hts _ kk_X6_changeMix_0) (fun _ h9 => h9) rfl dX6_changeMix_1 ?_
  refine lv_iload_n hx hb dX6_changeMix_4 rfl (lv_at hl 1 rfl) ?_
  have bp0 := hp0.u
  refine va_iald hx hb hK hP 1 0 rfl rfl (vq_in p0 5 (by omega)) dX6_changeMix_5 ?_
  refine lv_topi (fun x1 ex1 => ?_)
  refine lv_istore_n (lv' := [(3, Value.int x1), (0, Value.ref o), (1, Value.int p0), (2, Value.int p1)]) hx hb dX6_changeMix_6 rfl hl (by decide) rfl (fun ls hl => ?_)
  refine lv_aload_n hx hb dX6_changeMix_7 rfl (lv_at hl 1 rfl) ?_
  refine va_get (D := (dC, dI)) (ci := 6) (v := Value.ref a_mixed) (C := RX6) (T := TX6) (N := 4) hx hb hts iw_X6_changeMix_X6 hown hK hP 0 rfl rfl 3 (by decide) (hts _ kk_X6_changeMix_0) (fun _ h9 => h9) rfl dX6_changeMix_8 ?_
  refine lv_iload_n hx hb dX6_changeMix_11 rfl (lv_at hl 2 rfl) ?_
  refine lv_iload_n hx hb dX6_changeMix_12 rfl (lv_at hl 3 rfl) ?_
  refine va_iast hx hb hK hP hD hS 1 0 rfl rfl (vq_in p0 5 (by omega)) dX6_changeMix_13 (fun H locs hP hD hS => ?_)
  have hP : va_P (dC, dI) vwCl [(o, Sum.inr (6, [Value.int v_lowerNumber, Value.ref a_press, Value.int v_pressOfElse, Value.ref a_mixed])), (a_mixed, Sum.inl (k_a_mixed, 5, Sum.inl (upd f_a_mixed (Int32.toNatClampNeg p0) p1)))] H := hP
  have hD : va_D A [(o, Sum.inr (6, [Value.int v_lowerNumber, Value.ref a_press, Value.int v_pressOfElse, Value.ref a_mixed])), (a_mixed, Sum.inl (k_a_mixed, 5, Sum.inl (upd f_a_mixed (Int32.toNatClampNeg p0) p1)))] := hD
  have wf2 : (upd f_a_mixed (Int32.toNatClampNeg p0) p1) (Int32.toNatClampNeg p0) = p1 := pk_us
  generalize qf2 : upd f_a_mixed (Int32.toNatClampNeg p0) p1 = f2 at hP hD wf2
  have hP : va_P (dC, dI) vwCl [(o, Sum.inr (6, [Value.int v_lowerNumber, Value.ref a_press, Value.int v_pressOfElse, Value.ref a_mixed])), (a_mixed, Sum.inl (k_a_mixed, 5, Sum.inl f2))] H := hP
  have hD : va_D A [(o, Sum.inr (6, [Value.int v_lowerNumber, Value.ref a_press, Value.int v_pressOfElse, Value.ref a_mixed])), (a_mixed, Sum.inl (k_a_mixed, 5, Sum.inl f2))] := hD
  refine lv_iload_n hx hb dX6_changeMix_14 rfl (lv_at hl 0 rfl) ?_
  have hP9 := hP.sub (ws' := [(o, Sum.inr (6, [Value.int v_lowerNumber, Value.ref a_press, Value.int v_pressOfElse, Value.ref a_mixed])), (a_mixed, Sum.inl (k_a_mixed, 5, Sum.inl f2))]) [0, 1] rfl
  have hD9 := hD.sub (ws' := [(o, Sum.inr (6, [Value.int v_lowerNumber, Value.ref a_press, Value.int v_pressOfElse, Value.ref a_mixed])), (a_mixed, Sum.inl (k_a_mixed, 5, Sum.inl f2))]) [0, 1] (by decide) rfl
  have bx1 := i32_rng x1
  exact W.iret (v := x1) hx hb hr (fun t ht hW => ⟨⟨x1, x1, rfl, rfl, f2, (by exact ex1), (by first | rfl | exact qf2.symm), by rw [ht]; exact hP9, hD9⟩, hS.F ht⟩) hS.2.2 dX6_changeMix_15

set_option maxHeartbeats 4000000 in
set_option maxRecDepth 100000 in
theorem ct_X6_pressedAt (l : Launch) (dC : Nat → ClassId) (dI : Nat → Nat → Nat) (o : Nat) (p0 : Nat) (p1 : Int32) (p2 : Int32) (v_lowerNumber : Int32) (a_press : Nat) (v_pressOfElse : Int32) (a_mixed : Nat) (k_a_press : ClassId) (f_a_press : Nat → Int32) (p0_v_signs : Int32) (p0_v_works : Int32) (p0_v_whole : Int32) (p0_v_otherwise : Int32) (p0_v_least : Int32) (p0_v_rates : Int32) (p0_a_brings : Nat) (p0_a_costs : Nat) (p0_a_chances : Nat) (p0_a_rate : Nat) (p0_a_mark : Nat) (k_p0_a_chances : ClassId) (R_p0_a_chances : Nat → Nat) (LP : List Nat) (sh : Nat → Nat) (fp : Nat → va_E) (cI : ClassId) (cJ : ClassId) (CT : Nat → Nat → Int32) (hp1 : iv p1 0 4) (hp2 : iv p2 0 3) (hp0_v_works : iv p0_v_works 0 5) (hfp : pok cI cJ LP sh CT fp) (hRR_p0_a_chances : ∀ i : Nat, i < 5 → R_p0_a_chances i ∈ LP ∧ sh (R_p0_a_chances i) = 104) (hpe : iv v_pressOfElse 0 9999) (hpp : ∀ i : Nat, i < 5 → iv (f_a_press i) 0 9999) (sz : Nat) : Met l yX6_pressedAt wsX6_pressedAt ({ frames := 0, cells := 0, slots := 0, locals := 0 }) (va_Pc [Value.ref o, Value.ref p0, Value.int p1, Value.int p2] (fun U => U.heap.size = sz ∧ va_P (dC, dI) vwCl ([(o, Sum.inr (6, [Value.int v_lowerNumber, Value.ref a_press, Value.int v_pressOfElse, Value.ref a_mixed])), (a_press, Sum.inl (k_a_press, 5, Sum.inl f_a_press)), (p0, Sum.inr (3, [Value.int p0_v_signs, Value.int p0_v_works, Value.int p0_v_whole, Value.int p0_v_otherwise, Value.int p0_v_least, Value.int p0_v_rates, Value.ref p0_a_brings, Value.ref p0_a_costs, Value.ref p0_a_chances, Value.ref p0_a_rate, Value.ref p0_a_mark])), (p0_a_chances, Sum.inl (k_p0_a_chances, 5, Sum.inr (Sum.inr (Sum.inr (Sum.inr (rows_of 5 R_p0_a_chances))))))] ++ va_pl LP fp) U.heap ∧ va_K (dC, dI) vwCl [(k_a_press, FieldType.int), (k_p0_a_chances, (FieldType.array FieldType.int)), (cI, FieldType.int), (cJ, FieldType.long)] U ∧ va_D (fun _ => True) ([(o, Sum.inr (6, [Value.int v_lowerNumber, Value.ref a_press, Value.int v_pressOfElse, Value.ref a_mixed])), (a_press, Sum.inl (k_a_press, 5, Sum.inl f_a_press)), (p0, Sum.inr (3, [Value.int p0_v_signs, Value.int p0_v_works, Value.int p0_v_whole, Value.int p0_v_otherwise, Value.int p0_v_least, Value.int p0_v_rates, Value.ref p0_a_brings, Value.ref p0_a_costs, Value.ref p0_a_chances, Value.ref p0_a_rate, Value.ref p0_a_mark])), (p0_a_chances, Sum.inl (k_p0_a_chances, 5, Sum.inr (Sum.inr (Sum.inr (Sum.inr (rows_of 5 R_p0_a_chances))))))] ++ va_pl LP fp))) (va_Ql (fun (r u : Int64) => u = r) (fun (r : Int64) t => (r.toInt = prS v_pressOfElse f_a_press (fun a => CT (R_p0_a_chances a)) p1.toNatClampNeg p2.toNatClampNeg p0_v_works.toNatClampNeg) ∧ va_P (dC, dI) vwCl ([(o, Sum.inr (6, [Value.int v_lowerNumber, Value.ref a_press, Value.int v_pressOfElse, Value.ref a_mixed])), (a_press, Sum.inl (k_a_press, 5, Sum.inl f_a_press)), (p0, Sum.inr (3, [Value.int p0_v_signs, Value.int p0_v_works, Value.int p0_v_whole, Value.int p0_v_otherwise, Value.int p0_v_least, Value.int p0_v_rates, Value.ref p0_a_brings, Value.ref p0_a_costs, Value.ref p0_a_chances, Value.ref p0_a_rate, Value.ref p0_a_mark])), (p0_a_chances, Sum.inl (k_p0_a_chances, 5, Sum.inr (Sum.inr (Sum.inr (Sum.inr (rows_of 5 R_p0_a_chances))))))] ++ va_pl LP fp) t.heap ∧ va_D (va_A ([(o, Sum.inr (6, [Value.int v_lowerNumber, Value.ref a_press, Value.int v_pressOfElse, Value.ref a_mixed])), (a_press, Sum.inl (k_a_press, 5, Sum.inl f_a_press)), (p0, Sum.inr (3, [Value.int p0_v_signs, Value.int p0_v_works, Value.int p0_v_whole, Value.int p0_v_otherwise, Value.int p0_v_least, Value.int p0_v_rates, Value.ref p0_a_brings, Value.ref p0_a_costs, Value.ref p0_a_chances, Value.ref p0_a_rate, Value.ref p0_a_mark])), (p0_a_chances, Sum.inl (k_p0_a_chances, 5, Sum.inr (Sum.inr (Sum.inr (Sum.inr (rows_of 5 R_p0_a_chances))))))] ++ va_pl LP fp) sz) ([(o, Sum.inr (6, [Value.int v_lowerNumber, Value.ref a_press, Value.int v_pressOfElse, Value.ref a_mixed])), (a_press, Sum.inl (k_a_press, 5, Sum.inl f_a_press)), (p0, Sum.inr (3, [Value.int p0_v_signs, Value.int p0_v_works, Value.int p0_v_whole, Value.int p0_v_otherwise, Value.int p0_v_least, Value.int p0_v_rates, Value.ref p0_a_brings, Value.ref p0_a_costs, Value.ref p0_a_chances, Value.ref p0_a_rate, Value.ref p0_a_mark])), (p0_a_chances, Sum.inl (k_p0_a_chances, 5, Sum.inr (Sum.inr (Sum.inr (Sum.inr (rows_of 5 R_p0_a_chances))))))] ++ va_pl LP fp)) (va_A ([(o, Sum.inr (6, [Value.int v_lowerNumber, Value.ref a_press, Value.int v_pressOfElse, Value.ref a_mixed])), (a_press, Sum.inl (k_a_press, 5, Sum.inl f_a_press)), (p0, Sum.inr (3, [Value.int p0_v_signs, Value.int p0_v_works, Value.int p0_v_whole, Value.int p0_v_otherwise, Value.int p0_v_least, Value.int p0_v_rates, Value.ref p0_a_brings, Value.ref p0_a_costs, Value.ref p0_a_chances, Value.ref p0_a_rate, Value.ref p0_a_mark])), (p0_a_chances, Sum.inl (k_p0_a_chances, 5, Sum.inr (Sum.inr (Sum.inr (Sum.inr (rows_of 5 R_p0_a_chances))))))] ++ va_pl LP fp) sz)) 0 0 (va_A ([(o, Sum.inr (6, [Value.int v_lowerNumber, Value.ref a_press, Value.int v_pressOfElse, Value.ref a_mixed])), (a_press, Sum.inl (k_a_press, 5, Sum.inl f_a_press)), (p0, Sum.inr (3, [Value.int p0_v_signs, Value.int p0_v_works, Value.int p0_v_whole, Value.int p0_v_otherwise, Value.int p0_v_least, Value.int p0_v_rates, Value.ref p0_a_brings, Value.ref p0_a_costs, Value.ref p0_a_chances, Value.ref p0_a_rate, Value.ref p0_a_mark])), (p0_a_chances, Sum.inl (k_p0_a_chances, 5, Sum.inr (Sum.inr (Sum.inr (Sum.inr (rows_of 5 R_p0_a_chances))))))] ++ va_pl LP fp) sz) := by
  refine Met.ofW (cc := cX6_pressedAt) (maxL := 7) (ret := (some .long)) pn_X6 rfl ?_
  intro p e s m args below meth c s₁ B hml hv
  obtain ⟨rfl, hsz, hP, hK, hD0⟩ := hv
  have hx := B.exec
  have hb := B.bytes
  have hr := B.returns
  have hts := atoms_spec (ws := wsX6_pressedAt) B.pre
  have hown : s.vm.findClass RX6 = some m.cls := findClass_of_methodNamed B.named
  have hlocks := B.notSynchronized
  subst hsz
  have hD := hD0.self (sz := s.heap.size)
  generalize hAe : va_A ([(o, Sum.inr (6, [Value.int v_lowerNumber, Value.ref a_press, Value.int v_pressOfElse, Value.ref a_mixed])), (a_press, Sum.inl (k_a_press, 5, Sum.inl f_a_press)), (p0, Sum.inr (3, [Value.int p0_v_signs, Value.int p0_v_works, Value.int p0_v_whole, Value.int p0_v_otherwise, Value.int p0_v_least, Value.int p0_v_rates, Value.ref p0_a_brings, Value.ref p0_a_costs, Value.ref p0_a_chances, Value.ref p0_a_rate, Value.ref p0_a_mark])), (p0_a_chances, Sum.inl (k_p0_a_chances, 5, Sum.inr (Sum.inr (Sum.inr (Sum.inr (rows_of 5 R_p0_a_chances))))))] ++ va_pl LP fp) s.heap.size = A at hD ⊢
  have hA : ∀ q : Nat, s.heap.size ≤ q → A q := fun q h => by rw [← hAe]; exact Or.inr h
  have hS : va_S A s.heap s.heap [] := va_S.rf
  have hP : va_P (dC, dI) vwCl ([(o, Sum.inr (6, [Value.int v_lowerNumber, Value.ref a_press, Value.int v_pressOfElse, Value.ref a_mixed])), (a_press, Sum.inl (k_a_press, 5, Sum.inl f_a_press)), (p0, Sum.inr (3, [Value.int p0_v_signs, Value.int p0_v_works, Value.int p0_v_whole, Value.int p0_v_otherwise, Value.int p0_v_least, Value.int p0_v_rates, Value.ref p0_a_brings, Value.ref p0_a_costs, Value.ref p0_a_chances, Value.ref p0_a_rate, Value.ref p0_a_mark])), (p0_a_chances, Sum.inl (k_p0_a_chances, 5, Sum.inr (Sum.inr (Sum.inr (Sum.inr (rows_of 5 R_p0_a_chances))))))] ++ va_pl LP fp) s.heap := hP
  have hl := lv_entry ([Value.ref o, Value.ref p0, Value.int p1, Value.int p2]) (n := 7) (Nat.le_of_ble_eq_true rfl)
  rw [lg_entry_eq]
  generalize (lg_sl ([Value.ref o, Value.ref p0, Value.int p1, Value.int p2]) ++ List.replicate (7 - (lg_sl ([Value.ref o, Value.ref p0, Value.int p1, Value.int p2])).length) Slot.unset).toArray = ls at hl ⊢
  have hl : lv_has ls 7 [(0, Value.ref o), (1, Value.ref p0), (2, Value.int p1), (3, Value.int p2)] := hl
  have hcb : ∀ b : Nat, b < 5 → ivf (CT (R_p0_a_chances b)) 0 10 := fun b hb => (pok_104 hfp (hRR_p0_a_chances b hb)).2
  have bp0_v_works := hp0_v_works.u
  have bp1 := hp1.u
  have bp2 := hp2.u
  refine lv_aload_n hx hb dX6_pressedAt_0 rfl (lv_at hl 0 rfl) ?_
  refine va_get (D := (dC, dI)) (ci := 6) (v := Value.int v_pressOfElse) (C := RX6) (T := TX6) (N := 4) hx hb hts iw_X6_pressedAt_X6 hown hK hP 0 rfl rfl 2 (by decide) (hts _ kk_X6_pressedAt_0) (fun _ h9 => h9) rfl dX6_pressedAt_1 ?_
  refine lv_i2l (v := (v_pressOfElse).toInt64) hx hb dX6_pressedAt_4 rfl ?_
  refine lv_aload_n hx hb dX6_pressedAt_5 rfl (lv_at hl 1 rfl) ?_
  refine va_get (D := (dC, dI)) (ci := 3) (v := Value.ref p0_a_chances) (C := RX3) (T := TX3) (N := 11) hx hb hts iw_X6_pressedAt_X3 hown hK hP 2 rfl rfl 8 (by decide) (hts _ kk_X6_pressedAt_1) (fun _ h9 => h9) rfl dX6_pressedAt_6 ?_
  refine lv_iload_n hx hb dX6_pressedAt_9 rfl (lv_at hl 2 rfl) ?_
  have hinrw1 : vp_in p1 5 := (vq_in p1 5 (by omega))
  refine va_aldA hx hb hK hP 3 1 rfl rfl hinrw1 dX6_pressedAt_10 ?_
  obtain ⟨rw1, erw1⟩ : ∃ z : Nat, z = R_p0_a_chances (Int32.toNatClampNeg p1) := ⟨_, rfl⟩
  refine px_v ((row_sel hinrw1).trans (congrArg Value.ref erw1.symm)) ?_
  have mrw1 : rw1 ∈ LP ∧ sh rw1 = 104 := by rw [erw1]; exact hRR_p0_a_chances _ (vin_lt hinrw1)
  refine lv_iload_n hx hb dX6_pressedAt_11 rfl (lv_at hl 3 rfl) ?_
  obtain ⟨hgk2, bgk2⟩ := pok_104 (hfp) mrw1
  obtain ⟨kk3, hkk3⟩ := va_pl_get (X := [(o, Sum.inr (6, [Value.int v_lowerNumber, Value.ref a_press, Value.int v_pressOfElse, Value.ref a_mixed])), (a_press, Sum.inl (k_a_press, 5, Sum.inl f_a_press)), (p0, Sum.inr (3, [Value.int p0_v_signs, Value.int p0_v_works, Value.int p0_v_whole, Value.int p0_v_otherwise, Value.int p0_v_least, Value.int p0_v_rates, Value.ref p0_a_brings, Value.ref p0_a_costs, Value.ref p0_a_chances, Value.ref p0_a_rate, Value.ref p0_a_mark])), (p0_a_chances, Sum.inl (k_p0_a_chances, 5, Sum.inr (Sum.inr (Sum.inr (Sum.inr (rows_of 5 R_p0_a_chances))))))]) (f := fp) mrw1.1
  have qkk3 := hkk3
  rw [hgk2] at qkk3
  refine va_iald hx hb hK hP kk3 2 qkk3 rfl (vq_in p2 4 (by omega)) dX6_pressedAt_12 ?_
  refine lv_topi (fun x4 ex4 => ?_)
  have hx4 : iv x4 0 10 := iv.of (bgk2 _) ex4
  refine lv_i2l (v := (x4).toInt64) hx hb dX6_pressedAt_13 rfl ?_
  refine lv_lmul hx hb dX6_pressedAt_14 ?_
  refine lv_topl (fun y5 ey5 => ?_)
  have hy5 : jv y5 (-21474836480) 21474836480 := jv.mula (B := 2147483648) (D := 10) ey5 (jv.i (show iv v_pressOfElse (-2147483648) 2147483647 from i32_rng v_pressOfElse)) (jv.i (show iv x4 0 10 from hx4)) (by decide) (by decide) (by decide) (by decide) (by decide) (by decide)
  refine lv_lstore (lv' := [(4, Value.long y5), (0, Value.ref o), (1, Value.ref p0), (2, Value.int p1), (3, Value.int p2)]) hx hb dX6_pressedAt_15 hl (by decide) rfl (fun ls hl => ?_)
  refine lv_iconst (v := 0) hx hb dX6_pressedAt_17 (by decide) ?_
  refine lv_istore (lv' := [(6, Value.int 0), (4, Value.long y5), (0, Value.ref o), (1, Value.ref p0), (2, Value.int p1), (3, Value.int p2)]) hx hb dX6_pressedAt_18 hl (by decide) rfl (fun ls hl => ?_)
  refine tl_loop (I := fun nn H locs ls => ∃ (v6 : Int32) (v7 : Int64), nn = (5 - v6.toInt).toNat ∧ iv v6 0 5 ∧ ((v7).toInt = prS v_pressOfElse f_a_press (fun a => CT (R_p0_a_chances a)) p1.toNatClampNeg p2.toNatClampNeg (v6).toNatClampNeg) ∧ ((v6).toInt ≤ p0_v_works.toInt) ∧  va_P (dC, dI) vwCl ([(o, Sum.inr (6, [Value.int v_lowerNumber, Value.ref a_press, Value.int v_pressOfElse, Value.ref a_mixed])), (a_press, Sum.inl (k_a_press, 5, Sum.inl f_a_press)), (p0, Sum.inr (3, [Value.int p0_v_signs, Value.int p0_v_works, Value.int p0_v_whole, Value.int p0_v_otherwise, Value.int p0_v_least, Value.int p0_v_rates, Value.ref p0_a_brings, Value.ref p0_a_costs, Value.ref p0_a_chances, Value.ref p0_a_rate, Value.ref p0_a_mark])), (p0_a_chances, Sum.inl (k_p0_a_chances, 5, Sum.inr (Sum.inr (Sum.inr (Sum.inr (rows_of 5 R_p0_a_chances))))))] ++ va_pl LP fp) H ∧ va_D A ([(o, Sum.inr (6, [Value.int v_lowerNumber, Value.ref a_press, Value.int v_pressOfElse, Value.ref a_mixed])), (a_press, Sum.inl (k_a_press, 5, Sum.inl f_a_press)), (p0, Sum.inr (3, [Value.int p0_v_signs, Value.int p0_v_works, Value.int p0_v_whole, Value.int p0_v_otherwise, Value.int p0_v_least, Value.int p0_v_rates, Value.ref p0_a_brings, Value.ref p0_a_costs, Value.ref p0_a_chances, Value.ref p0_a_rate, Value.ref p0_a_mark])), (p0_a_chances, Sum.inl (k_p0_a_chances, 5, Sum.inr (Sum.inr (Sum.inr (Sum.inr (rows_of 5 R_p0_a_chances))))))] ++ va_pl LP fp) ∧ va_S A s.heap H locs ∧ lv_has ls 7 [(6, Value.int v6), (4, Value.long v7), (0, Value.ref o), (1, Value.ref p0), (2, Value.int p1), (3, Value.int p2)]) ?_ ⟨0, y5, rfl, (iv.m (by decide)), (prS_0 (a := p1.toNatClampNeg) (s := p2.toNatClampNeg) (CC := (fun a => CT (R_p0_a_chances a))) hpe (hcb _ (by have e9 := nn_eq p1; omega) _) (show x4 = _ from by rw [← erw1]; exact ex4) ey5), (by have hz9 : (0 : Int32).toInt = 0 := (by decide); omega), hP, hD, hS, lv_sub hl [0, 1, 2, 3, 4, 5] rfl⟩
  clear hP hD hS hl
  intro nn20 H locs ls hI ih20
  obtain ⟨v6, v7, hn20, hv6, hi20_0, hi20_1, hP, hD, hS, hl⟩ := hI
  have bv6 := hv6.u
  refine lv_iload hx hb dX6_pressedAt_20 (lv_at hl 0 rfl) ?_
  refine lv_aload_n hx hb dX6_pressedAt_22 rfl (lv_at hl 3 rfl) ?_
  refine va_get (D := (dC, dI)) (ci := 3) (v := Value.int p0_v_works) (C := RX3) (T := TX3) (N := 11) hx hb hts iw_X6_pressedAt_X3 hown hK hP 2 rfl rfl 1 (by decide) (hts _ kk_X6_pressedAt_2) (fun _ h9 => h9) rfl dX6_pressedAt_23 ?_
  refine lv_icmp_ge (tgt := 68) hx hb dX6_pressedAt_26 (by decide) (fun c8 => ?_) (fun c8 => ?_)
  · have c89 := i32_le c8 rfl rfl
    refine lv_lload hx hb dX6_pressedAt_68 (lv_at hl 1 rfl) ?_
    have hP9 := hP.part (cx := [(o, Sum.inr (6, [Value.int v_lowerNumber, Value.ref a_press, Value.int v_pressOfElse, Value.ref a_mixed])), (a_press, Sum.inl (k_a_press, 5, Sum.inl f_a_press)), (p0, Sum.inr (3, [Value.int p0_v_signs, Value.int p0_v_works, Value.int p0_v_whole, Value.int p0_v_otherwise, Value.int p0_v_least, Value.int p0_v_rates, Value.ref p0_a_brings, Value.ref p0_a_costs, Value.ref p0_a_chances, Value.ref p0_a_rate, Value.ref p0_a_mark])), (p0_a_chances, Sum.inl (k_p0_a_chances, 5, Sum.inr (Sum.inr (Sum.inr (Sum.inr (rows_of 5 R_p0_a_chances))))))]) [0, 1, 2, 3] rfl
    have hD9 := hD.part (cx := [(o, Sum.inr (6, [Value.int v_lowerNumber, Value.ref a_press, Value.int v_pressOfElse, Value.ref a_mixed])), (a_press, Sum.inl (k_a_press, 5, Sum.inl f_a_press)), (p0, Sum.inr (3, [Value.int p0_v_signs, Value.int p0_v_works, Value.int p0_v_whole, Value.int p0_v_otherwise, Value.int p0_v_least, Value.int p0_v_rates, Value.ref p0_a_brings, Value.ref p0_a_costs, Value.ref p0_a_chances, Value.ref p0_a_rate, Value.ref p0_a_mark])), (p0_a_chances, Sum.inl (k_p0_a_chances, 5, Sum.inr (Sum.inr (Sum.inr (Sum.inr (rows_of 5 R_p0_a_chances))))))]) [0, 1, 2, 3] (by decide) rfl
    exact W.lret (v := v7) hx hb hr (fun t ht hW => ⟨⟨v7, v7, rfl, rfl, (by exact prS_end hi20_0 (by omega) (by omega)), by rw [ht]; exact hP9, hD9⟩, hS.F ht⟩) hS.2.2 dX6_pressedAt_70
  · have c89 := i32_nle c8 rfl rfl
    refine lv_lload hx hb dX6_pressedAt_29 (lv_at hl 1 rfl) ?_
    refine lv_aload_n hx hb dX6_pressedAt_31 rfl (lv_at hl 2 rfl) ?_
    refine va_get (D := (dC, dI)) (ci := 6) (v := Value.ref a_press) (C := RX6) (T := TX6) (N := 4) hx hb hts iw_X6_pressedAt_X6 hown hK hP 0 rfl rfl 1 (by decide) (hts _ kk_X6_pressedAt_3) (fun _ h9 => h9) rfl dX6_pressedAt_32 ?_
    refine lv_iload hx hb dX6_pressedAt_35 (lv_at hl 0 rfl) ?_
    refine va_iald hx hb hK hP 1 0 rfl rfl (vq_in v6 5 (by omega)) dX6_pressedAt_37 ?_
    refine lv_topi (fun x9 ex9 => ?_)
    refine lv_i2l (v := (x9).toInt64) hx hb dX6_pressedAt_38 rfl ?_
    refine lv_aload_n hx hb dX6_pressedAt_39 rfl (lv_at hl 3 rfl) ?_
    refine va_get (D := (dC, dI)) (ci := 3) (v := Value.ref p0_a_chances) (C := RX3) (T := TX3) (N := 11) hx hb hts iw_X6_pressedAt_X3 hown hK hP 2 rfl rfl 8 (by decide) (hts _ kk_X6_pressedAt_1) (fun _ h9 => h9) rfl dX6_pressedAt_40 ?_
    refine lv_iload_n hx hb dX6_pressedAt_43 rfl (lv_at hl 4 rfl) ?_
    have hinrw10 : vp_in p1 5 := (vq_in p1 5 (by omega))
    refine va_aldA hx hb hK hP 3 1 rfl rfl hinrw10 dX6_pressedAt_44 ?_
    obtain ⟨rw10, erw10⟩ : ∃ z : Nat, z = R_p0_a_chances (Int32.toNatClampNeg p1) := ⟨_, rfl⟩
    refine px_v ((row_sel hinrw10).trans (congrArg Value.ref erw10.symm)) ?_
    have mrw10 : rw10 ∈ LP ∧ sh rw10 = 104 := by rw [erw10]; exact hRR_p0_a_chances _ (vin_lt hinrw10)
    refine lv_iload_n hx hb dX6_pressedAt_45 rfl (lv_at hl 5 rfl) ?_
    obtain ⟨hgk11, bgk11⟩ := pok_104 (hfp) mrw10
    obtain ⟨kk12, hkk12⟩ := va_pl_get (X := [(o, Sum.inr (6, [Value.int v_lowerNumber, Value.ref a_press, Value.int v_pressOfElse, Value.ref a_mixed])), (a_press, Sum.inl (k_a_press, 5, Sum.inl f_a_press)), (p0, Sum.inr (3, [Value.int p0_v_signs, Value.int p0_v_works, Value.int p0_v_whole, Value.int p0_v_otherwise, Value.int p0_v_least, Value.int p0_v_rates, Value.ref p0_a_brings, Value.ref p0_a_costs, Value.ref p0_a_chances, Value.ref p0_a_rate, Value.ref p0_a_mark])), (p0_a_chances, Sum.inl (k_p0_a_chances, 5, Sum.inr (Sum.inr (Sum.inr (Sum.inr (rows_of 5 R_p0_a_chances))))))]) (f := fp) mrw10.1
    have qkk12 := hkk12
    rw [hgk11] at qkk12
    refine va_iald hx hb hK hP kk12 2 qkk12 rfl (vq_in p2 4 (by omega)) dX6_pressedAt_46 ?_
    refine lv_topi (fun x13 ex13 => ?_)
    have hx13 : iv x13 0 10 := iv.of (bgk11 _) ex13
    refine lv_aload_n hx hb dX6_pressedAt_47 rfl (lv_at hl 3 rfl) ?_
    refine va_get (D := (dC, dI)) (ci := 3) (v := Value.ref p0_a_chances) (C := RX3) (T := TX3) (N := 11) hx hb hts iw_X6_pressedAt_X3 hown hK hP 2 rfl rfl 8 (by decide) (hts _ kk_X6_pressedAt_1) (fun _ h9 => h9) rfl dX6_pressedAt_48 ?_
    refine lv_iload hx hb dX6_pressedAt_51 (lv_at hl 0 rfl) ?_
    have hinrw14 : vp_in v6 5 := (vq_in v6 5 (by omega))
    refine va_aldA hx hb hK hP 3 1 rfl rfl hinrw14 dX6_pressedAt_53 ?_
    obtain ⟨rw14, erw14⟩ : ∃ z : Nat, z = R_p0_a_chances (Int32.toNatClampNeg v6) := ⟨_, rfl⟩
    refine px_v ((row_sel hinrw14).trans (congrArg Value.ref erw14.symm)) ?_
    have mrw14 : rw14 ∈ LP ∧ sh rw14 = 104 := by rw [erw14]; exact hRR_p0_a_chances _ (vin_lt hinrw14)
    refine lv_iload_n hx hb dX6_pressedAt_54 rfl (lv_at hl 5 rfl) ?_
    obtain ⟨hgk15, bgk15⟩ := pok_104 (hfp) mrw14
    obtain ⟨kk16, hkk16⟩ := va_pl_get (X := [(o, Sum.inr (6, [Value.int v_lowerNumber, Value.ref a_press, Value.int v_pressOfElse, Value.ref a_mixed])), (a_press, Sum.inl (k_a_press, 5, Sum.inl f_a_press)), (p0, Sum.inr (3, [Value.int p0_v_signs, Value.int p0_v_works, Value.int p0_v_whole, Value.int p0_v_otherwise, Value.int p0_v_least, Value.int p0_v_rates, Value.ref p0_a_brings, Value.ref p0_a_costs, Value.ref p0_a_chances, Value.ref p0_a_rate, Value.ref p0_a_mark])), (p0_a_chances, Sum.inl (k_p0_a_chances, 5, Sum.inr (Sum.inr (Sum.inr (Sum.inr (rows_of 5 R_p0_a_chances))))))]) (f := fp) mrw14.1
    have qkk16 := hkk16
    rw [hgk15] at qkk16
    refine va_iald hx hb hK hP kk16 2 qkk16 rfl (vq_in p2 4 (by omega)) dX6_pressedAt_55 ?_
    refine lv_topi (fun x17 ex17 => ?_)
    have hx17 : iv x17 0 10 := iv.of (bgk15 _) ex17
    refine lv_isub hx hb dX6_pressedAt_56 ?_
    refine lv_topi (fun x18 ex18 => ?_)
    have bx13 := hx13.u
    have bx17 := hx17.u
    have tx18 := i32_sub ex18 rfl rfl (by omega) (by omega)
    refine lv_i2l (v := (x18).toInt64) hx hb dX6_pressedAt_57 rfl ?_
    refine lv_lmul hx hb dX6_pressedAt_58 ?_
    refine lv_topl (fun y19 ey19 => ?_)
    have hy19 : jv y19 (-21474836480) 21474836480 := jv.mula (B := 2147483648) (D := 10) ey19 (jv.i (show iv x9 (-2147483648) 2147483647 from i32_rng x9)) (jv.i (show iv x18 (-10) 10 from (iv.m (by omega)))) (by decide) (by decide) (by decide) (by decide) (by decide) (by decide)
    refine lv_ladd hx hb dX6_pressedAt_59 ?_
    refine lv_topl (fun y20 ey20 => ?_)
    refine lv_lstore (lv' := [(4, Value.long y20), (6, Value.int v6), (0, Value.ref o), (1, Value.ref p0), (2, Value.int p1), (3, Value.int p2)]) hx hb dX6_pressedAt_60 hl (by decide) rfl (fun ls hl => ?_)
    obtain ⟨x21, ex21⟩ : ∃ z : Int32, v6 + Int32.ofInt 1 = z := ⟨_, rfl⟩
    have tx21 := i32_inc ex21 rfl (by decide) (by omega) (by omega)
    refine lv_iinc (v := x21) (lv' := [(6, Value.int x21), (4, Value.long y20), (0, Value.ref o), (1, Value.ref p0), (2, Value.int p1), (3, Value.int p2)]) hx hb dX6_pressedAt_62 hl (k := 1) rfl ex21 (by decide) rfl (fun ls hl => ?_)
    refine lv_goto (tgt := 20) hx hb dX6_pressedAt_65 (by decide) ?_
    exact ih20 _ _ _ _ (ms_up hn20 tx21 (by decide) (by omega)) ⟨x21, y20, rfl, (iv.m (by omega)), (prS_up hpe hpp (fun i hi => hcb i hi p2.toNatClampNeg) (by have e9 := nn_eq p1; omega) hi20_0 ex9 (show x13 = _ from by rw [← erw10]; exact ex13) (show x17 = _ from by rw [← erw14]; exact ex17) (by rw [l_i]; exact tx18) ey19 ey20 tx21 (by omega) (by omega)), (by omega), hP, hD, hS, lv_sub hl [0, 1, 2, 3, 4, 5] rfl⟩

set_option maxHeartbeats 4000000 in
set_option maxRecDepth 100000 in
theorem ct_X6_leastOf (l : Launch) (dC : Nat → ClassId) (dI : Nat → Nat → Nat) (p0 : Nat) (p1 : Int64) (p2 : Int64) (p0_v_signs : Int32) (p0_v_works : Int32) (p0_v_whole : Int32) (p0_v_otherwise : Int32) (p0_v_least : Int32) (p0_v_rates : Int32) (p0_a_brings : Nat) (p0_a_costs : Nat) (p0_a_chances : Nat) (p0_a_rate : Nat) (p0_a_mark : Nat) (k_p0_a_rate : ClassId) (f_p0_a_rate : Nat → Int32) (k_p0_a_mark : ClassId) (f_p0_a_mark : Nat → Int32) (hp0_v_rates : iv p0_v_rates 1 3) (hf_p0_a_rate : ivf f_p0_a_rate 0 5) (hf_p0_a_mark : ivf f_p0_a_mark 0 99) (sz : Nat) : Met l yX6_leastOf wsX6_leastOf ({ frames := 2, cells := 0, slots := 0, locals := 38 }) (va_Pc [Value.ref p0, Value.long p1, Value.long p2] (fun U => U.heap.size = sz ∧ va_P (dC, dI) vwCl [(p0, Sum.inr (3, [Value.int p0_v_signs, Value.int p0_v_works, Value.int p0_v_whole, Value.int p0_v_otherwise, Value.int p0_v_least, Value.int p0_v_rates, Value.ref p0_a_brings, Value.ref p0_a_costs, Value.ref p0_a_chances, Value.ref p0_a_rate, Value.ref p0_a_mark])), (p0_a_rate, Sum.inl (k_p0_a_rate, 3, Sum.inl f_p0_a_rate)), (p0_a_mark, Sum.inl (k_p0_a_mark, 2, Sum.inl f_p0_a_mark))] U.heap ∧ va_K (dC, dI) vwCl [(k_p0_a_rate, FieldType.int), (k_p0_a_mark, FieldType.int)] U ∧ va_D (fun _ => True) [(p0, Sum.inr (3, [Value.int p0_v_signs, Value.int p0_v_works, Value.int p0_v_whole, Value.int p0_v_otherwise, Value.int p0_v_least, Value.int p0_v_rates, Value.ref p0_a_brings, Value.ref p0_a_costs, Value.ref p0_a_chances, Value.ref p0_a_rate, Value.ref p0_a_mark])), (p0_a_rate, Sum.inl (k_p0_a_rate, 3, Sum.inl f_p0_a_rate)), (p0_a_mark, Sum.inl (k_p0_a_mark, 2, Sum.inl f_p0_a_mark))])) (va_Ql (fun (r u : Int64) => u = r) (fun (r : Int64) t => va_P (dC, dI) vwCl [(p0, Sum.inr (3, [Value.int p0_v_signs, Value.int p0_v_works, Value.int p0_v_whole, Value.int p0_v_otherwise, Value.int p0_v_least, Value.int p0_v_rates, Value.ref p0_a_brings, Value.ref p0_a_costs, Value.ref p0_a_chances, Value.ref p0_a_rate, Value.ref p0_a_mark])), (p0_a_rate, Sum.inl (k_p0_a_rate, 3, Sum.inl f_p0_a_rate)), (p0_a_mark, Sum.inl (k_p0_a_mark, 2, Sum.inl f_p0_a_mark))] t.heap ∧ va_D (va_A [(p0, Sum.inr (3, [Value.int p0_v_signs, Value.int p0_v_works, Value.int p0_v_whole, Value.int p0_v_otherwise, Value.int p0_v_least, Value.int p0_v_rates, Value.ref p0_a_brings, Value.ref p0_a_costs, Value.ref p0_a_chances, Value.ref p0_a_rate, Value.ref p0_a_mark])), (p0_a_rate, Sum.inl (k_p0_a_rate, 3, Sum.inl f_p0_a_rate)), (p0_a_mark, Sum.inl (k_p0_a_mark, 2, Sum.inl f_p0_a_mark))] sz) [(p0, Sum.inr (3, [Value.int p0_v_signs, Value.int p0_v_works, Value.int p0_v_whole, Value.int p0_v_otherwise, Value.int p0_v_least, Value.int p0_v_rates, Value.ref p0_a_brings, Value.ref p0_a_costs, Value.ref p0_a_chances, Value.ref p0_a_rate, Value.ref p0_a_mark])), (p0_a_rate, Sum.inl (k_p0_a_rate, 3, Sum.inl f_p0_a_rate)), (p0_a_mark, Sum.inl (k_p0_a_mark, 2, Sum.inl f_p0_a_mark))]) (va_A [(p0, Sum.inr (3, [Value.int p0_v_signs, Value.int p0_v_works, Value.int p0_v_whole, Value.int p0_v_otherwise, Value.int p0_v_least, Value.int p0_v_rates, Value.ref p0_a_brings, Value.ref p0_a_costs, Value.ref p0_a_chances, Value.ref p0_a_rate, Value.ref p0_a_mark])), (p0_a_rate, Sum.inl (k_p0_a_rate, 3, Sum.inl f_p0_a_rate)), (p0_a_mark, Sum.inl (k_p0_a_mark, 2, Sum.inl f_p0_a_mark))] sz)) 0 0 (va_A [(p0, Sum.inr (3, [Value.int p0_v_signs, Value.int p0_v_works, Value.int p0_v_whole, Value.int p0_v_otherwise, Value.int p0_v_least, Value.int p0_v_rates, Value.ref p0_a_brings, Value.ref p0_a_costs, Value.ref p0_a_chances, Value.ref p0_a_rate, Value.ref p0_a_mark])), (p0_a_rate, Sum.inl (k_p0_a_rate, 3, Sum.inl f_p0_a_rate)), (p0_a_mark, Sum.inl (k_p0_a_mark, 2, Sum.inl f_p0_a_mark))] sz) := by
  refine Met.ofW (cc := cX6_leastOf) (maxL := 9) (ret := (some .long)) pn_X6 rfl ?_
  intro p e s m args below meth c s₁ B hml hv
  obtain ⟨rfl, hsz, hP, hK, hD0⟩ := hv
  have hx := B.exec
  have hb := B.bytes
  have hr := B.returns
  have hts := atoms_spec (ws := wsX6_leastOf) B.pre
  have hown : s.vm.findClass RX6 = some m.cls := findClass_of_methodNamed B.named
  have hlocks := B.notSynchronized
  subst hsz
  have hD := hD0.self (sz := s.heap.size)
  generalize hAe : va_A [(p0, Sum.inr (3, [Value.int p0_v_signs, Value.int p0_v_works, Value.int p0_v_whole, Value.int p0_v_otherwise, Value.int p0_v_least, Value.int p0_v_rates, Value.ref p0_a_brings, Value.ref p0_a_costs, Value.ref p0_a_chances, Value.ref p0_a_rate, Value.ref p0_a_mark])), (p0_a_rate, Sum.inl (k_p0_a_rate, 3, Sum.inl f_p0_a_rate)), (p0_a_mark, Sum.inl (k_p0_a_mark, 2, Sum.inl f_p0_a_mark))] s.heap.size = A at hD ⊢
  have hA : ∀ q : Nat, s.heap.size ≤ q → A q := fun q h => by rw [← hAe]; exact Or.inr h
  have hS : va_S A s.heap s.heap [] := va_S.rf
  have hP : va_P (dC, dI) vwCl [(p0, Sum.inr (3, [Value.int p0_v_signs, Value.int p0_v_works, Value.int p0_v_whole, Value.int p0_v_otherwise, Value.int p0_v_least, Value.int p0_v_rates, Value.ref p0_a_brings, Value.ref p0_a_costs, Value.ref p0_a_chances, Value.ref p0_a_rate, Value.ref p0_a_mark])), (p0_a_rate, Sum.inl (k_p0_a_rate, 3, Sum.inl f_p0_a_rate)), (p0_a_mark, Sum.inl (k_p0_a_mark, 2, Sum.inl f_p0_a_mark))] s.heap := hP
  have hl := lv_entry ([Value.ref p0, Value.long p1, Value.long p2]) (n := 9) (Nat.le_of_ble_eq_true rfl)
  rw [lg_entry_eq]
  generalize (lg_sl ([Value.ref p0, Value.long p1, Value.long p2]) ++ List.replicate (9 - (lg_sl ([Value.ref p0, Value.long p1, Value.long p2])).length) Slot.unset).toArray = ls at hl ⊢
  have hl : lv_has ls 9 [(0, Value.ref p0), (1, Value.long p1), (3, Value.long p2)] := hl
  refine lv_lload_n hx hb dX6_leastOf_0 rfl (lv_at hl 1 rfl) ?_
  refine lv_aload_n hx hb dX6_leastOf_1 rfl (lv_at hl 0 rfl) ?_
  refine va_get (D := (dC, dI)) (ci := 3) (v := Value.int p0_v_least) (C := RX3) (T := TX3) (N := 11) hx hb hts iw_X6_leastOf_X3 hown hK hP 0 rfl rfl 4 (by decide) (hts _ kk_X6_leastOf_0) (fun _ h9 => h9) rfl dX6_leastOf_2 ?_
  refine lv_i2l (v := (p0_v_least).toInt64) hx hb dX6_leastOf_5 rfl ?_
  refine lv_lmul hx hb dX6_leastOf_6 ?_
  refine lv_topl (fun y1 ey1 => ?_)
  refine lv_lload_n hx hb dX6_leastOf_7 rfl (lv_at hl 2 rfl) ?_
  refine lv_aload_n hx hb dX6_leastOf_8 rfl (lv_at hl 0 rfl) ?_
  refine lv_aload_n hx hb dX6_leastOf_9 rfl (lv_at hl 0 rfl) ?_
  refine va_get (D := (dC, dI)) (ci := 3) (v := Value.int p0_v_least) (C := RX3) (T := TX3) (N := 11) hx hb hts iw_X6_leastOf_X3 hown hK hP 0 rfl rfl 4 (by decide) (hts _ kk_X6_leastOf_0) (fun _ h9 => h9) rfl dX6_leastOf_10 ?_
  have hPc := hP.sub (ws' := [(p0, Sum.inr (3, [Value.int p0_v_signs, Value.int p0_v_works, Value.int p0_v_whole, Value.int p0_v_otherwise, Value.int p0_v_least, Value.int p0_v_rates, Value.ref p0_a_brings, Value.ref p0_a_costs, Value.ref p0_a_chances, Value.ref p0_a_rate, Value.ref p0_a_mark])), (p0_a_rate, Sum.inl (k_p0_a_rate, 3, Sum.inl f_p0_a_rate)), (p0_a_mark, Sum.inl (k_p0_a_mark, 2, Sum.inl f_p0_a_mark))]) [0, 1, 2] rfl
  have hDc := hD.sub (ws' := [(p0, Sum.inr (3, [Value.int p0_v_signs, Value.int p0_v_works, Value.int p0_v_whole, Value.int p0_v_otherwise, Value.int p0_v_least, Value.int p0_v_rates, Value.ref p0_a_brings, Value.ref p0_a_costs, Value.ref p0_a_chances, Value.ref p0_a_rate, Value.ref p0_a_mark])), (p0_a_rate, Sum.inl (k_p0_a_rate, 3, Sum.inl f_p0_a_rate)), (p0_a_mark, Sum.inl (k_p0_a_mark, 2, Sum.inl f_p0_a_mark))]) [0, 1, 2] (by decide) rfl
  have hKc := hK.sub (tys' := [(k_p0_a_rate, FieldType.int), (k_p0_a_mark, FieldType.int)]) [0, 1] rfl
  have hFc := va_free (wc := [(p0, Sum.inr (3, [Value.int p0_v_signs, Value.int p0_v_works, Value.int p0_v_whole, Value.int p0_v_otherwise, Value.int p0_v_least, Value.int p0_v_rates, Value.ref p0_a_brings, Value.ref p0_a_costs, Value.ref p0_a_chances, Value.ref p0_a_rate, Value.ref p0_a_mark])), (p0_a_rate, Sum.inl (k_p0_a_rate, 3, Sum.inl f_p0_a_rate)), (p0_a_mark, Sum.inl (k_p0_a_mark, 2, Sum.inl f_p0_a_mark))]) hD hS hA [0, 1, 2] rfl
  refine va_calli (va_runV (As := [Value.int p0_v_least]) (rest := [Value.long p2, Value.long y1]) ⟨hx, hb, hml, hown, hts⟩ (ct_X3_feltOf l dC dI p0 p0_v_least p0_v_signs p0_v_works p0_v_whole p0_v_otherwise p0_v_least p0_v_rates p0_a_brings p0_a_costs p0_a_chances p0_a_rate p0_a_mark k_p0_a_rate f_p0_a_rate k_p0_a_mark f_p0_a_mark hp0_v_rates hf_p0_a_rate hf_p0_a_mark s.heap.size) (cwV 1 hts gX6_leastOf_X3_feltOf rfl rfl rfl ⟨rfl, cn_X3.1, cn_X3.2, ds_5⟩ ⟨Nat.le_of_ble_eq_true rfl, Nat.le_of_ble_eq_true rfl⟩) ⟨fun a U g mk q => by obtain ⟨q0, q1, qP, qK, qD⟩ := q; exact ⟨q0, q1, qP, va_K.moved (u := U) (U := U.calling g mk a) (Vm.Alike.refl U.vm) qK, qD⟩, va_recv hKc hPc (ci := 3) (q0 := 0) rfl rfl, fun U hU hW => ⟨rfl, by rw [hU], by rw [hU]; exact hPc, va_K.moved hW.alike hKc, hDc.weaken (fun _ _ _ _ => trivial)⟩⟩ rfl rfl hl.1 rfl (lv_room (Nat.le_of_ble_eq_true rfl)) dX6_leastOf_13 ⟨Nat.le_of_ble_eq_true rfl, Nat.le_of_ble_eq_true rfl⟩) hS (fun q _ h => hFc q h) hFc (fun r2 u t H1 locs ht hvm hw hB hz1 hk1 hS => ?_)
  have hw : r2 = u := hw.symm
  subst hw
  obtain ⟨w3, hP1, hD1⟩ := hB
  rw [ht] at hP1
  obtain ⟨hP, hD⟩ := va_join (wr := []) (w1 := [(p0, Sum.inr (3, [Value.int p0_v_signs, Value.int p0_v_works, Value.int p0_v_whole, Value.int p0_v_otherwise, Value.int p0_v_least, Value.int p0_v_rates, Value.ref p0_a_brings, Value.ref p0_a_costs, Value.ref p0_a_chances, Value.ref p0_a_rate, Value.ref p0_a_mark])), (p0_a_rate, Sum.inl (k_p0_a_rate, 3, Sum.inl f_p0_a_rate)), (p0_a_mark, Sum.inl (k_p0_a_mark, 2, Sum.inl f_p0_a_mark))]) hP hD [0, 1, 2] [] rfl rfl (by decide) (by decide) hk1 hFc hP1 hD1
  clear hPc hDc hKc hFc hP1 hD1 hk1 hz1
  generalize H1 = H at hP hS ⊢
  have hP : va_P (dC, dI) vwCl [(p0, Sum.inr (3, [Value.int p0_v_signs, Value.int p0_v_works, Value.int p0_v_whole, Value.int p0_v_otherwise, Value.int p0_v_least, Value.int p0_v_rates, Value.ref p0_a_brings, Value.ref p0_a_costs, Value.ref p0_a_chances, Value.ref p0_a_rate, Value.ref p0_a_mark])), (p0_a_rate, Sum.inl (k_p0_a_rate, 3, Sum.inl f_p0_a_rate)), (p0_a_mark, Sum.inl (k_p0_a_mark, 2, Sum.inl f_p0_a_mark))] H := hP
  have hD : va_D A [(p0, Sum.inr (3, [Value.int p0_v_signs, Value.int p0_v_works, Value.int p0_v_whole, Value.int p0_v_otherwise, Value.int p0_v_least, Value.int p0_v_rates, Value.ref p0_a_brings, Value.ref p0_a_costs, Value.ref p0_a_chances, Value.ref p0_a_rate, Value.ref p0_a_mark])), (p0_a_rate, Sum.inl (k_p0_a_rate, 3, Sum.inl f_p0_a_rate)), (p0_a_mark, Sum.inl (k_p0_a_mark, 2, Sum.inl f_p0_a_mark))] := hD
  refine W.widen (k := 0) (n := 0) (by decide) (by decide) ?_
  have br2 := i32_rng r2
  refine lv_i2l (v := (r2).toInt64) hx hb dX6_leastOf_16 rfl ?_
  refine lv_lmul hx hb dX6_leastOf_17 ?_
  refine lv_topl (fun y4 ey4 => ?_)
  refine lv_lsub hx hb dX6_leastOf_18 ?_
  refine lv_topl (fun y5 ey5 => ?_)
  refine lv_lstore (lv' := [(5, Value.long y5), (0, Value.ref p0), (1, Value.long p1), (3, Value.long p2)]) hx hb dX6_leastOf_19 hl (by decide) rfl (fun ls hl => ?_)
  refine lv_iconst (v := 0) hx hb dX6_leastOf_21 (by decide) ?_
  refine lv_istore (lv' := [(7, Value.int 0), (5, Value.long y5), (0, Value.ref p0), (1, Value.long p1), (3, Value.long p2)]) hx hb dX6_leastOf_22 hl (by decide) rfl (fun ls hl => ?_)
  refine tl_loop (I := fun nn H locs ls => ∃ (v6 : Int32) (v7 : Int64), nn = (2 - v6.toInt).toNat ∧ iv v6 0 2 ∧  va_P (dC, dI) vwCl [(p0, Sum.inr (3, [Value.int p0_v_signs, Value.int p0_v_works, Value.int p0_v_whole, Value.int p0_v_otherwise, Value.int p0_v_least, Value.int p0_v_rates, Value.ref p0_a_brings, Value.ref p0_a_costs, Value.ref p0_a_chances, Value.ref p0_a_rate, Value.ref p0_a_mark])), (p0_a_rate, Sum.inl (k_p0_a_rate, 3, Sum.inl f_p0_a_rate)), (p0_a_mark, Sum.inl (k_p0_a_mark, 2, Sum.inl f_p0_a_mark))] H ∧ va_D A [(p0, Sum.inr (3, [Value.int p0_v_signs, Value.int p0_v_works, Value.int p0_v_whole, Value.int p0_v_otherwise, Value.int p0_v_least, Value.int p0_v_rates, Value.ref p0_a_brings, Value.ref p0_a_costs, Value.ref p0_a_chances, Value.ref p0_a_rate, Value.ref p0_a_mark])), (p0_a_rate, Sum.inl (k_p0_a_rate, 3, Sum.inl f_p0_a_rate)), (p0_a_mark, Sum.inl (k_p0_a_mark, 2, Sum.inl f_p0_a_mark))] ∧ va_S A s.heap H locs ∧ lv_has ls 9 [(7, Value.int v6), (5, Value.long v7), (0, Value.ref p0), (1, Value.long p1), (3, Value.long p2)]) ?_ ⟨0, y5, rfl, (iv.m (by decide)), hP, hD, hS, lv_sub hl [0, 1, 2, 3, 4] rfl⟩
  clear hP hD hS hl
  intro nn24 H locs ls hI ih24
  obtain ⟨v6, v7, hn24, hv6, hP, hD, hS, hl⟩ := hI
  have bv6 := hv6.u
  refine lv_iload hx hb dX6_leastOf_24 (lv_at hl 0 rfl) ?_
  refine lv_aload_n hx hb dX6_leastOf_26 rfl (lv_at hl 2 rfl) ?_
  refine va_get (D := (dC, dI)) (ci := 3) (v := Value.int p0_v_rates) (C := RX3) (T := TX3) (N := 11) hx hb hts iw_X6_leastOf_X3 hown hK hP 0 rfl rfl 5 (by decide) (hts _ kk_X6_leastOf_1) (fun _ h9 => h9) rfl dX6_leastOf_27 ?_
  refine lv_iconst (v := 1) hx hb dX6_leastOf_30 (by decide) ?_
  refine lv_isub hx hb dX6_leastOf_31 ?_
  refine lv_topi (fun x8 ex8 => ?_)
  have bp0_v_rates := hp0_v_rates.u
  have tx8 := i32_sub ex8 rfl (show (1 : Int32).toInt = 1 by decide) (by omega) (by omega)
  refine lv_icmp_ge (tgt := 81) hx hb dX6_leastOf_32 (by decide) (fun c9 => ?_) (fun c9 => ?_)
  · have c99 := i32_le c9 rfl rfl
    refine lv_lload hx hb dX6_leastOf_81 (lv_at hl 1 rfl) ?_
    have hP9 := hP.sub (ws' := [(p0, Sum.inr (3, [Value.int p0_v_signs, Value.int p0_v_works, Value.int p0_v_whole, Value.int p0_v_otherwise, Value.int p0_v_least, Value.int p0_v_rates, Value.ref p0_a_brings, Value.ref p0_a_costs, Value.ref p0_a_chances, Value.ref p0_a_rate, Value.ref p0_a_mark])), (p0_a_rate, Sum.inl (k_p0_a_rate, 3, Sum.inl f_p0_a_rate)), (p0_a_mark, Sum.inl (k_p0_a_mark, 2, Sum.inl f_p0_a_mark))]) [0, 1, 2] rfl
    have hD9 := hD.sub (ws' := [(p0, Sum.inr (3, [Value.int p0_v_signs, Value.int p0_v_works, Value.int p0_v_whole, Value.int p0_v_otherwise, Value.int p0_v_least, Value.int p0_v_rates, Value.ref p0_a_brings, Value.ref p0_a_costs, Value.ref p0_a_chances, Value.ref p0_a_rate, Value.ref p0_a_mark])), (p0_a_rate, Sum.inl (k_p0_a_rate, 3, Sum.inl f_p0_a_rate)), (p0_a_mark, Sum.inl (k_p0_a_mark, 2, Sum.inl f_p0_a_mark))]) [0, 1, 2] (by decide) rfl
    exact W.lret (v := v7) hx hb hr (fun t ht hW => ⟨⟨v7, v7, rfl, rfl, by rw [ht]; exact hP9, hD9⟩, hS.F ht⟩) hS.2.2 dX6_leastOf_83
  · have c99 := i32_nle c9 rfl rfl
    refine lv_aload_n hx hb dX6_leastOf_35 rfl (lv_at hl 2 rfl) ?_
    refine va_get (D := (dC, dI)) (ci := 3) (v := Value.ref p0_a_mark) (C := RX3) (T := TX3) (N := 11) hx hb hts iw_X6_leastOf_X3 hown hK hP 0 rfl rfl 10 (by decide) (hts _ kk_X6_leastOf_2) (fun _ h9 => h9) rfl dX6_leastOf_36 ?_
    refine lv_iload hx hb dX6_leastOf_39 (lv_at hl 0 rfl) ?_
    refine va_iald hx hb hK hP 2 1 rfl rfl (vq_in v6 2 (by omega)) dX6_leastOf_41 ?_
    refine lv_topi (fun x10 ex10 => ?_)
    have hx10 : iv x10 0 99 := iv.of (hf_p0_a_mark _) ex10
    refine lv_istore (lv' := [(8, Value.int x10), (7, Value.int v6), (5, Value.long v7), (0, Value.ref p0), (1, Value.long p1), (3, Value.long p2)]) hx hb dX6_leastOf_42 hl (by decide) rfl (fun ls hl => ?_)
    refine lv_iload hx hb dX6_leastOf_44 (lv_at hl 0 rfl) ?_
    refine lv_aload_n hx hb dX6_leastOf_46 rfl (lv_at hl 3 rfl) ?_
    refine va_get (D := (dC, dI)) (ci := 3) (v := Value.int p0_v_least) (C := RX3) (T := TX3) (N := 11) hx hb hts iw_X6_leastOf_X3 hown hK hP 0 rfl rfl 4 (by decide) (hts _ kk_X6_leastOf_0) (fun _ h9 => h9) rfl dX6_leastOf_47 ?_
    have bx10 := hx10.u
    have bp0_v_least := i32_rng p0_v_least
    refine lv_icmp_le (tgt := 75) hx hb dX6_leastOf_50 (by decide) (fun c11 => ?_) (fun c11 => ?_)
    · have c119 := i32_le c11 rfl rfl
      obtain ⟨x12, ex12⟩ : ∃ z : Int32, v6 + Int32.ofInt 1 = z := ⟨_, rfl⟩
      have tx12 := i32_inc ex12 rfl (by decide) (by omega) (by omega)
      refine lv_iinc (v := x12) (lv' := [(7, Value.int x12), (8, Value.int x10), (5, Value.long v7), (0, Value.ref p0), (1, Value.long p1), (3, Value.long p2)]) hx hb dX6_leastOf_75 hl (k := 1) rfl ex12 (by decide) rfl (fun ls hl => ?_)
      refine lv_goto (tgt := 24) hx hb dX6_leastOf_78 (by decide) ?_
      exact ih24 _ _ _ _ (ms_up hn24 tx12 (by decide) (by omega)) ⟨x12, v7, rfl, (iv.m (by omega)), hP, hD, hS, lv_sub hl [0, 2, 3, 4, 5] rfl⟩
    · have c119 := i32_nle c11 rfl rfl
      refine lv_lload hx hb dX6_leastOf_53 (lv_at hl 2 rfl) ?_
      refine lv_lload_n hx hb dX6_leastOf_55 rfl (lv_at hl 4 rfl) ?_
      refine lv_iload hx hb dX6_leastOf_56 (lv_at hl 0 rfl) ?_
      refine lv_i2l (v := (x10).toInt64) hx hb dX6_leastOf_58 rfl ?_
      refine lv_lmul hx hb dX6_leastOf_59 ?_
      refine lv_topl (fun y13 ey13 => ?_)
      refine lv_lload_n hx hb dX6_leastOf_60 rfl (lv_at hl 5 rfl) ?_
      refine lv_aload_n hx hb dX6_leastOf_61 rfl (lv_at hl 3 rfl) ?_
      refine lv_iload hx hb dX6_leastOf_62 (lv_at hl 0 rfl) ?_
      have hPc := hP.sub (ws' := [(p0, Sum.inr (3, [Value.int p0_v_signs, Value.int p0_v_works, Value.int p0_v_whole, Value.int p0_v_otherwise, Value.int p0_v_least, Value.int p0_v_rates, Value.ref p0_a_brings, Value.ref p0_a_costs, Value.ref p0_a_chances, Value.ref p0_a_rate, Value.ref p0_a_mark])), (p0_a_rate, Sum.inl (k_p0_a_rate, 3, Sum.inl f_p0_a_rate)), (p0_a_mark, Sum.inl (k_p0_a_mark, 2, Sum.inl f_p0_a_mark))]) [0, 1, 2] rfl
      have hDc := hD.sub (ws' := [(p0, Sum.inr (3, [Value.int p0_v_signs, Value.int p0_v_works, Value.int p0_v_whole, Value.int p0_v_otherwise, Value.int p0_v_least, Value.int p0_v_rates, Value.ref p0_a_brings, Value.ref p0_a_costs, Value.ref p0_a_chances, Value.ref p0_a_rate, Value.ref p0_a_mark])), (p0_a_rate, Sum.inl (k_p0_a_rate, 3, Sum.inl f_p0_a_rate)), (p0_a_mark, Sum.inl (k_p0_a_mark, 2, Sum.inl f_p0_a_mark))]) [0, 1, 2] (by decide) rfl
      have hKc := hK.sub (tys' := [(k_p0_a_rate, FieldType.int), (k_p0_a_mark, FieldType.int)]) [0, 1] rfl
      have hFc := va_free (wc := [(p0, Sum.inr (3, [Value.int p0_v_signs, Value.int p0_v_works, Value.int p0_v_whole, Value.int p0_v_otherwise, Value.int p0_v_least, Value.int p0_v_rates, Value.ref p0_a_brings, Value.ref p0_a_costs, Value.ref p0_a_chances, Value.ref p0_a_rate, Value.ref p0_a_mark])), (p0_a_rate, Sum.inl (k_p0_a_rate, 3, Sum.inl f_p0_a_rate)), (p0_a_mark, Sum.inl (k_p0_a_mark, 2, Sum.inl f_p0_a_mark))]) hD hS hA [0, 1, 2] rfl
      refine va_calli (va_runV (As := [Value.int x10]) (rest := [Value.long p2, Value.long y13, Value.long v7]) ⟨hx, hb, hml, hown, hts⟩ (ct_X3_feltOf l dC dI p0 x10 p0_v_signs p0_v_works p0_v_whole p0_v_otherwise p0_v_least p0_v_rates p0_a_brings p0_a_costs p0_a_chances p0_a_rate p0_a_mark k_p0_a_rate f_p0_a_rate k_p0_a_mark f_p0_a_mark (iv.m (by omega)) hf_p0_a_rate hf_p0_a_mark H.size) (cwV 1 hts gX6_leastOf_X3_feltOf rfl rfl rfl ⟨rfl, cn_X3.1, cn_X3.2, ds_5⟩ ⟨Nat.le_of_ble_eq_true rfl, Nat.le_of_ble_eq_true rfl⟩) ⟨fun a U g mk q => by obtain ⟨q0, q1, qP, qK, qD⟩ := q; exact ⟨q0, q1, qP, va_K.moved (u := U) (U := U.calling g mk a) (Vm.Alike.refl U.vm) qK, qD⟩, va_recv hKc hPc (ci := 3) (q0 := 0) rfl rfl, fun U hU hW => ⟨rfl, by rw [hU], by rw [hU]; exact hPc, va_K.moved hW.alike hKc, hDc.weaken (fun _ _ _ _ => trivial)⟩⟩ rfl rfl hl.1 rfl (lv_room (Nat.le_of_ble_eq_true rfl)) dX6_leastOf_64 ⟨Nat.le_of_ble_eq_true rfl, Nat.le_of_ble_eq_true rfl⟩) hS (fun q _ h => hFc q h) hFc (fun r14 u t H1 locs ht hvm hw hB hz1 hk1 hS => ?_)
      have hw : r14 = u := hw.symm
      subst hw
      obtain ⟨w15, hP1, hD1⟩ := hB
      rw [ht] at hP1
      obtain ⟨hP, hD⟩ := va_join (wr := []) (w1 := [(p0, Sum.inr (3, [Value.int p0_v_signs, Value.int p0_v_works, Value.int p0_v_whole, Value.int p0_v_otherwise, Value.int p0_v_least, Value.int p0_v_rates, Value.ref p0_a_brings, Value.ref p0_a_costs, Value.ref p0_a_chances, Value.ref p0_a_rate, Value.ref p0_a_mark])), (p0_a_rate, Sum.inl (k_p0_a_rate, 3, Sum.inl f_p0_a_rate)), (p0_a_mark, Sum.inl (k_p0_a_mark, 2, Sum.inl f_p0_a_mark))]) hP hD [0, 1, 2] [] rfl rfl (by decide) (by decide) hk1 hFc hP1 hD1
      clear hPc hDc hKc hFc hP1 hD1 hk1 hz1
      generalize H1 = H at hP hS ⊢
      have hP : va_P (dC, dI) vwCl [(p0, Sum.inr (3, [Value.int p0_v_signs, Value.int p0_v_works, Value.int p0_v_whole, Value.int p0_v_otherwise, Value.int p0_v_least, Value.int p0_v_rates, Value.ref p0_a_brings, Value.ref p0_a_costs, Value.ref p0_a_chances, Value.ref p0_a_rate, Value.ref p0_a_mark])), (p0_a_rate, Sum.inl (k_p0_a_rate, 3, Sum.inl f_p0_a_rate)), (p0_a_mark, Sum.inl (k_p0_a_mark, 2, Sum.inl f_p0_a_mark))] H := hP
      have hD : va_D A [(p0, Sum.inr (3, [Value.int p0_v_signs, Value.int p0_v_works, Value.int p0_v_whole, Value.int p0_v_otherwise, Value.int p0_v_least, Value.int p0_v_rates, Value.ref p0_a_brings, Value.ref p0_a_costs, Value.ref p0_a_chances, Value.ref p0_a_rate, Value.ref p0_a_mark])), (p0_a_rate, Sum.inl (k_p0_a_rate, 3, Sum.inl f_p0_a_rate)), (p0_a_mark, Sum.inl (k_p0_a_mark, 2, Sum.inl f_p0_a_mark))] := hD
      refine W.widen (k := 0) (n := 0) (by decide) (by decide) ?_
      have br14 := i32_rng r14
      refine lv_i2l (v := (r14).toInt64) hx hb dX6_leastOf_67 rfl ?_
      refine lv_lmul hx hb dX6_leastOf_68 ?_
      refine lv_topl (fun y16 ey16 => ?_)
      refine lv_lsub hx hb dX6_leastOf_69 ?_
      refine lv_topl (fun y17 ey17 => ?_)
      refine va_mmin_long hx hb (by rw [hml]; exact hl.1.symm) hown (hts _ kk_X6_leastOf_3) (hts _ kk_X6_leastOf_4) (hts _ kk_X6_leastOf_5) (hts _ kk_X6_leastOf_6) (Nat.le_of_ble_eq_true rfl) (Nat.le_of_ble_eq_true rfl) (Nat.le_of_ble_eq_true rfl) (Nat.le_of_ble_eq_true rfl) dX6_leastOf_70 ?_
      refine lv_topl (fun y18 ey18 => ?_)
      refine lv_lstore (lv' := [(5, Value.long y18), (8, Value.int x10), (7, Value.int v6), (0, Value.ref p0), (1, Value.long p1), (3, Value.long p2)]) hx hb dX6_leastOf_73 hl (by decide) rfl (fun ls hl => ?_)
      obtain ⟨x19, ex19⟩ : ∃ z : Int32, v6 + Int32.ofInt 1 = z := ⟨_, rfl⟩
      have tx19 := i32_inc ex19 rfl (by decide) (by omega) (by omega)
      refine lv_iinc (v := x19) (lv' := [(7, Value.int x19), (5, Value.long y18), (8, Value.int x10), (0, Value.ref p0), (1, Value.long p1), (3, Value.long p2)]) hx hb dX6_leastOf_75 hl (k := 2) rfl ex19 (by decide) rfl (fun ls hl => ?_)
      refine lv_goto (tgt := 24) hx hb dX6_leastOf_78 (by decide) ?_
      exact ih24 _ _ _ _ (ms_up hn24 tx19 (by decide) (by omega)) ⟨x19, y18, rfl, (iv.m (by omega)), hP, hD, hS, lv_sub hl [0, 1, 3, 4, 5] rfl⟩

set_option maxHeartbeats 4000000 in
set_option maxRecDepth 100000 in
theorem ct_X6_boundInto (l : Launch) (dC : Nat → ClassId) (dI : Nat → Nat → Nat) (o : Nat) (p0 : Nat) (p1 : Nat) (p2 : Int32) (v_lowerNumber : Int32) (a_press : Nat) (v_pressOfElse : Int32) (a_mixed : Nat) (k_a_press : ClassId) (f_a_press : Nat → Int32) (p0_v_upper : Int64) (p0_v_lower : Int64) (p1_v_signs : Int32) (p1_v_works : Int32) (p1_v_whole : Int32) (p1_v_otherwise : Int32) (p1_v_least : Int32) (p1_v_rates : Int32) (p1_a_brings : Nat) (p1_a_costs : Nat) (p1_a_chances : Nat) (p1_a_rate : Nat) (p1_a_mark : Nat) (k_p1_a_costs : ClassId) (f_p1_a_costs : Nat → Int32) (k_p1_a_chances : ClassId) (R_p1_a_chances : Nat → Nat) (k_p1_a_rate : ClassId) (f_p1_a_rate : Nat → Int32) (k_p1_a_mark : ClassId) (f_p1_a_mark : Nat → Int32) (LP : List Nat) (sh : Nat → Nat) (fp : Nat → va_E) (cI : ClassId) (cJ : ClassId) (CT : Nat → Nat → Int32) (hp2 : iv p2 0 4) (hv_lowerNumber : iv v_lowerNumber 1 9999) (hp1_v_signs : iv p1_v_signs 0 4) (hp1_v_works : iv p1_v_works 0 5) (hp1_v_whole : iv p1_v_whole 2 10) (hp1_v_rates : iv p1_v_rates 1 3) (hf_p1_a_costs : ivf f_p1_a_costs 0 99) (hf_p1_a_rate : ivf f_p1_a_rate 0 5) (hf_p1_a_mark : ivf f_p1_a_mark 0 99) (hfp : pok cI cJ LP sh CT fp) (hRR_p1_a_chances : ∀ i : Nat, i < 5 → R_p1_a_chances i ∈ LP ∧ sh (R_p1_a_chances i) = 104) (hpe : iv v_pressOfElse 0 9999) (hpp : ∀ i : Nat, i < 5 → iv (f_a_press i) 0 9999) (sz : Nat) : Met l yX6_boundInto wsX6_boundInto ({ frames := 3, cells := 0, slots := 0, locals := 66 }) (va_Pc [Value.ref o, Value.ref p0, Value.ref p1, Value.int p2] (fun U => U.heap.size = sz ∧ va_P (dC, dI) vwCl ([(o, Sum.inr (6, [Value.int v_lowerNumber, Value.ref a_press, Value.int v_pressOfElse, Value.ref a_mixed])), (a_press, Sum.inl (k_a_press, 5, Sum.inl f_a_press)), (p0, Sum.inr (2, [Value.long p0_v_upper, Value.long p0_v_lower])), (p1, Sum.inr (3, [Value.int p1_v_signs, Value.int p1_v_works, Value.int p1_v_whole, Value.int p1_v_otherwise, Value.int p1_v_least, Value.int p1_v_rates, Value.ref p1_a_brings, Value.ref p1_a_costs, Value.ref p1_a_chances, Value.ref p1_a_rate, Value.ref p1_a_mark])), (p1_a_costs, Sum.inl (k_p1_a_costs, 5, Sum.inl f_p1_a_costs)), (p1_a_chances, Sum.inl (k_p1_a_chances, 5, Sum.inr (Sum.inr (Sum.inr (Sum.inr (rows_of 5 R_p1_a_chances)))))), (p1_a_rate, Sum.inl (k_p1_a_rate, 3, Sum.inl f_p1_a_rate)), (p1_a_mark, Sum.inl (k_p1_a_mark, 2, Sum.inl f_p1_a_mark))] ++ va_pl LP fp) U.heap ∧ va_K (dC, dI) vwCl [(k_a_press, FieldType.int), (k_p1_a_costs, FieldType.int), (k_p1_a_chances, (FieldType.array FieldType.int)), (k_p1_a_rate, FieldType.int), (k_p1_a_mark, FieldType.int), (cI, FieldType.int), (cJ, FieldType.long)] U ∧ va_D (fun _ => True) ([(o, Sum.inr (6, [Value.int v_lowerNumber, Value.ref a_press, Value.int v_pressOfElse, Value.ref a_mixed])), (a_press, Sum.inl (k_a_press, 5, Sum.inl f_a_press)), (p0, Sum.inr (2, [Value.long p0_v_upper, Value.long p0_v_lower])), (p1, Sum.inr (3, [Value.int p1_v_signs, Value.int p1_v_works, Value.int p1_v_whole, Value.int p1_v_otherwise, Value.int p1_v_least, Value.int p1_v_rates, Value.ref p1_a_brings, Value.ref p1_a_costs, Value.ref p1_a_chances, Value.ref p1_a_rate, Value.ref p1_a_mark])), (p1_a_costs, Sum.inl (k_p1_a_costs, 5, Sum.inl f_p1_a_costs)), (p1_a_chances, Sum.inl (k_p1_a_chances, 5, Sum.inr (Sum.inr (Sum.inr (Sum.inr (rows_of 5 R_p1_a_chances)))))), (p1_a_rate, Sum.inl (k_p1_a_rate, 3, Sum.inl f_p1_a_rate)), (p1_a_mark, Sum.inl (k_p1_a_mark, 2, Sum.inl f_p1_a_mark))] ++ va_pl LP fp))) (va_Qi (fun (r u : Int32) => u = r) (fun (r : Int32) t => ∃ (e_p0_v_upper : Int64) (e_p0_v_lower : Int64), ((r = 0 ∧ (∃ s : Nat, s < p1_v_signs.toNatClampNeg ∧ prB (f_p1_a_rate (p1_v_rates.toNatClampNeg - 1)) v_lowerNumber v_pressOfElse f_a_press (fun a => CT (R_p1_a_chances a)) p2.toNatClampNeg p1_v_works.toNatClampNeg s)) ∨ (r = 1 ∧ (∀ s : Nat, s < p1_v_signs.toNatClampNeg → ¬ prB (f_p1_a_rate (p1_v_rates.toNatClampNeg - 1)) v_lowerNumber v_pressOfElse f_a_press (fun a => CT (R_p1_a_chances a)) p2.toNatClampNeg p1_v_works.toNatClampNeg s))) ∧ va_P (dC, dI) vwCl ([(o, Sum.inr (6, [Value.int v_lowerNumber, Value.ref a_press, Value.int v_pressOfElse, Value.ref a_mixed])), (a_press, Sum.inl (k_a_press, 5, Sum.inl f_a_press)), (p0, Sum.inr (2, [Value.long e_p0_v_upper, Value.long e_p0_v_lower])), (p1, Sum.inr (3, [Value.int p1_v_signs, Value.int p1_v_works, Value.int p1_v_whole, Value.int p1_v_otherwise, Value.int p1_v_least, Value.int p1_v_rates, Value.ref p1_a_brings, Value.ref p1_a_costs, Value.ref p1_a_chances, Value.ref p1_a_rate, Value.ref p1_a_mark])), (p1_a_costs, Sum.inl (k_p1_a_costs, 5, Sum.inl f_p1_a_costs)), (p1_a_chances, Sum.inl (k_p1_a_chances, 5, Sum.inr (Sum.inr (Sum.inr (Sum.inr (rows_of 5 R_p1_a_chances)))))), (p1_a_rate, Sum.inl (k_p1_a_rate, 3, Sum.inl f_p1_a_rate)), (p1_a_mark, Sum.inl (k_p1_a_mark, 2, Sum.inl f_p1_a_mark))] ++ va_pl LP fp) t.heap ∧ va_D (va_A ([(o, Sum.inr (6, [Value.int v_lowerNumber, Value.ref a_press, Value.int v_pressOfElse, Value.ref a_mixed])), (a_press, Sum.inl (k_a_press, 5, Sum.inl f_a_press)), (p0, Sum.inr (2, [Value.long p0_v_upper, Value.long p0_v_lower])), (p1, Sum.inr (3, [Value.int p1_v_signs, Value.int p1_v_works, Value.int p1_v_whole, Value.int p1_v_otherwise, Value.int p1_v_least, Value.int p1_v_rates, Value.ref p1_a_brings, Value.ref p1_a_costs, Value.ref p1_a_chances, Value.ref p1_a_rate, Value.ref p1_a_mark])), (p1_a_costs, Sum.inl (k_p1_a_costs, 5, Sum.inl f_p1_a_costs)), (p1_a_chances, Sum.inl (k_p1_a_chances, 5, Sum.inr (Sum.inr (Sum.inr (Sum.inr (rows_of 5 R_p1_a_chances)))))), (p1_a_rate, Sum.inl (k_p1_a_rate, 3, Sum.inl f_p1_a_rate)), (p1_a_mark, Sum.inl (k_p1_a_mark, 2, Sum.inl f_p1_a_mark))] ++ va_pl LP fp) sz) ([(o, Sum.inr (6, [Value.int v_lowerNumber, Value.ref a_press, Value.int v_pressOfElse, Value.ref a_mixed])), (a_press, Sum.inl (k_a_press, 5, Sum.inl f_a_press)), (p0, Sum.inr (2, [Value.long e_p0_v_upper, Value.long e_p0_v_lower])), (p1, Sum.inr (3, [Value.int p1_v_signs, Value.int p1_v_works, Value.int p1_v_whole, Value.int p1_v_otherwise, Value.int p1_v_least, Value.int p1_v_rates, Value.ref p1_a_brings, Value.ref p1_a_costs, Value.ref p1_a_chances, Value.ref p1_a_rate, Value.ref p1_a_mark])), (p1_a_costs, Sum.inl (k_p1_a_costs, 5, Sum.inl f_p1_a_costs)), (p1_a_chances, Sum.inl (k_p1_a_chances, 5, Sum.inr (Sum.inr (Sum.inr (Sum.inr (rows_of 5 R_p1_a_chances)))))), (p1_a_rate, Sum.inl (k_p1_a_rate, 3, Sum.inl f_p1_a_rate)), (p1_a_mark, Sum.inl (k_p1_a_mark, 2, Sum.inl f_p1_a_mark))] ++ va_pl LP fp)) (va_A ([(o, Sum.inr (6, [Value.int v_lowerNumber, Value.ref a_press, Value.int v_pressOfElse, Value.ref a_mixed])), (a_press, Sum.inl (k_a_press, 5, Sum.inl f_a_press)), (p0, Sum.inr (2, [Value.long p0_v_upper, Value.long p0_v_lower])), (p1, Sum.inr (3, [Value.int p1_v_signs, Value.int p1_v_works, Value.int p1_v_whole, Value.int p1_v_otherwise, Value.int p1_v_least, Value.int p1_v_rates, Value.ref p1_a_brings, Value.ref p1_a_costs, Value.ref p1_a_chances, Value.ref p1_a_rate, Value.ref p1_a_mark])), (p1_a_costs, Sum.inl (k_p1_a_costs, 5, Sum.inl f_p1_a_costs)), (p1_a_chances, Sum.inl (k_p1_a_chances, 5, Sum.inr (Sum.inr (Sum.inr (Sum.inr (rows_of 5 R_p1_a_chances)))))), (p1_a_rate, Sum.inl (k_p1_a_rate, 3, Sum.inl f_p1_a_rate)), (p1_a_mark, Sum.inl (k_p1_a_mark, 2, Sum.inl f_p1_a_mark))] ++ va_pl LP fp) sz)) 0 0 (va_A ([(o, Sum.inr (6, [Value.int v_lowerNumber, Value.ref a_press, Value.int v_pressOfElse, Value.ref a_mixed])), (a_press, Sum.inl (k_a_press, 5, Sum.inl f_a_press)), (p0, Sum.inr (2, [Value.long p0_v_upper, Value.long p0_v_lower])), (p1, Sum.inr (3, [Value.int p1_v_signs, Value.int p1_v_works, Value.int p1_v_whole, Value.int p1_v_otherwise, Value.int p1_v_least, Value.int p1_v_rates, Value.ref p1_a_brings, Value.ref p1_a_costs, Value.ref p1_a_chances, Value.ref p1_a_rate, Value.ref p1_a_mark])), (p1_a_costs, Sum.inl (k_p1_a_costs, 5, Sum.inl f_p1_a_costs)), (p1_a_chances, Sum.inl (k_p1_a_chances, 5, Sum.inr (Sum.inr (Sum.inr (Sum.inr (rows_of 5 R_p1_a_chances)))))), (p1_a_rate, Sum.inl (k_p1_a_rate, 3, Sum.inl f_p1_a_rate)), (p1_a_mark, Sum.inl (k_p1_a_mark, 2, Sum.inl f_p1_a_mark))] ++ va_pl LP fp) sz) := by
  refine Met.ofW (cc := cX6_boundInto) (maxL := 11) (ret := (some .boolean)) pn_X6 rfl ?_
  intro p e s m args below meth c s₁ B hml hv
  obtain ⟨rfl, hsz, hP, hK, hD0⟩ := hv
  have hx := B.exec
  have hb := B.bytes
  have hr := B.returns
  have hts := atoms_spec (ws := wsX6_boundInto) B.pre
  have hown : s.vm.findClass RX6 = some m.cls := findClass_of_methodNamed B.named
  have hlocks := B.notSynchronized
  subst hsz
  have hD := hD0.self (sz := s.heap.size)
  generalize hAe : va_A ([(o, Sum.inr (6, [Value.int v_lowerNumber, Value.ref a_press, Value.int v_pressOfElse, Value.ref a_mixed])), (a_press, Sum.inl (k_a_press, 5, Sum.inl f_a_press)), (p0, Sum.inr (2, [Value.long p0_v_upper, Value.long p0_v_lower])), (p1, Sum.inr (3, [Value.int p1_v_signs, Value.int p1_v_works, Value.int p1_v_whole, Value.int p1_v_otherwise, Value.int p1_v_least, Value.int p1_v_rates, Value.ref p1_a_brings, Value.ref p1_a_costs, Value.ref p1_a_chances, Value.ref p1_a_rate, Value.ref p1_a_mark])), (p1_a_costs, Sum.inl (k_p1_a_costs, 5, Sum.inl f_p1_a_costs)), (p1_a_chances, Sum.inl (k_p1_a_chances, 5, Sum.inr (Sum.inr (Sum.inr (Sum.inr (rows_of 5 R_p1_a_chances)))))), (p1_a_rate, Sum.inl (k_p1_a_rate, 3, Sum.inl f_p1_a_rate)), (p1_a_mark, Sum.inl (k_p1_a_mark, 2, Sum.inl f_p1_a_mark))] ++ va_pl LP fp) s.heap.size = A at hD ⊢
  have hA : ∀ q : Nat, s.heap.size ≤ q → A q := fun q h => by rw [← hAe]; exact Or.inr h
  have hS : va_S A s.heap s.heap [] := va_S.rf
  have hP : va_P (dC, dI) vwCl ([(o, Sum.inr (6, [Value.int v_lowerNumber, Value.ref a_press, Value.int v_pressOfElse, Value.ref a_mixed])), (a_press, Sum.inl (k_a_press, 5, Sum.inl f_a_press)), (p0, Sum.inr (2, [Value.long p0_v_upper, Value.long p0_v_lower])), (p1, Sum.inr (3, [Value.int p1_v_signs, Value.int p1_v_works, Value.int p1_v_whole, Value.int p1_v_otherwise, Value.int p1_v_least, Value.int p1_v_rates, Value.ref p1_a_brings, Value.ref p1_a_costs, Value.ref p1_a_chances, Value.ref p1_a_rate, Value.ref p1_a_mark])), (p1_a_costs, Sum.inl (k_p1_a_costs, 5, Sum.inl f_p1_a_costs)), (p1_a_chances, Sum.inl (k_p1_a_chances, 5, Sum.inr (Sum.inr (Sum.inr (Sum.inr (rows_of 5 R_p1_a_chances)))))), (p1_a_rate, Sum.inl (k_p1_a_rate, 3, Sum.inl f_p1_a_rate)), (p1_a_mark, Sum.inl (k_p1_a_mark, 2, Sum.inl f_p1_a_mark))] ++ va_pl LP fp) s.heap := hP
  have hl := lv_entry ([Value.ref o, Value.ref p0, Value.ref p1, Value.int p2]) (n := 11) (Nat.le_of_ble_eq_true rfl)
  rw [lg_entry_eq]
  generalize (lg_sl ([Value.ref o, Value.ref p0, Value.ref p1, Value.int p2]) ++ List.replicate (11 - (lg_sl ([Value.ref o, Value.ref p0, Value.ref p1, Value.int p2])).length) Slot.unset).toArray = ls at hl ⊢
  have hl : lv_has ls 11 [(0, Value.ref o), (1, Value.ref p0), (2, Value.ref p1), (3, Value.int p2)] := hl
  have hcb : ∀ b : Nat, b < 5 → ivf (CT (R_p1_a_chances b)) 0 10 := fun b hb => (pok_104 hfp (hRR_p1_a_chances b hb)).2
  have bp1_v_works := hp1_v_works.u
  have bp1_v_signs := hp1_v_signs.u
  have bp1_v_rates := hp1_v_rates.u
  have bp2 := hp2.u
  refine lv_aload_n hx hb dX6_boundInto_0 rfl (lv_at hl 0 rfl) ?_
  refine va_get (D := (dC, dI)) (ci := 6) (v := Value.int v_pressOfElse) (C := RX6) (T := TX6) (N := 4) hx hb hts iw_X6_boundInto_X6 hown hK hP 0 rfl rfl 2 (by decide) (hts _ kk_X6_boundInto_0) (fun _ h9 => h9) rfl dX6_boundInto_1 ?_
  refine lv_i2l (v := (v_pressOfElse).toInt64) hx hb dX6_boundInto_4 rfl ?_
  refine lv_aload_n hx hb dX6_boundInto_5 rfl (lv_at hl 2 rfl) ?_
  refine va_get (D := (dC, dI)) (ci := 3) (v := Value.ref p1_a_costs) (C := RX3) (T := TX3) (N := 11) hx hb hts iw_X6_boundInto_X3 hown hK hP 3 rfl rfl 7 (by decide) (hts _ kk_X6_boundInto_1) (fun _ h9 => h9) rfl dX6_boundInto_6 ?_
  refine lv_iload_n hx hb dX6_boundInto_9 rfl (lv_at hl 3 rfl) ?_
  refine va_iald hx hb hK hP 4 1 rfl rfl (vq_in p2 5 (by omega)) dX6_boundInto_10 ?_
  refine lv_topi (fun x1 ex1 => ?_)
  have hx1 : iv x1 0 99 := iv.of (hf_p1_a_costs _) ex1
  refine lv_aload_n hx hb dX6_boundInto_11 rfl (lv_at hl 2 rfl) ?_
  refine va_get (D := (dC, dI)) (ci := 3) (v := Value.int p1_v_otherwise) (C := RX3) (T := TX3) (N := 11) hx hb hts iw_X6_boundInto_X3 hown hK hP 3 rfl rfl 3 (by decide) (hts _ kk_X6_boundInto_2) (fun _ h9 => h9) rfl dX6_boundInto_12 ?_
  refine lv_iadd hx hb dX6_boundInto_15 ?_
  refine lv_topi (fun x2 ex2 => ?_)
  refine lv_i2l (v := (x2).toInt64) hx hb dX6_boundInto_16 rfl ?_
  refine lv_lmul hx hb dX6_boundInto_17 ?_
  refine lv_topl (fun y3 ey3 => ?_)
  have hy3 : jv y3 (-4611686018427387904) 4611686018427387904 := jv.mula (B := 2147483648) (D := 2147483648) ey3 (jv.i (show iv v_pressOfElse (-2147483648) 2147483647 from i32_rng v_pressOfElse)) (jv.i (show iv x2 (-2147483648) 2147483647 from i32_rng x2)) (by decide) (by decide) (by decide) (by decide) (by decide) (by decide)
  refine lv_lstore (lv' := [(4, Value.long y3), (0, Value.ref o), (1, Value.ref p0), (2, Value.ref p1), (3, Value.int p2)]) hx hb dX6_boundInto_18 hl (by decide) rfl (fun ls hl => ?_)
  refine lv_iconst (v := 0) hx hb dX6_boundInto_20 (by decide) ?_
  refine lv_istore (lv' := [(6, Value.int 0), (4, Value.long y3), (0, Value.ref o), (1, Value.ref p0), (2, Value.ref p1), (3, Value.int p2)]) hx hb dX6_boundInto_21 hl (by decide) rfl (fun ls hl => ?_)
  refine tl_loop (I := fun nn H locs ls => ∃ (v4 : Int32) (v5 : Int64), nn = (5 - v4.toInt).toNat ∧ iv v4 0 5 ∧  va_P (dC, dI) vwCl ([(o, Sum.inr (6, [Value.int v_lowerNumber, Value.ref a_press, Value.int v_pressOfElse, Value.ref a_mixed])), (a_press, Sum.inl (k_a_press, 5, Sum.inl f_a_press)), (p0, Sum.inr (2, [Value.long p0_v_upper, Value.long p0_v_lower])), (p1, Sum.inr (3, [Value.int p1_v_signs, Value.int p1_v_works, Value.int p1_v_whole, Value.int p1_v_otherwise, Value.int p1_v_least, Value.int p1_v_rates, Value.ref p1_a_brings, Value.ref p1_a_costs, Value.ref p1_a_chances, Value.ref p1_a_rate, Value.ref p1_a_mark])), (p1_a_costs, Sum.inl (k_p1_a_costs, 5, Sum.inl f_p1_a_costs)), (p1_a_chances, Sum.inl (k_p1_a_chances, 5, Sum.inr (Sum.inr (Sum.inr (Sum.inr (rows_of 5 R_p1_a_chances)))))), (p1_a_rate, Sum.inl (k_p1_a_rate, 3, Sum.inl f_p1_a_rate)), (p1_a_mark, Sum.inl (k_p1_a_mark, 2, Sum.inl f_p1_a_mark))] ++ va_pl LP fp) H ∧ va_D A ([(o, Sum.inr (6, [Value.int v_lowerNumber, Value.ref a_press, Value.int v_pressOfElse, Value.ref a_mixed])), (a_press, Sum.inl (k_a_press, 5, Sum.inl f_a_press)), (p0, Sum.inr (2, [Value.long p0_v_upper, Value.long p0_v_lower])), (p1, Sum.inr (3, [Value.int p1_v_signs, Value.int p1_v_works, Value.int p1_v_whole, Value.int p1_v_otherwise, Value.int p1_v_least, Value.int p1_v_rates, Value.ref p1_a_brings, Value.ref p1_a_costs, Value.ref p1_a_chances, Value.ref p1_a_rate, Value.ref p1_a_mark])), (p1_a_costs, Sum.inl (k_p1_a_costs, 5, Sum.inl f_p1_a_costs)), (p1_a_chances, Sum.inl (k_p1_a_chances, 5, Sum.inr (Sum.inr (Sum.inr (Sum.inr (rows_of 5 R_p1_a_chances)))))), (p1_a_rate, Sum.inl (k_p1_a_rate, 3, Sum.inl f_p1_a_rate)), (p1_a_mark, Sum.inl (k_p1_a_mark, 2, Sum.inl f_p1_a_mark))] ++ va_pl LP fp) ∧ va_S A s.heap H locs ∧ lv_has ls 11 [(6, Value.int v4), (4, Value.long v5), (0, Value.ref o), (1, Value.ref p0), (2, Value.ref p1), (3, Value.int p2)]) ?_ ⟨0, y3, rfl, (iv.m (by decide)), hP, hD, hS, lv_sub hl [0, 1, 2, 3, 4, 5] rfl⟩
  clear hP hD hS hl
  intro nn23 H locs ls hI ih23
  obtain ⟨v4, v5, hn23, hv4, hP, hD, hS, hl⟩ := hI
  have bv4 := hv4.u
  refine lv_iload hx hb dX6_boundInto_23 (lv_at hl 0 rfl) ?_
  refine lv_aload_n hx hb dX6_boundInto_25 rfl (lv_at hl 4 rfl) ?_
  refine va_get (D := (dC, dI)) (ci := 3) (v := Value.int p1_v_works) (C := RX3) (T := TX3) (N := 11) hx hb hts iw_X6_boundInto_X3 hown hK hP 3 rfl rfl 1 (by decide) (hts _ kk_X6_boundInto_3) (fun _ h9 => h9) rfl dX6_boundInto_26 ?_
  refine lv_icmp_ge (tgt := 67) hx hb dX6_boundInto_29 (by decide) (fun c6 => ?_) (fun c6 => ?_)
  · have c69 := i32_le c6 rfl rfl
    refine lv_lload hx hb dX6_boundInto_67 (lv_at hl 1 rfl) ?_
    refine lv_aload_n hx hb dX6_boundInto_69 rfl (lv_at hl 4 rfl) ?_
    refine va_get (D := (dC, dI)) (ci := 3) (v := Value.int p1_v_whole) (C := RX3) (T := TX3) (N := 11) hx hb hts iw_X6_boundInto_X3 hown hK hP 3 rfl rfl 2 (by decide) (hts _ kk_X6_boundInto_4) (fun _ h9 => h9) rfl dX6_boundInto_70 ?_
    refine lv_i2l (v := (p1_v_whole).toInt64) hx hb dX6_boundInto_73 rfl ?_
    refine lv_lmul hx hb dX6_boundInto_74 ?_
    refine lv_topl (fun y7 ey7 => ?_)
    refine lv_lstore (lv' := [(4, Value.long y7), (6, Value.int v4), (0, Value.ref o), (1, Value.ref p0), (2, Value.ref p1), (3, Value.int p2)]) hx hb dX6_boundInto_75 hl (by decide) rfl (fun ls hl => ?_)
    refine lv_iconst (v := 0) hx hb dX6_boundInto_77 (by decide) ?_
    refine lv_istore (lv' := [(6, Value.int 0), (4, Value.long y7), (0, Value.ref o), (1, Value.ref p0), (2, Value.ref p1), (3, Value.int p2)]) hx hb dX6_boundInto_78 hl (by decide) rfl (fun ls hl => ?_)
    refine tl_loop (I := fun nn H locs ls => ∃ (v8 : Int32) (v9 : Int64), nn = (4 - v8.toInt).toNat ∧ iv v8 0 4 ∧ (∀ x : Nat, x < (v8).toNatClampNeg → ¬ prB (f_p1_a_rate (p1_v_rates.toNatClampNeg - 1)) v_lowerNumber v_pressOfElse f_a_press (fun a => CT (R_p1_a_chances a)) p2.toNatClampNeg p1_v_works.toNatClampNeg x) ∧ ((v8).toInt ≤ p1_v_signs.toInt) ∧  va_P (dC, dI) vwCl ([(o, Sum.inr (6, [Value.int v_lowerNumber, Value.ref a_press, Value.int v_pressOfElse, Value.ref a_mixed])), (a_press, Sum.inl (k_a_press, 5, Sum.inl f_a_press)), (p0, Sum.inr (2, [Value.long p0_v_upper, Value.long p0_v_lower])), (p1, Sum.inr (3, [Value.int p1_v_signs, Value.int p1_v_works, Value.int p1_v_whole, Value.int p1_v_otherwise, Value.int p1_v_least, Value.int p1_v_rates, Value.ref p1_a_brings, Value.ref p1_a_costs, Value.ref p1_a_chances, Value.ref p1_a_rate, Value.ref p1_a_mark])), (p1_a_costs, Sum.inl (k_p1_a_costs, 5, Sum.inl f_p1_a_costs)), (p1_a_chances, Sum.inl (k_p1_a_chances, 5, Sum.inr (Sum.inr (Sum.inr (Sum.inr (rows_of 5 R_p1_a_chances)))))), (p1_a_rate, Sum.inl (k_p1_a_rate, 3, Sum.inl f_p1_a_rate)), (p1_a_mark, Sum.inl (k_p1_a_mark, 2, Sum.inl f_p1_a_mark))] ++ va_pl LP fp) H ∧ va_D A ([(o, Sum.inr (6, [Value.int v_lowerNumber, Value.ref a_press, Value.int v_pressOfElse, Value.ref a_mixed])), (a_press, Sum.inl (k_a_press, 5, Sum.inl f_a_press)), (p0, Sum.inr (2, [Value.long p0_v_upper, Value.long p0_v_lower])), (p1, Sum.inr (3, [Value.int p1_v_signs, Value.int p1_v_works, Value.int p1_v_whole, Value.int p1_v_otherwise, Value.int p1_v_least, Value.int p1_v_rates, Value.ref p1_a_brings, Value.ref p1_a_costs, Value.ref p1_a_chances, Value.ref p1_a_rate, Value.ref p1_a_mark])), (p1_a_costs, Sum.inl (k_p1_a_costs, 5, Sum.inl f_p1_a_costs)), (p1_a_chances, Sum.inl (k_p1_a_chances, 5, Sum.inr (Sum.inr (Sum.inr (Sum.inr (rows_of 5 R_p1_a_chances)))))), (p1_a_rate, Sum.inl (k_p1_a_rate, 3, Sum.inl f_p1_a_rate)), (p1_a_mark, Sum.inl (k_p1_a_mark, 2, Sum.inl f_p1_a_mark))] ++ va_pl LP fp) ∧ va_S A s.heap H locs ∧ lv_has ls 11 [(6, Value.int v8), (4, Value.long v9), (0, Value.ref o), (1, Value.ref p0), (2, Value.ref p1), (3, Value.int p2)]) ?_ ⟨0, y7, rfl, (iv.m (by decide)), mxl_0, (by have hz9 : (0 : Int32).toInt = 0 := (by decide); omega), hP, hD, hS, lv_sub hl [0, 1, 2, 3, 4, 5] rfl⟩
    clear hP hD hS hl
    intro nn80 H locs ls hI ih80
    obtain ⟨v8, v9, hn80, hv8, hi80_0, hi80_1, hP, hD, hS, hl⟩ := hI
    have bv8 := hv8.u
    refine lv_iload hx hb dX6_boundInto_80 (lv_at hl 0 rfl) ?_
    refine lv_aload_n hx hb dX6_boundInto_82 rfl (lv_at hl 4 rfl) ?_
    refine va_get (D := (dC, dI)) (ci := 3) (v := Value.int p1_v_signs) (C := RX3) (T := TX3) (N := 11) hx hb hts iw_X6_boundInto_X3 hown hK hP 3 rfl rfl 0 (by decide) (hts _ kk_X6_boundInto_5) (fun _ h9 => h9) rfl dX6_boundInto_83 ?_
    refine lv_icmp_ge (tgt := 159) hx hb dX6_boundInto_86 (by decide) (fun c10 => ?_) (fun c10 => ?_)
    · have c109 := i32_le c10 rfl rfl
      refine lv_aload_n hx hb dX6_boundInto_159 rfl (lv_at hl 3 rfl) ?_
      refine lv_lload hx hb dX6_boundInto_160 (lv_at hl 1 rfl) ?_
      refine lv_aload_n hx hb dX6_boundInto_162 rfl (lv_at hl 2 rfl) ?_
      refine va_get (D := (dC, dI)) (ci := 6) (v := Value.int v_lowerNumber) (C := RX6) (T := TX6) (N := 4) hx hb hts iw_X6_boundInto_X6 hown hK hP 0 rfl rfl 0 (by decide) (hts _ kk_X6_boundInto_6) (fun _ h9 => h9) rfl dX6_boundInto_163 ?_
      refine lv_i2l (v := (v_lowerNumber).toInt64) hx hb dX6_boundInto_166 rfl ?_
      refine lv_aload_n hx hb dX6_boundInto_167 rfl (lv_at hl 4 rfl) ?_
      refine va_get (D := (dC, dI)) (ci := 3) (v := Value.int p1_v_whole) (C := RX3) (T := TX3) (N := 11) hx hb hts iw_X6_boundInto_X3 hown hK hP 3 rfl rfl 2 (by decide) (hts _ kk_X6_boundInto_4) (fun _ h9 => h9) rfl dX6_boundInto_168 ?_
      refine lv_i2l (v := (p1_v_whole).toInt64) hx hb dX6_boundInto_171 rfl ?_
      refine lv_lmul hx hb dX6_boundInto_172 ?_
      refine lv_topl (fun y11 ey11 => ?_)
      have hy11 : jv y11 2 99990 := jv.mulp ey11 (jv.i (show iv v_lowerNumber 1 9999 from hv_lowerNumber)) (jv.i (show iv p1_v_whole 2 10 from hp1_v_whole)) (by decide) (by decide) (by decide) (by decide) (by decide)
      have hPc := hP.sub (ws' := [(p0, Sum.inr (2, [Value.long p0_v_upper, Value.long p0_v_lower]))]) [2] rfl
      have hDc := hD.sub (ws' := [(p0, Sum.inr (2, [Value.long p0_v_upper, Value.long p0_v_lower]))]) [2] (by decide) rfl
      have hKc := hK.sub (tys' := []) [] rfl
      have hFc := va_free (wc := [(p0, Sum.inr (2, [Value.long p0_v_upper, Value.long p0_v_lower]))]) hD hS hA [2] rfl
      refine va_callv (va_runV (As := [Value.long v9, Value.long y11]) (rest := []) ⟨hx, hb, hml, hown, hts⟩ (ct_X2_become l dC dI p0 v9 y11 p0_v_upper p0_v_lower H.size) (cwV 2 hts gX6_boundInto_X2_become rfl rfl rfl ⟨rfl, cn_X2.1, cn_X2.2, ds_13⟩ ⟨Nat.le_of_ble_eq_true rfl, Nat.le_of_ble_eq_true rfl⟩) ⟨fun a U g mk q => by obtain ⟨q0, q1, qP, qK, qD⟩ := q; exact ⟨q0, q1, qP, va_K.moved (u := U) (U := U.calling g mk a) (Vm.Alike.refl U.vm) qK, qD⟩, va_recv hKc hPc (ci := 2) (q0 := 0) rfl rfl, fun U hU hW => ⟨rfl, by rw [hU], by rw [hU]; exact hPc, va_K.moved hW.alike hKc, hDc.weaken (fun _ _ _ _ => trivial)⟩⟩ rfl rfl hl.1 rfl (lv_room (Nat.le_of_ble_eq_true rfl)) dX6_boundInto_173 ⟨Nat.le_of_ble_eq_true rfl, Nat.le_of_ble_eq_true rfl⟩) hS (fun q _ h => hFc q h) hFc (fun u t H1 locs ht hvm hw hB hz1 hk1 hS => ?_)
      obtain ⟨y13, y14, w15, hP1, hD1⟩ := hB
      rw [ht] at hP1
      obtain ⟨hP, hD⟩ := va_joinQ (X := [(o, Sum.inr (6, [Value.int v_lowerNumber, Value.ref a_press, Value.int v_pressOfElse, Value.ref a_mixed])), (a_press, Sum.inl (k_a_press, 5, Sum.inl f_a_press)), (p0, Sum.inr (2, [Value.long p0_v_upper, Value.long p0_v_lower])), (p1, Sum.inr (3, [Value.int p1_v_signs, Value.int p1_v_works, Value.int p1_v_whole, Value.int p1_v_otherwise, Value.int p1_v_least, Value.int p1_v_rates, Value.ref p1_a_brings, Value.ref p1_a_costs, Value.ref p1_a_chances, Value.ref p1_a_rate, Value.ref p1_a_mark])), (p1_a_costs, Sum.inl (k_p1_a_costs, 5, Sum.inl f_p1_a_costs)), (p1_a_chances, Sum.inl (k_p1_a_chances, 5, Sum.inr (Sum.inr (Sum.inr (Sum.inr (rows_of 5 R_p1_a_chances)))))), (p1_a_rate, Sum.inl (k_p1_a_rate, 3, Sum.inl f_p1_a_rate)), (p1_a_mark, Sum.inl (k_p1_a_mark, 2, Sum.inl f_p1_a_mark))]) (cx := [(p0, Sum.inr (2, [Value.long p0_v_upper, Value.long p0_v_lower]))]) (wr := [(o, Sum.inr (6, [Value.int v_lowerNumber, Value.ref a_press, Value.int v_pressOfElse, Value.ref a_mixed])), (a_press, Sum.inl (k_a_press, 5, Sum.inl f_a_press)), (p1, Sum.inr (3, [Value.int p1_v_signs, Value.int p1_v_works, Value.int p1_v_whole, Value.int p1_v_otherwise, Value.int p1_v_least, Value.int p1_v_rates, Value.ref p1_a_brings, Value.ref p1_a_costs, Value.ref p1_a_chances, Value.ref p1_a_rate, Value.ref p1_a_mark])), (p1_a_costs, Sum.inl (k_p1_a_costs, 5, Sum.inl f_p1_a_costs)), (p1_a_chances, Sum.inl (k_p1_a_chances, 5, Sum.inr (Sum.inr (Sum.inr (Sum.inr (rows_of 5 R_p1_a_chances)))))), (p1_a_rate, Sum.inl (k_p1_a_rate, 3, Sum.inl f_p1_a_rate)), (p1_a_mark, Sum.inl (k_p1_a_mark, 2, Sum.inl f_p1_a_mark))]) (w1 := [(p0, Sum.inr (2, [Value.long y13, Value.long y14]))]) hP hD [2] [0, 1, 3, 4, 5, 6, 7] rfl rfl (by decide) (by decide) hk1 hFc hP1 hD1
      clear hPc hDc hKc hFc hP1 hD1 hk1 hz1
      generalize H1 = H at hP hS ⊢
      have hP : va_P (dC, dI) vwCl ([(o, Sum.inr (6, [Value.int v_lowerNumber, Value.ref a_press, Value.int v_pressOfElse, Value.ref a_mixed])), (a_press, Sum.inl (k_a_press, 5, Sum.inl f_a_press)), (p1, Sum.inr (3, [Value.int p1_v_signs, Value.int p1_v_works, Value.int p1_v_whole, Value.int p1_v_otherwise, Value.int p1_v_least, Value.int p1_v_rates, Value.ref p1_a_brings, Value.ref p1_a_costs, Value.ref p1_a_chances, Value.ref p1_a_rate, Value.ref p1_a_mark])), (p1_a_costs, Sum.inl (k_p1_a_costs, 5, Sum.inl f_p1_a_costs)), (p1_a_chances, Sum.inl (k_p1_a_chances, 5, Sum.inr (Sum.inr (Sum.inr (Sum.inr (rows_of 5 R_p1_a_chances)))))), (p1_a_rate, Sum.inl (k_p1_a_rate, 3, Sum.inl f_p1_a_rate)), (p1_a_mark, Sum.inl (k_p1_a_mark, 2, Sum.inl f_p1_a_mark)), (p0, Sum.inr (2, [Value.long y13, Value.long y14]))] ++ va_pl LP fp) H := hP
      have hD : va_D A ([(o, Sum.inr (6, [Value.int v_lowerNumber, Value.ref a_press, Value.int v_pressOfElse, Value.ref a_mixed])), (a_press, Sum.inl (k_a_press, 5, Sum.inl f_a_press)), (p1, Sum.inr (3, [Value.int p1_v_signs, Value.int p1_v_works, Value.int p1_v_whole, Value.int p1_v_otherwise, Value.int p1_v_least, Value.int p1_v_rates, Value.ref p1_a_brings, Value.ref p1_a_costs, Value.ref p1_a_chances, Value.ref p1_a_rate, Value.ref p1_a_mark])), (p1_a_costs, Sum.inl (k_p1_a_costs, 5, Sum.inl f_p1_a_costs)), (p1_a_chances, Sum.inl (k_p1_a_chances, 5, Sum.inr (Sum.inr (Sum.inr (Sum.inr (rows_of 5 R_p1_a_chances)))))), (p1_a_rate, Sum.inl (k_p1_a_rate, 3, Sum.inl f_p1_a_rate)), (p1_a_mark, Sum.inl (k_p1_a_mark, 2, Sum.inl f_p1_a_mark)), (p0, Sum.inr (2, [Value.long y13, Value.long y14]))] ++ va_pl LP fp) := hD
      refine W.widen (k := 0) (n := 0) (by decide) (by decide) ?_
      refine lv_iconst (v := 1) hx hb dX6_boundInto_176 (by decide) ?_
      have hP9 := hP.part (cx := [(o, Sum.inr (6, [Value.int v_lowerNumber, Value.ref a_press, Value.int v_pressOfElse, Value.ref a_mixed])), (a_press, Sum.inl (k_a_press, 5, Sum.inl f_a_press)), (p0, Sum.inr (2, [Value.long y13, Value.long y14])), (p1, Sum.inr (3, [Value.int p1_v_signs, Value.int p1_v_works, Value.int p1_v_whole, Value.int p1_v_otherwise, Value.int p1_v_least, Value.int p1_v_rates, Value.ref p1_a_brings, Value.ref p1_a_costs, Value.ref p1_a_chances, Value.ref p1_a_rate, Value.ref p1_a_mark])), (p1_a_costs, Sum.inl (k_p1_a_costs, 5, Sum.inl f_p1_a_costs)), (p1_a_chances, Sum.inl (k_p1_a_chances, 5, Sum.inr (Sum.inr (Sum.inr (Sum.inr (rows_of 5 R_p1_a_chances)))))), (p1_a_rate, Sum.inl (k_p1_a_rate, 3, Sum.inl f_p1_a_rate)), (p1_a_mark, Sum.inl (k_p1_a_mark, 2, Sum.inl f_p1_a_mark))]) [0, 1, 7, 2, 3, 4, 5, 6] rfl
      have hD9 := hD.part (cx := [(o, Sum.inr (6, [Value.int v_lowerNumber, Value.ref a_press, Value.int v_pressOfElse, Value.ref a_mixed])), (a_press, Sum.inl (k_a_press, 5, Sum.inl f_a_press)), (p0, Sum.inr (2, [Value.long y13, Value.long y14])), (p1, Sum.inr (3, [Value.int p1_v_signs, Value.int p1_v_works, Value.int p1_v_whole, Value.int p1_v_otherwise, Value.int p1_v_least, Value.int p1_v_rates, Value.ref p1_a_brings, Value.ref p1_a_costs, Value.ref p1_a_chances, Value.ref p1_a_rate, Value.ref p1_a_mark])), (p1_a_costs, Sum.inl (k_p1_a_costs, 5, Sum.inl f_p1_a_costs)), (p1_a_chances, Sum.inl (k_p1_a_chances, 5, Sum.inr (Sum.inr (Sum.inr (Sum.inr (rows_of 5 R_p1_a_chances)))))), (p1_a_rate, Sum.inl (k_p1_a_rate, 3, Sum.inl f_p1_a_rate)), (p1_a_mark, Sum.inl (k_p1_a_mark, 2, Sum.inl f_p1_a_mark))]) [0, 1, 7, 2, 3, 4, 5, 6] (by decide) rfl
      exact W.zret (v := 1) hx hb hr rfl (fun t ht hW => ⟨⟨1, 1, rfl, rfl, y13, y14, (Or.inr (⟨rfl, (by exact mxl_end hi80_0 (by omega))⟩)), by rw [ht]; exact hP9, hD9⟩, hS.F ht⟩) hS.2.2 dX6_boundInto_177
    · have c109 := i32_nle c10 rfl rfl
      refine lv_aload_n hx hb dX6_boundInto_89 rfl (lv_at hl 4 rfl) ?_
      refine va_get (D := (dC, dI)) (ci := 3) (v := Value.ref p1_a_chances) (C := RX3) (T := TX3) (N := 11) hx hb hts iw_X6_boundInto_X3 hown hK hP 3 rfl rfl 8 (by decide) (hts _ kk_X6_boundInto_7) (fun _ h9 => h9) rfl dX6_boundInto_90 ?_
      refine lv_iload_n hx hb dX6_boundInto_93 rfl (lv_at hl 5 rfl) ?_
      have hinrw16 : vp_in p2 5 := (vq_in p2 5 (by omega))
      refine va_aldA hx hb hK hP 5 2 rfl rfl hinrw16 dX6_boundInto_94 ?_
      obtain ⟨rw16, erw16⟩ : ∃ z : Nat, z = R_p1_a_chances (Int32.toNatClampNeg p2) := ⟨_, rfl⟩
      refine px_v ((row_sel hinrw16).trans (congrArg Value.ref erw16.symm)) ?_
      have mrw16 : rw16 ∈ LP ∧ sh rw16 = 104 := by rw [erw16]; exact hRR_p1_a_chances _ (vin_lt hinrw16)
      refine lv_iload hx hb dX6_boundInto_95 (lv_at hl 0 rfl) ?_
      obtain ⟨hgk17, bgk17⟩ := pok_104 (hfp) mrw16
      obtain ⟨kk18, hkk18⟩ := va_pl_get (X := [(o, Sum.inr (6, [Value.int v_lowerNumber, Value.ref a_press, Value.int v_pressOfElse, Value.ref a_mixed])), (a_press, Sum.inl (k_a_press, 5, Sum.inl f_a_press)), (p0, Sum.inr (2, [Value.long p0_v_upper, Value.long p0_v_lower])), (p1, Sum.inr (3, [Value.int p1_v_signs, Value.int p1_v_works, Value.int p1_v_whole, Value.int p1_v_otherwise, Value.int p1_v_least, Value.int p1_v_rates, Value.ref p1_a_brings, Value.ref p1_a_costs, Value.ref p1_a_chances, Value.ref p1_a_rate, Value.ref p1_a_mark])), (p1_a_costs, Sum.inl (k_p1_a_costs, 5, Sum.inl f_p1_a_costs)), (p1_a_chances, Sum.inl (k_p1_a_chances, 5, Sum.inr (Sum.inr (Sum.inr (Sum.inr (rows_of 5 R_p1_a_chances)))))), (p1_a_rate, Sum.inl (k_p1_a_rate, 3, Sum.inl f_p1_a_rate)), (p1_a_mark, Sum.inl (k_p1_a_mark, 2, Sum.inl f_p1_a_mark))]) (f := fp) mrw16.1
      have qkk18 := hkk18
      rw [hgk17] at qkk18
      refine va_iald hx hb hK hP kk18 5 qkk18 rfl (vq_in v8 4 (by omega)) dX6_boundInto_97 ?_
      refine lv_topi (fun x19 ex19 => ?_)
      have hx19 : iv x19 0 10 := iv.of (bgk17 _) ex19
      refine lv_i2l (v := (x19).toInt64) hx hb dX6_boundInto_98 rfl ?_
      refine lv_aload_n hx hb dX6_boundInto_99 rfl (lv_at hl 2 rfl) ?_
      refine va_get (D := (dC, dI)) (ci := 6) (v := Value.int v_lowerNumber) (C := RX6) (T := TX6) (N := 4) hx hb hts iw_X6_boundInto_X6 hown hK hP 0 rfl rfl 0 (by decide) (hts _ kk_X6_boundInto_6) (fun _ h9 => h9) rfl dX6_boundInto_100 ?_
      refine lv_i2l (v := (v_lowerNumber).toInt64) hx hb dX6_boundInto_103 rfl ?_
      refine lv_lmul hx hb dX6_boundInto_104 ?_
      refine lv_topl (fun y20 ey20 => ?_)
      have hy20 : jv y20 0 99990 := jv.mulp ey20 (jv.i (show iv x19 0 10 from hx19)) (jv.i (show iv v_lowerNumber 1 9999 from hv_lowerNumber)) (by decide) (by decide) (by decide) (by decide) (by decide)
      refine lv_lstore (lv' := [(7, Value.long y20), (6, Value.int v8), (4, Value.long v9), (0, Value.ref o), (1, Value.ref p0), (2, Value.ref p1), (3, Value.int p2)]) hx hb dX6_boundInto_105 hl (by decide) rfl (fun ls hl => ?_)
      refine lv_aload_n hx hb dX6_boundInto_107 rfl (lv_at hl 3 rfl) ?_
      refine lv_aload_n hx hb dX6_boundInto_108 rfl (lv_at hl 5 rfl) ?_
      refine lv_iload_n hx hb dX6_boundInto_109 rfl (lv_at hl 6 rfl) ?_
      refine lv_iload hx hb dX6_boundInto_110 (lv_at hl 1 rfl) ?_
      have hPc := hP.part (cx := [(o, Sum.inr (6, [Value.int v_lowerNumber, Value.ref a_press, Value.int v_pressOfElse, Value.ref a_mixed])), (a_press, Sum.inl (k_a_press, 5, Sum.inl f_a_press)), (p1, Sum.inr (3, [Value.int p1_v_signs, Value.int p1_v_works, Value.int p1_v_whole, Value.int p1_v_otherwise, Value.int p1_v_least, Value.int p1_v_rates, Value.ref p1_a_brings, Value.ref p1_a_costs, Value.ref p1_a_chances, Value.ref p1_a_rate, Value.ref p1_a_mark])), (p1_a_chances, Sum.inl (k_p1_a_chances, 5, Sum.inr (Sum.inr (Sum.inr (Sum.inr (rows_of 5 R_p1_a_chances))))))]) [0, 1, 3, 5] rfl
      have hDc := hD.part (cx := [(o, Sum.inr (6, [Value.int v_lowerNumber, Value.ref a_press, Value.int v_pressOfElse, Value.ref a_mixed])), (a_press, Sum.inl (k_a_press, 5, Sum.inl f_a_press)), (p1, Sum.inr (3, [Value.int p1_v_signs, Value.int p1_v_works, Value.int p1_v_whole, Value.int p1_v_otherwise, Value.int p1_v_least, Value.int p1_v_rates, Value.ref p1_a_brings, Value.ref p1_a_costs, Value.ref p1_a_chances, Value.ref p1_a_rate, Value.ref p1_a_mark])), (p1_a_chances, Sum.inl (k_p1_a_chances, 5, Sum.inr (Sum.inr (Sum.inr (Sum.inr (rows_of 5 R_p1_a_chances))))))]) [0, 1, 3, 5] (by decide) rfl
      have hKc := hK.sub (tys' := [(k_a_press, FieldType.int), (k_p1_a_chances, (FieldType.array FieldType.int)), (cI, FieldType.int), (cJ, FieldType.long)]) [0, 2, 5, 6] rfl
      have hFc := va_freeP (cx := [(o, Sum.inr (6, [Value.int v_lowerNumber, Value.ref a_press, Value.int v_pressOfElse, Value.ref a_mixed])), (a_press, Sum.inl (k_a_press, 5, Sum.inl f_a_press)), (p1, Sum.inr (3, [Value.int p1_v_signs, Value.int p1_v_works, Value.int p1_v_whole, Value.int p1_v_otherwise, Value.int p1_v_least, Value.int p1_v_rates, Value.ref p1_a_brings, Value.ref p1_a_costs, Value.ref p1_a_chances, Value.ref p1_a_rate, Value.ref p1_a_mark])), (p1_a_chances, Sum.inl (k_p1_a_chances, 5, Sum.inr (Sum.inr (Sum.inr (Sum.inr (rows_of 5 R_p1_a_chances))))))]) hD hS hA [0, 1, 3, 5] rfl
      refine va_calll (va_runV (As := [Value.ref p1, Value.int p2, Value.int v8]) (rest := []) ⟨hx, hb, hml, hown, hts⟩ (ct_X6_pressedAt l dC dI o p1 p2 v8 v_lowerNumber a_press v_pressOfElse a_mixed k_a_press f_a_press p1_v_signs p1_v_works p1_v_whole p1_v_otherwise p1_v_least p1_v_rates p1_a_brings p1_a_costs p1_a_chances p1_a_rate p1_a_mark k_p1_a_chances R_p1_a_chances LP sh fp cI cJ CT hp2 (iv.m (by omega)) hp1_v_works hfp hRR_p1_a_chances hpe hpp H.size) (cwV 3 hts gX6_boundInto_X6_pressedAt rfl rfl rfl ⟨rfl, cn_X6.1, cn_X6.2, ds_11⟩ ⟨Nat.le_of_ble_eq_true rfl, Nat.le_of_ble_eq_true rfl⟩) ⟨fun a U g mk q => by obtain ⟨q0, q1, qP, qK, qD⟩ := q; exact ⟨q0, q1, qP, va_K.moved (u := U) (U := U.calling g mk a) (Vm.Alike.refl U.vm) qK, qD⟩, va_recv hKc hPc (ci := 6) (q0 := 0) rfl rfl, fun U hU hW => ⟨rfl, by rw [hU], by rw [hU]; exact hPc, va_K.moved hW.alike hKc, hDc.weaken (fun _ _ _ _ => trivial)⟩⟩ rfl rfl hl.1 rfl (lv_room (Nat.le_of_ble_eq_true rfl)) dX6_boundInto_112 ⟨Nat.le_of_ble_eq_true rfl, Nat.le_of_ble_eq_true rfl⟩) hS (fun q _ h => hFc q h) hFc (fun r21 u t H1 locs ht hvm hw hB hz1 hk1 hS => ?_)
      have hw : r21 = u := hw.symm
      subst hw
      obtain ⟨w22, hP1, hD1⟩ := hB
      rw [ht] at hP1
      obtain ⟨hP, hD⟩ := va_joinP (X := [(o, Sum.inr (6, [Value.int v_lowerNumber, Value.ref a_press, Value.int v_pressOfElse, Value.ref a_mixed])), (a_press, Sum.inl (k_a_press, 5, Sum.inl f_a_press)), (p0, Sum.inr (2, [Value.long p0_v_upper, Value.long p0_v_lower])), (p1, Sum.inr (3, [Value.int p1_v_signs, Value.int p1_v_works, Value.int p1_v_whole, Value.int p1_v_otherwise, Value.int p1_v_least, Value.int p1_v_rates, Value.ref p1_a_brings, Value.ref p1_a_costs, Value.ref p1_a_chances, Value.ref p1_a_rate, Value.ref p1_a_mark])), (p1_a_costs, Sum.inl (k_p1_a_costs, 5, Sum.inl f_p1_a_costs)), (p1_a_chances, Sum.inl (k_p1_a_chances, 5, Sum.inr (Sum.inr (Sum.inr (Sum.inr (rows_of 5 R_p1_a_chances)))))), (p1_a_rate, Sum.inl (k_p1_a_rate, 3, Sum.inl f_p1_a_rate)), (p1_a_mark, Sum.inl (k_p1_a_mark, 2, Sum.inl f_p1_a_mark))]) (cx := [(o, Sum.inr (6, [Value.int v_lowerNumber, Value.ref a_press, Value.int v_pressOfElse, Value.ref a_mixed])), (a_press, Sum.inl (k_a_press, 5, Sum.inl f_a_press)), (p1, Sum.inr (3, [Value.int p1_v_signs, Value.int p1_v_works, Value.int p1_v_whole, Value.int p1_v_otherwise, Value.int p1_v_least, Value.int p1_v_rates, Value.ref p1_a_brings, Value.ref p1_a_costs, Value.ref p1_a_chances, Value.ref p1_a_rate, Value.ref p1_a_mark])), (p1_a_chances, Sum.inl (k_p1_a_chances, 5, Sum.inr (Sum.inr (Sum.inr (Sum.inr (rows_of 5 R_p1_a_chances))))))]) (wr := [(p0, Sum.inr (2, [Value.long p0_v_upper, Value.long p0_v_lower])), (p1_a_costs, Sum.inl (k_p1_a_costs, 5, Sum.inl f_p1_a_costs)), (p1_a_rate, Sum.inl (k_p1_a_rate, 3, Sum.inl f_p1_a_rate)), (p1_a_mark, Sum.inl (k_p1_a_mark, 2, Sum.inl f_p1_a_mark))]) (rx := [(o, Sum.inr (6, [Value.int v_lowerNumber, Value.ref a_press, Value.int v_pressOfElse, Value.ref a_mixed])), (a_press, Sum.inl (k_a_press, 5, Sum.inl f_a_press)), (p1, Sum.inr (3, [Value.int p1_v_signs, Value.int p1_v_works, Value.int p1_v_whole, Value.int p1_v_otherwise, Value.int p1_v_least, Value.int p1_v_rates, Value.ref p1_a_brings, Value.ref p1_a_costs, Value.ref p1_a_chances, Value.ref p1_a_rate, Value.ref p1_a_mark])), (p1_a_chances, Sum.inl (k_p1_a_chances, 5, Sum.inr (Sum.inr (Sum.inr (Sum.inr (rows_of 5 R_p1_a_chances))))))]) hP hD [0, 1, 3, 5] [2, 4, 6, 7] rfl rfl (by decide) (by decide) hk1 hFc hP1 hD1
      clear hPc hDc hKc hFc hP1 hD1 hk1 hz1
      generalize H1 = H at hP hS ⊢
      have hP : va_P (dC, dI) vwCl ([(p0, Sum.inr (2, [Value.long p0_v_upper, Value.long p0_v_lower])), (p1_a_costs, Sum.inl (k_p1_a_costs, 5, Sum.inl f_p1_a_costs)), (p1_a_rate, Sum.inl (k_p1_a_rate, 3, Sum.inl f_p1_a_rate)), (p1_a_mark, Sum.inl (k_p1_a_mark, 2, Sum.inl f_p1_a_mark)), (o, Sum.inr (6, [Value.int v_lowerNumber, Value.ref a_press, Value.int v_pressOfElse, Value.ref a_mixed])), (a_press, Sum.inl (k_a_press, 5, Sum.inl f_a_press)), (p1, Sum.inr (3, [Value.int p1_v_signs, Value.int p1_v_works, Value.int p1_v_whole, Value.int p1_v_otherwise, Value.int p1_v_least, Value.int p1_v_rates, Value.ref p1_a_brings, Value.ref p1_a_costs, Value.ref p1_a_chances, Value.ref p1_a_rate, Value.ref p1_a_mark])), (p1_a_chances, Sum.inl (k_p1_a_chances, 5, Sum.inr (Sum.inr (Sum.inr (Sum.inr (rows_of 5 R_p1_a_chances))))))] ++ va_pl LP fp) H := hP
      have hD : va_D A ([(p0, Sum.inr (2, [Value.long p0_v_upper, Value.long p0_v_lower])), (p1_a_costs, Sum.inl (k_p1_a_costs, 5, Sum.inl f_p1_a_costs)), (p1_a_rate, Sum.inl (k_p1_a_rate, 3, Sum.inl f_p1_a_rate)), (p1_a_mark, Sum.inl (k_p1_a_mark, 2, Sum.inl f_p1_a_mark)), (o, Sum.inr (6, [Value.int v_lowerNumber, Value.ref a_press, Value.int v_pressOfElse, Value.ref a_mixed])), (a_press, Sum.inl (k_a_press, 5, Sum.inl f_a_press)), (p1, Sum.inr (3, [Value.int p1_v_signs, Value.int p1_v_works, Value.int p1_v_whole, Value.int p1_v_otherwise, Value.int p1_v_least, Value.int p1_v_rates, Value.ref p1_a_brings, Value.ref p1_a_costs, Value.ref p1_a_chances, Value.ref p1_a_rate, Value.ref p1_a_mark])), (p1_a_chances, Sum.inl (k_p1_a_chances, 5, Sum.inr (Sum.inr (Sum.inr (Sum.inr (rows_of 5 R_p1_a_chances))))))] ++ va_pl LP fp) := hD
      refine W.widen (k := 0) (n := 0) (by decide) (by decide) ?_
      refine lv_lstore (lv' := [(9, Value.long r21), (7, Value.long y20), (6, Value.int v8), (4, Value.long v9), (0, Value.ref o), (1, Value.ref p0), (2, Value.ref p1), (3, Value.int p2)]) hx hb dX6_boundInto_115 hl (by decide) rfl (fun ls hl => ?_)
      refine lv_lload hx hb dX6_boundInto_117 (lv_at hl 1 rfl) ?_
      refine lv_aload_n hx hb dX6_boundInto_119 rfl (lv_at hl 6 rfl) ?_
      refine va_get (D := (dC, dI)) (ci := 3) (v := Value.ref p1_a_rate) (C := RX3) (T := TX3) (N := 11) hx hb hts iw_X6_boundInto_X3 hown hK hP 6 rfl rfl 9 (by decide) (hts _ kk_X6_boundInto_8) (fun _ h9 => h9) rfl dX6_boundInto_120 ?_
      refine lv_aload_n hx hb dX6_boundInto_123 rfl (lv_at hl 6 rfl) ?_
      refine va_get (D := (dC, dI)) (ci := 3) (v := Value.int p1_v_rates) (C := RX3) (T := TX3) (N := 11) hx hb hts iw_X6_boundInto_X3 hown hK hP 6 rfl rfl 5 (by decide) (hts _ kk_X6_boundInto_9) (fun _ h9 => h9) rfl dX6_boundInto_124 ?_
      refine lv_iconst (v := 1) hx hb dX6_boundInto_127 (by decide) ?_
      refine lv_isub hx hb dX6_boundInto_128 ?_
      refine lv_topi (fun x23 ex23 => ?_)
      have tx23 := i32_sub ex23 rfl (show (1 : Int32).toInt = 1 by decide) (by omega) (by omega)
      refine va_iald hx hb hK hP 2 3 rfl rfl (vq_in x23 3 (by omega)) dX6_boundInto_129 ?_
      refine lv_topi (fun x24 ex24 => ?_)
      have hx24 : iv x24 0 5 := iv.of (hf_p1_a_rate _) ex24
      refine lv_i2l (v := (x24).toInt64) hx hb dX6_boundInto_130 rfl ?_
      refine lv_lload hx hb dX6_boundInto_131 (lv_at hl 0 rfl) ?_
      refine lv_lmul hx hb dX6_boundInto_133 ?_
      refine lv_topl (fun y25 ey25 => ?_)
      refine W.lcmp hx hb dX6_boundInto_134 ?_
      refine lv_if_ge (tgt := 140) hx hb dX6_boundInto_135 (by decide) (fun c26 => ?_) (fun c26 => ?_)
      · skip
        have c269 := lc_ge c26
        refine lv_lload hx hb dX6_boundInto_140 (lv_at hl 3 rfl) ?_
        refine lv_aload_n hx hb dX6_boundInto_142 rfl (lv_at hl 6 rfl) ?_
        refine lv_lload hx hb dX6_boundInto_143 (lv_at hl 1 rfl) ?_
        refine lv_lload hx hb dX6_boundInto_145 (lv_at hl 0 rfl) ?_
        have hPc := hP.sub (ws' := [(p1, Sum.inr (3, [Value.int p1_v_signs, Value.int p1_v_works, Value.int p1_v_whole, Value.int p1_v_otherwise, Value.int p1_v_least, Value.int p1_v_rates, Value.ref p1_a_brings, Value.ref p1_a_costs, Value.ref p1_a_chances, Value.ref p1_a_rate, Value.ref p1_a_mark])), (p1_a_rate, Sum.inl (k_p1_a_rate, 3, Sum.inl f_p1_a_rate)), (p1_a_mark, Sum.inl (k_p1_a_mark, 2, Sum.inl f_p1_a_mark))]) [6, 2, 3] rfl
        have hDc := hD.sub (ws' := [(p1, Sum.inr (3, [Value.int p1_v_signs, Value.int p1_v_works, Value.int p1_v_whole, Value.int p1_v_otherwise, Value.int p1_v_least, Value.int p1_v_rates, Value.ref p1_a_brings, Value.ref p1_a_costs, Value.ref p1_a_chances, Value.ref p1_a_rate, Value.ref p1_a_mark])), (p1_a_rate, Sum.inl (k_p1_a_rate, 3, Sum.inl f_p1_a_rate)), (p1_a_mark, Sum.inl (k_p1_a_mark, 2, Sum.inl f_p1_a_mark))]) [6, 2, 3] (by decide) rfl
        have hKc := hK.sub (tys' := [(k_p1_a_rate, FieldType.int), (k_p1_a_mark, FieldType.int)]) [3, 4] rfl
        have hFc := va_free (wc := [(p1, Sum.inr (3, [Value.int p1_v_signs, Value.int p1_v_works, Value.int p1_v_whole, Value.int p1_v_otherwise, Value.int p1_v_least, Value.int p1_v_rates, Value.ref p1_a_brings, Value.ref p1_a_costs, Value.ref p1_a_chances, Value.ref p1_a_rate, Value.ref p1_a_mark])), (p1_a_rate, Sum.inl (k_p1_a_rate, 3, Sum.inl f_p1_a_rate)), (p1_a_mark, Sum.inl (k_p1_a_mark, 2, Sum.inl f_p1_a_mark))]) hD hS hA [6, 2, 3] rfl
        refine va_calll (va_runS (As := [Value.ref p1, Value.long y20, Value.long r21]) (rest := [Value.long v9]) ⟨hx, hb, hml, hown, hts⟩ (ct_X6_leastOf l dC dI p1 y20 r21 p1_v_signs p1_v_works p1_v_whole p1_v_otherwise p1_v_least p1_v_rates p1_a_brings p1_a_costs p1_a_chances p1_a_rate p1_a_mark k_p1_a_rate f_p1_a_rate k_p1_a_mark f_p1_a_mark hp1_v_rates hf_p1_a_rate hf_p1_a_mark H.size) (va_cwS 3 hts gX6_boundInto_X6_leastOf rfl rfl rfl ⟨cn_X6.1, cn_X6.2, ds_27⟩ ⟨Nat.le_of_ble_eq_true rfl, Nat.le_of_ble_eq_true rfl⟩) ⟨fun a U g mk q => by obtain ⟨q0, q1, qP, qK, qD⟩ := q; exact ⟨q0, q1, qP, va_K.moved (u := U) (U := U.calling g mk a) (Vm.Alike.refl U.vm) qK, qD⟩, fun U hU hW => ⟨rfl, by rw [hU], by rw [hU]; exact hPc, va_K.moved hW.alike hKc, hDc.weaken (fun _ _ _ _ => trivial)⟩⟩ rfl rfl hl.1 rfl (lv_room (Nat.le_of_ble_eq_true rfl)) dX6_boundInto_147 ⟨Nat.le_of_ble_eq_true rfl, Nat.le_of_ble_eq_true rfl⟩) hS (fun q _ h => hFc q h) hFc (fun r27 u t H1 locs ht hvm hw hB hz1 hk1 hS => ?_)
        have hw : r27 = u := hw.symm
        subst hw
        obtain ⟨hP1, hD1⟩ := hB
        rw [ht] at hP1
        obtain ⟨hP, hD⟩ := va_joinQ (X := [(p0, Sum.inr (2, [Value.long p0_v_upper, Value.long p0_v_lower])), (p1_a_costs, Sum.inl (k_p1_a_costs, 5, Sum.inl f_p1_a_costs)), (p1_a_rate, Sum.inl (k_p1_a_rate, 3, Sum.inl f_p1_a_rate)), (p1_a_mark, Sum.inl (k_p1_a_mark, 2, Sum.inl f_p1_a_mark)), (o, Sum.inr (6, [Value.int v_lowerNumber, Value.ref a_press, Value.int v_pressOfElse, Value.ref a_mixed])), (a_press, Sum.inl (k_a_press, 5, Sum.inl f_a_press)), (p1, Sum.inr (3, [Value.int p1_v_signs, Value.int p1_v_works, Value.int p1_v_whole, Value.int p1_v_otherwise, Value.int p1_v_least, Value.int p1_v_rates, Value.ref p1_a_brings, Value.ref p1_a_costs, Value.ref p1_a_chances, Value.ref p1_a_rate, Value.ref p1_a_mark])), (p1_a_chances, Sum.inl (k_p1_a_chances, 5, Sum.inr (Sum.inr (Sum.inr (Sum.inr (rows_of 5 R_p1_a_chances))))))]) (cx := [(p1, Sum.inr (3, [Value.int p1_v_signs, Value.int p1_v_works, Value.int p1_v_whole, Value.int p1_v_otherwise, Value.int p1_v_least, Value.int p1_v_rates, Value.ref p1_a_brings, Value.ref p1_a_costs, Value.ref p1_a_chances, Value.ref p1_a_rate, Value.ref p1_a_mark])), (p1_a_rate, Sum.inl (k_p1_a_rate, 3, Sum.inl f_p1_a_rate)), (p1_a_mark, Sum.inl (k_p1_a_mark, 2, Sum.inl f_p1_a_mark))]) (wr := [(p0, Sum.inr (2, [Value.long p0_v_upper, Value.long p0_v_lower])), (p1_a_costs, Sum.inl (k_p1_a_costs, 5, Sum.inl f_p1_a_costs)), (o, Sum.inr (6, [Value.int v_lowerNumber, Value.ref a_press, Value.int v_pressOfElse, Value.ref a_mixed])), (a_press, Sum.inl (k_a_press, 5, Sum.inl f_a_press)), (p1_a_chances, Sum.inl (k_p1_a_chances, 5, Sum.inr (Sum.inr (Sum.inr (Sum.inr (rows_of 5 R_p1_a_chances))))))]) (w1 := [(p1, Sum.inr (3, [Value.int p1_v_signs, Value.int p1_v_works, Value.int p1_v_whole, Value.int p1_v_otherwise, Value.int p1_v_least, Value.int p1_v_rates, Value.ref p1_a_brings, Value.ref p1_a_costs, Value.ref p1_a_chances, Value.ref p1_a_rate, Value.ref p1_a_mark])), (p1_a_rate, Sum.inl (k_p1_a_rate, 3, Sum.inl f_p1_a_rate)), (p1_a_mark, Sum.inl (k_p1_a_mark, 2, Sum.inl f_p1_a_mark))]) hP hD [6, 2, 3] [0, 1, 4, 5, 7] rfl rfl (by decide) (by decide) hk1 hFc hP1 hD1
        clear hPc hDc hKc hFc hP1 hD1 hk1 hz1
        generalize H1 = H at hP hS ⊢
        have hP : va_P (dC, dI) vwCl ([(p0, Sum.inr (2, [Value.long p0_v_upper, Value.long p0_v_lower])), (p1_a_costs, Sum.inl (k_p1_a_costs, 5, Sum.inl f_p1_a_costs)), (o, Sum.inr (6, [Value.int v_lowerNumber, Value.ref a_press, Value.int v_pressOfElse, Value.ref a_mixed])), (a_press, Sum.inl (k_a_press, 5, Sum.inl f_a_press)), (p1_a_chances, Sum.inl (k_p1_a_chances, 5, Sum.inr (Sum.inr (Sum.inr (Sum.inr (rows_of 5 R_p1_a_chances)))))), (p1, Sum.inr (3, [Value.int p1_v_signs, Value.int p1_v_works, Value.int p1_v_whole, Value.int p1_v_otherwise, Value.int p1_v_least, Value.int p1_v_rates, Value.ref p1_a_brings, Value.ref p1_a_costs, Value.ref p1_a_chances, Value.ref p1_a_rate, Value.ref p1_a_mark])), (p1_a_rate, Sum.inl (k_p1_a_rate, 3, Sum.inl f_p1_a_rate)), (p1_a_mark, Sum.inl (k_p1_a_mark, 2, Sum.inl f_p1_a_mark))] ++ va_pl LP fp) H := hP
        have hD : va_D A ([(p0, Sum.inr (2, [Value.long p0_v_upper, Value.long p0_v_lower])), (p1_a_costs, Sum.inl (k_p1_a_costs, 5, Sum.inl f_p1_a_costs)), (o, Sum.inr (6, [Value.int v_lowerNumber, Value.ref a_press, Value.int v_pressOfElse, Value.ref a_mixed])), (a_press, Sum.inl (k_a_press, 5, Sum.inl f_a_press)), (p1_a_chances, Sum.inl (k_p1_a_chances, 5, Sum.inr (Sum.inr (Sum.inr (Sum.inr (rows_of 5 R_p1_a_chances)))))), (p1, Sum.inr (3, [Value.int p1_v_signs, Value.int p1_v_works, Value.int p1_v_whole, Value.int p1_v_otherwise, Value.int p1_v_least, Value.int p1_v_rates, Value.ref p1_a_brings, Value.ref p1_a_costs, Value.ref p1_a_chances, Value.ref p1_a_rate, Value.ref p1_a_mark])), (p1_a_rate, Sum.inl (k_p1_a_rate, 3, Sum.inl f_p1_a_rate)), (p1_a_mark, Sum.inl (k_p1_a_mark, 2, Sum.inl f_p1_a_mark))] ++ va_pl LP fp) := hD
        refine W.widen (k := 0) (n := 0) (by decide) (by decide) ?_
        refine lv_ladd hx hb dX6_boundInto_150 ?_
        refine lv_topl (fun y28 ey28 => ?_)
        refine lv_lstore (lv' := [(4, Value.long y28), (9, Value.long r21), (7, Value.long y20), (6, Value.int v8), (0, Value.ref o), (1, Value.ref p0), (2, Value.ref p1), (3, Value.int p2)]) hx hb dX6_boundInto_151 hl (by decide) rfl (fun ls hl => ?_)
        obtain ⟨x29, ex29⟩ : ∃ z : Int32, v8 + Int32.ofInt 1 = z := ⟨_, rfl⟩
        have tx29 := i32_inc ex29 rfl (by decide) (by omega) (by omega)
        refine lv_iinc (v := x29) (lv' := [(6, Value.int x29), (4, Value.long y28), (9, Value.long r21), (7, Value.long y20), (0, Value.ref o), (1, Value.ref p0), (2, Value.ref p1), (3, Value.int p2)]) hx hb dX6_boundInto_153 hl (k := 3) rfl ex29 (by decide) rfl (fun ls hl => ?_)
        refine lv_goto (tgt := 80) hx hb dX6_boundInto_156 (by decide) ?_
        exact ih80 _ _ _ _ (ms_up hn80 tx29 (by decide) (by omega)) ⟨x29, y28, rfl, (iv.m (by omega)), (mxl_up (P := fun x => ¬ prB (f_p1_a_rate (p1_v_rates.toNatClampNeg - 1)) v_lowerNumber v_pressOfElse f_a_press (fun a => CT (R_p1_a_chances a)) p2.toNatClampNeg p1_v_works.toNatClampNeg x) hi80_0 (prB_n (rl_at ex24 tx23 (by omega)) (fun z9 => absurd ((prB_x (a := p2.toNatClampNeg) (wk := p1_v_works.toNatClampNeg) (s := (v8).toNatClampNeg) (CC := fun a => CT (R_p1_a_chances a)) hpe hpp (fun i hi => hcb i hi (v8).toNatClampNeg) (by have e9 := nn_eq p2; omega) (by have e9 := nn_eq p1_v_works; omega) hx24 hv_lowerNumber w22 (show x19 = _ from by rw [← erw16]; exact ex19) ey20 (Or.inl ey25)).mp z9) (by have y9 := l_le (show y25 ≤ y20 by assumption); omega))) tx29 (by omega)), (by omega), hP.part [2, 3, 0, 5, 1, 4, 6, 7] rfl, hD.part [2, 3, 0, 5, 1, 4, 6, 7] (by decide) rfl, hS, lv_sub hl [0, 1, 4, 5, 6, 7] rfl⟩
      · skip
        have c269 := lc_nge c26
        refine lv_iconst (v := 0) hx hb dX6_boundInto_138 (by decide) ?_
        have hP9 := hP.part (cx := [(o, Sum.inr (6, [Value.int v_lowerNumber, Value.ref a_press, Value.int v_pressOfElse, Value.ref a_mixed])), (a_press, Sum.inl (k_a_press, 5, Sum.inl f_a_press)), (p0, Sum.inr (2, [Value.long p0_v_upper, Value.long p0_v_lower])), (p1, Sum.inr (3, [Value.int p1_v_signs, Value.int p1_v_works, Value.int p1_v_whole, Value.int p1_v_otherwise, Value.int p1_v_least, Value.int p1_v_rates, Value.ref p1_a_brings, Value.ref p1_a_costs, Value.ref p1_a_chances, Value.ref p1_a_rate, Value.ref p1_a_mark])), (p1_a_costs, Sum.inl (k_p1_a_costs, 5, Sum.inl f_p1_a_costs)), (p1_a_chances, Sum.inl (k_p1_a_chances, 5, Sum.inr (Sum.inr (Sum.inr (Sum.inr (rows_of 5 R_p1_a_chances)))))), (p1_a_rate, Sum.inl (k_p1_a_rate, 3, Sum.inl f_p1_a_rate)), (p1_a_mark, Sum.inl (k_p1_a_mark, 2, Sum.inl f_p1_a_mark))]) [4, 5, 0, 6, 1, 7, 2, 3] rfl
        have hD9 := hD.part (cx := [(o, Sum.inr (6, [Value.int v_lowerNumber, Value.ref a_press, Value.int v_pressOfElse, Value.ref a_mixed])), (a_press, Sum.inl (k_a_press, 5, Sum.inl f_a_press)), (p0, Sum.inr (2, [Value.long p0_v_upper, Value.long p0_v_lower])), (p1, Sum.inr (3, [Value.int p1_v_signs, Value.int p1_v_works, Value.int p1_v_whole, Value.int p1_v_otherwise, Value.int p1_v_least, Value.int p1_v_rates, Value.ref p1_a_brings, Value.ref p1_a_costs, Value.ref p1_a_chances, Value.ref p1_a_rate, Value.ref p1_a_mark])), (p1_a_costs, Sum.inl (k_p1_a_costs, 5, Sum.inl f_p1_a_costs)), (p1_a_chances, Sum.inl (k_p1_a_chances, 5, Sum.inr (Sum.inr (Sum.inr (Sum.inr (rows_of 5 R_p1_a_chances)))))), (p1_a_rate, Sum.inl (k_p1_a_rate, 3, Sum.inl f_p1_a_rate)), (p1_a_mark, Sum.inl (k_p1_a_mark, 2, Sum.inl f_p1_a_mark))]) [4, 5, 0, 6, 1, 7, 2, 3] (by decide) rfl
        exact W.zret (v := 0) hx hb hr rfl (fun t ht hW => ⟨⟨0, 0, rfl, rfl, p0_v_upper, p0_v_lower, (Or.inl ⟨rfl, (by exact ⟨(v8).toNatClampNeg, nn_lt (by omega) (by omega), prB_y (rl_at ex24 tx23 (by omega)) ((prB_x (a := p2.toNatClampNeg) (wk := p1_v_works.toNatClampNeg) (s := (v8).toNatClampNeg) (CC := fun a => CT (R_p1_a_chances a)) hpe hpp (fun i hi => hcb i hi (v8).toNatClampNeg) (by have e9 := nn_eq p2; omega) (by have e9 := nn_eq p1_v_works; omega) hx24 hv_lowerNumber w22 (show x19 = _ from by rw [← erw16]; exact ex19) ey20 (Or.inl ey25)).mpr (l_lt (show y20 < y25 by assumption)))⟩)⟩), by rw [ht]; exact hP9, hD9⟩, hS.F ht⟩) hS.2.2 dX6_boundInto_139
  · have c69 := i32_nle c6 rfl rfl
    refine lv_lload hx hb dX6_boundInto_32 (lv_at hl 1 rfl) ?_
    refine lv_aload_n hx hb dX6_boundInto_34 rfl (lv_at hl 2 rfl) ?_
    refine va_get (D := (dC, dI)) (ci := 6) (v := Value.ref a_press) (C := RX6) (T := TX6) (N := 4) hx hb hts iw_X6_boundInto_X6 hown hK hP 0 rfl rfl 1 (by decide) (hts _ kk_X6_boundInto_10) (fun _ h9 => h9) rfl dX6_boundInto_35 ?_
    refine lv_iload hx hb dX6_boundInto_38 (lv_at hl 0 rfl) ?_
    refine va_iald hx hb hK hP 1 0 rfl rfl (vq_in v4 5 (by omega)) dX6_boundInto_40 ?_
    refine lv_topi (fun x30 ex30 => ?_)
    refine lv_i2l (v := (x30).toInt64) hx hb dX6_boundInto_41 rfl ?_
    refine lv_aload_n hx hb dX6_boundInto_42 rfl (lv_at hl 4 rfl) ?_
    refine va_get (D := (dC, dI)) (ci := 3) (v := Value.ref p1_a_costs) (C := RX3) (T := TX3) (N := 11) hx hb hts iw_X6_boundInto_X3 hown hK hP 3 rfl rfl 7 (by decide) (hts _ kk_X6_boundInto_1) (fun _ h9 => h9) rfl dX6_boundInto_43 ?_
    refine lv_iload_n hx hb dX6_boundInto_46 rfl (lv_at hl 5 rfl) ?_
    refine va_iald hx hb hK hP 4 1 rfl rfl (vq_in p2 5 (by omega)) dX6_boundInto_47 ?_
    refine lv_topi (fun x31 ex31 => ?_)
    have hx31 : iv x31 0 99 := iv.of (hf_p1_a_costs _) ex31
    refine lv_aload_n hx hb dX6_boundInto_48 rfl (lv_at hl 4 rfl) ?_
    refine va_get (D := (dC, dI)) (ci := 3) (v := Value.ref p1_a_costs) (C := RX3) (T := TX3) (N := 11) hx hb hts iw_X6_boundInto_X3 hown hK hP 3 rfl rfl 7 (by decide) (hts _ kk_X6_boundInto_1) (fun _ h9 => h9) rfl dX6_boundInto_49 ?_
    refine lv_iload hx hb dX6_boundInto_52 (lv_at hl 0 rfl) ?_
    refine va_iald hx hb hK hP 4 1 rfl rfl (vq_in v4 5 (by omega)) dX6_boundInto_54 ?_
    refine lv_topi (fun x32 ex32 => ?_)
    have hx32 : iv x32 0 99 := iv.of (hf_p1_a_costs _) ex32
    refine lv_isub hx hb dX6_boundInto_55 ?_
    refine lv_topi (fun x33 ex33 => ?_)
    have bx31 := hx31.u
    have bx32 := hx32.u
    have tx33 := i32_sub ex33 rfl rfl (by omega) (by omega)
    refine lv_i2l (v := (x33).toInt64) hx hb dX6_boundInto_56 rfl ?_
    refine lv_lmul hx hb dX6_boundInto_57 ?_
    refine lv_topl (fun y34 ey34 => ?_)
    have hy34 : jv y34 (-212600881152) 212600881152 := jv.mula (B := 2147483648) (D := 99) ey34 (jv.i (show iv x30 (-2147483648) 2147483647 from i32_rng x30)) (jv.i (show iv x33 (-99) 99 from (iv.m (by omega)))) (by decide) (by decide) (by decide) (by decide) (by decide) (by decide)
    refine lv_ladd hx hb dX6_boundInto_58 ?_
    refine lv_topl (fun y35 ey35 => ?_)
    refine lv_lstore (lv' := [(4, Value.long y35), (6, Value.int v4), (0, Value.ref o), (1, Value.ref p0), (2, Value.ref p1), (3, Value.int p2)]) hx hb dX6_boundInto_59 hl (by decide) rfl (fun ls hl => ?_)
    obtain ⟨x36, ex36⟩ : ∃ z : Int32, v4 + Int32.ofInt 1 = z := ⟨_, rfl⟩
    have tx36 := i32_inc ex36 rfl (by decide) (by omega) (by omega)
    refine lv_iinc (v := x36) (lv' := [(6, Value.int x36), (4, Value.long y35), (0, Value.ref o), (1, Value.ref p0), (2, Value.ref p1), (3, Value.int p2)]) hx hb dX6_boundInto_61 hl (k := 1) rfl ex36 (by decide) rfl (fun ls hl => ?_)
    refine lv_goto (tgt := 23) hx hb dX6_boundInto_64 (by decide) ?_
    exact ih23 _ _ _ _ (ms_up hn23 tx36 (by decide) (by omega)) ⟨x36, y35, rfl, (iv.m (by omega)), hP, hD, hS, lv_sub hl [0, 1, 2, 3, 4, 5] rfl⟩

