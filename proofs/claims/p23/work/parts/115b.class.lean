set_option maxHeartbeats 4000000 in
set_option maxRecDepth 100000 in
theorem ct_X4_wageInto (l : Launch) (dC : Nat → ClassId) (dI : Nat → Nat → Nat) (o : Nat) (p0 : Nat) (p1 : Int32) (a_above : Nat) (v_aboveLower : Int64) (o_table : Nat) (a_columnSign : Nat) (a_columnRate : Nat) (a_columnRoom : Nat) (v_columns : Int32) (v_rooms : Int32) (o_hire : Nat) (v_work : Int32) (v_keptSign : Int32) (v_joinedSign : Int32) (k_a_above : ClassId) (f_a_above : Nat → Int64) (hire_v_signs : Int32) (hire_v_works : Int32) (hire_v_whole : Int32) (hire_v_otherwise : Int32) (hire_v_least : Int32) (hire_v_rates : Int32) (hire_a_brings : Nat) (hire_a_costs : Nat) (hire_a_chances : Nat) (hire_a_rate : Nat) (hire_a_mark : Nat) (p0_v_upper : Int64) (p0_v_lower : Int64) (hp1 : iv p1 0 3) (sz : Nat) : Met l yX4_wageInto wsX4_wageInto ({ frames := 2, cells := 0, slots := 0, locals := 56 }) (va_Pc [Value.ref o, Value.ref p0, Value.int p1] (fun U => U.heap.size = sz ∧ va_P (dC, dI) vwCl [(o, Sum.inr (4, [Value.ref a_above, Value.long v_aboveLower, Value.ref o_table, Value.ref a_columnSign, Value.ref a_columnRate, Value.ref a_columnRoom, Value.int v_columns, Value.int v_rooms, Value.ref o_hire, Value.int v_work, Value.int v_keptSign, Value.int v_joinedSign])), (a_above, Sum.inl (k_a_above, 4, Sum.inr (Sum.inl f_a_above))), (o_hire, Sum.inr (3, [Value.int hire_v_signs, Value.int hire_v_works, Value.int hire_v_whole, Value.int hire_v_otherwise, Value.int hire_v_least, Value.int hire_v_rates, Value.ref hire_a_brings, Value.ref hire_a_costs, Value.ref hire_a_chances, Value.ref hire_a_rate, Value.ref hire_a_mark])), (p0, Sum.inr (2, [Value.long p0_v_upper, Value.long p0_v_lower]))] U.heap ∧ va_K (dC, dI) vwCl [(k_a_above, FieldType.long)] U ∧ va_D (fun _ => True) [(o, Sum.inr (4, [Value.ref a_above, Value.long v_aboveLower, Value.ref o_table, Value.ref a_columnSign, Value.ref a_columnRate, Value.ref a_columnRoom, Value.int v_columns, Value.int v_rooms, Value.ref o_hire, Value.int v_work, Value.int v_keptSign, Value.int v_joinedSign])), (a_above, Sum.inl (k_a_above, 4, Sum.inr (Sum.inl f_a_above))), (o_hire, Sum.inr (3, [Value.int hire_v_signs, Value.int hire_v_works, Value.int hire_v_whole, Value.int hire_v_otherwise, Value.int hire_v_least, Value.int hire_v_rates, Value.ref hire_a_brings, Value.ref hire_a_costs, Value.ref hire_a_chances, Value.ref hire_a_rate, Value.ref hire_a_mark])), (p0, Sum.inr (2, [Value.long p0_v_upper, Value.long p0_v_lower]))])) (va_Qv (fun _ : Unit => True) (fun _ t => ∃ (e_p0_v_upper : Int64) (e_p0_v_lower : Int64), va_P (dC, dI) vwCl [(o, Sum.inr (4, [Value.ref a_above, Value.long v_aboveLower, Value.ref o_table, Value.ref a_columnSign, Value.ref a_columnRate, Value.ref a_columnRoom, Value.int v_columns, Value.int v_rooms, Value.ref o_hire, Value.int v_work, Value.int v_keptSign, Value.int v_joinedSign])), (a_above, Sum.inl (k_a_above, 4, Sum.inr (Sum.inl f_a_above))), (o_hire, Sum.inr (3, [Value.int hire_v_signs, Value.int hire_v_works, Value.int hire_v_whole, Value.int hire_v_otherwise, Value.int hire_v_least, Value.int hire_v_rates, Value.ref hire_a_brings, Value.ref hire_a_costs, Value.ref hire_a_chances, Value.ref hire_a_rate, Value.ref hire_a_mark])), (p0, Sum.inr (2, [Value.long e_p0_v_upper, Value.long e_p0_v_lower]))] t.heap ∧ va_D (va_A [(o, Sum.inr (4, [Value.ref a_above, Value.long v_aboveLower, Value.ref o_table, Value.ref a_columnSign, Value.ref a_columnRate, Value.ref a_columnRoom, Value.int v_columns, Value.int v_rooms, Value.ref o_hire, Value.int v_work, Value.int v_keptSign, Value.int v_joinedSign])), (a_above, Sum.inl (k_a_above, 4, Sum.inr (Sum.inl f_a_above))), (o_hire, Sum.inr (3, [Value.int hire_v_signs, Value.int hire_v_works, Value.int hire_v_whole, Value.int hire_v_otherwise, Value.int hire_v_least, Value.int hire_v_rates, Value.ref hire_a_brings, Value.ref hire_a_costs, Value.ref hire_a_chances, Value.ref hire_a_rate, Value.ref hire_a_mark])), (p0, Sum.inr (2, [Value.long p0_v_upper, Value.long p0_v_lower]))] sz) [(o, Sum.inr (4, [Value.ref a_above, Value.long v_aboveLower, Value.ref o_table, Value.ref a_columnSign, Value.ref a_columnRate, Value.ref a_columnRoom, Value.int v_columns, Value.int v_rooms, Value.ref o_hire, Value.int v_work, Value.int v_keptSign, Value.int v_joinedSign])), (a_above, Sum.inl (k_a_above, 4, Sum.inr (Sum.inl f_a_above))), (o_hire, Sum.inr (3, [Value.int hire_v_signs, Value.int hire_v_works, Value.int hire_v_whole, Value.int hire_v_otherwise, Value.int hire_v_least, Value.int hire_v_rates, Value.ref hire_a_brings, Value.ref hire_a_costs, Value.ref hire_a_chances, Value.ref hire_a_rate, Value.ref hire_a_mark])), (p0, Sum.inr (2, [Value.long e_p0_v_upper, Value.long e_p0_v_lower]))]) (va_A [(o, Sum.inr (4, [Value.ref a_above, Value.long v_aboveLower, Value.ref o_table, Value.ref a_columnSign, Value.ref a_columnRate, Value.ref a_columnRoom, Value.int v_columns, Value.int v_rooms, Value.ref o_hire, Value.int v_work, Value.int v_keptSign, Value.int v_joinedSign])), (a_above, Sum.inl (k_a_above, 4, Sum.inr (Sum.inl f_a_above))), (o_hire, Sum.inr (3, [Value.int hire_v_signs, Value.int hire_v_works, Value.int hire_v_whole, Value.int hire_v_otherwise, Value.int hire_v_least, Value.int hire_v_rates, Value.ref hire_a_brings, Value.ref hire_a_costs, Value.ref hire_a_chances, Value.ref hire_a_rate, Value.ref hire_a_mark])), (p0, Sum.inr (2, [Value.long p0_v_upper, Value.long p0_v_lower]))] sz)) 0 0 (va_A [(o, Sum.inr (4, [Value.ref a_above, Value.long v_aboveLower, Value.ref o_table, Value.ref a_columnSign, Value.ref a_columnRate, Value.ref a_columnRoom, Value.int v_columns, Value.int v_rooms, Value.ref o_hire, Value.int v_work, Value.int v_keptSign, Value.int v_joinedSign])), (a_above, Sum.inl (k_a_above, 4, Sum.inr (Sum.inl f_a_above))), (o_hire, Sum.inr (3, [Value.int hire_v_signs, Value.int hire_v_works, Value.int hire_v_whole, Value.int hire_v_otherwise, Value.int hire_v_least, Value.int hire_v_rates, Value.ref hire_a_brings, Value.ref hire_a_costs, Value.ref hire_a_chances, Value.ref hire_a_rate, Value.ref hire_a_mark])), (p0, Sum.inr (2, [Value.long p0_v_upper, Value.long p0_v_lower]))] sz) := by
  refine Met.ofW (cc := cX4_wageInto) (maxL := 3) (ret := none) pn_X4 rfl ?_
  intro p e s m args below meth c s₁ B hml hv
  obtain ⟨rfl, hsz, hP, hK, hD0⟩ := hv
  have hx := B.exec
  have hb := B.bytes
  have hr := B.returns
  have hts := atoms_spec (ws := wsX4_wageInto) B.pre
  have hown : s.vm.findClass RX4 = some m.cls := findClass_of_methodNamed B.named
  have hlocks := B.notSynchronized
  subst hsz
  have hD := hD0.self (sz := s.heap.size)
  generalize hAe : va_A [(o, Sum.inr (4, [Value.ref a_above, Value.long v_aboveLower, Value.ref o_table, Value.ref a_columnSign, Value.ref a_columnRate, Value.ref a_columnRoom, Value.int v_columns, Value.int v_rooms, Value.ref o_hire, Value.int v_work, Value.int v_keptSign, Value.int v_joinedSign])), (a_above, Sum.inl (k_a_above, 4, Sum.inr (Sum.inl f_a_above))), (o_hire, Sum.inr (3, [Value.int hire_v_signs, Value.int hire_v_works, Value.int hire_v_whole, Value.int hire_v_otherwise, Value.int hire_v_least, Value.int hire_v_rates, Value.ref hire_a_brings, Value.ref hire_a_costs, Value.ref hire_a_chances, Value.ref hire_a_rate, Value.ref hire_a_mark])), (p0, Sum.inr (2, [Value.long p0_v_upper, Value.long p0_v_lower]))] s.heap.size = A at hD ⊢
  have hA : ∀ q : Nat, s.heap.size ≤ q → A q := fun q h => by rw [← hAe]; exact Or.inr h
  have hS : va_S A s.heap s.heap [] := va_S.rf
  have hP : va_P (dC, dI) vwCl [(o, Sum.inr (4, [Value.ref a_above, Value.long v_aboveLower, Value.ref o_table, Value.ref a_columnSign, Value.ref a_columnRate, Value.ref a_columnRoom, Value.int v_columns, Value.int v_rooms, Value.ref o_hire, Value.int v_work, Value.int v_keptSign, Value.int v_joinedSign])), (a_above, Sum.inl (k_a_above, 4, Sum.inr (Sum.inl f_a_above))), (o_hire, Sum.inr (3, [Value.int hire_v_signs, Value.int hire_v_works, Value.int hire_v_whole, Value.int hire_v_otherwise, Value.int hire_v_least, Value.int hire_v_rates, Value.ref hire_a_brings, Value.ref hire_a_costs, Value.ref hire_a_chances, Value.ref hire_a_rate, Value.ref hire_a_mark])), (p0, Sum.inr (2, [Value.long p0_v_upper, Value.long p0_v_lower]))] s.heap := hP
  have hl := lv_entry ([Value.ref o, Value.ref p0, Value.int p1]) (n := 3) (Nat.le_of_ble_eq_true rfl)
  rw [lg_entry_eq]
  generalize (lg_sl ([Value.ref o, Value.ref p0, Value.int p1]) ++ List.replicate (3 - (lg_sl ([Value.ref o, Value.ref p0, Value.int p1])).length) Slot.unset).toArray = ls at hl ⊢
  have hl : lv_has ls 3 [(0, Value.ref o), (1, Value.ref p0), (2, Value.int p1)] := hl
  refine lv_aload_n hx hb dX4_wageInto_0 rfl (lv_at hl 1 rfl) ?_
  refine lv_aload_n hx hb dX4_wageInto_1 rfl (lv_at hl 0 rfl) ?_
  refine va_get (D := (dC, dI)) (ci := 4) (v := Value.ref o_hire) (C := RX4) (T := TX4) (N := 12) hx hb hts iw_X4_wageInto_X4 hown hK hP 0 rfl rfl 8 (by decide) (hts _ kk_X4_wageInto_0) (fun _ h9 => h9) rfl dX4_wageInto_2 ?_
  refine va_get (D := (dC, dI)) (ci := 3) (v := Value.int hire_v_least) (C := RX3) (T := TX3) (N := 11) hx hb hts iw_X4_wageInto_X3 hown hK hP 2 rfl rfl 4 (by decide) (hts _ kk_X4_wageInto_1) (fun _ h9 => h9) rfl dX4_wageInto_5 ?_
  refine lv_i2l (v := (hire_v_least).toInt64) hx hb dX4_wageInto_8 rfl ?_
  refine lv_aload_n hx hb dX4_wageInto_9 rfl (lv_at hl 0 rfl) ?_
  refine va_get (D := (dC, dI)) (ci := 4) (v := Value.long v_aboveLower) (C := RX4) (T := TX4) (N := 12) hx hb hts iw_X4_wageInto_X4 hown hK hP 0 rfl rfl 1 (by decide) (hts _ kk_X4_wageInto_2) (fun _ h9 => h9) rfl dX4_wageInto_10 ?_
  refine lv_lmul hx hb dX4_wageInto_13 ?_
  refine lv_topl (fun y1 ey1 => ?_)
  refine lv_aload_n hx hb dX4_wageInto_14 rfl (lv_at hl 0 rfl) ?_
  refine va_get (D := (dC, dI)) (ci := 4) (v := Value.ref a_above) (C := RX4) (T := TX4) (N := 12) hx hb hts iw_X4_wageInto_X4 hown hK hP 0 rfl rfl 0 (by decide) (hts _ kk_X4_wageInto_3) (fun _ h9 => h9) rfl dX4_wageInto_15 ?_
  refine lv_iload_n hx hb dX4_wageInto_18 rfl (lv_at hl 2 rfl) ?_
  have bp1 := hp1.u
  refine va_lald hx hb hK hP 1 0 rfl rfl (vq_in p1 4 (by omega)) dX4_wageInto_19 ?_
  refine lv_topl (fun y2 ey2 => ?_)
  refine lv_ladd hx hb dX4_wageInto_20 ?_
  refine lv_topl (fun y3 ey3 => ?_)
  refine lv_aload_n hx hb dX4_wageInto_21 rfl (lv_at hl 0 rfl) ?_
  refine va_get (D := (dC, dI)) (ci := 4) (v := Value.long v_aboveLower) (C := RX4) (T := TX4) (N := 12) hx hb hts iw_X4_wageInto_X4 hown hK hP 0 rfl rfl 1 (by decide) (hts _ kk_X4_wageInto_2) (fun _ h9 => h9) rfl dX4_wageInto_22 ?_
  have hPc := hP.sub (ws' := [(p0, Sum.inr (2, [Value.long p0_v_upper, Value.long p0_v_lower]))]) [3] rfl
  have hDc := hD.sub (ws' := [(p0, Sum.inr (2, [Value.long p0_v_upper, Value.long p0_v_lower]))]) [3] (by decide) rfl
  have hKc := hK.sub (tys' := []) [] rfl
  have hFc := va_free (wc := [(p0, Sum.inr (2, [Value.long p0_v_upper, Value.long p0_v_lower]))]) hD hS hA [3] rfl
  refine va_callv (va_runV (As := [Value.long y3, Value.long v_aboveLower]) (rest := []) ⟨hx, hb, hml, hown, hts⟩ (ct_X2_become l dC dI p0 y3 v_aboveLower p0_v_upper p0_v_lower s.heap.size) (cwV 2 hts gX4_wageInto_X2_become rfl rfl rfl ⟨rfl, cn_X2.1, cn_X2.2, ds_13⟩ ⟨Nat.le_of_ble_eq_true rfl, Nat.le_of_ble_eq_true rfl⟩) ⟨fun a U g mk q => by obtain ⟨q0, q1, qP, qK, qD⟩ := q; exact ⟨q0, q1, qP, va_K.moved (u := U) (U := U.calling g mk a) (Vm.Alike.refl U.vm) qK, qD⟩, va_recv hKc hPc (ci := 2) (q0 := 0) rfl rfl, fun U hU hW => ⟨rfl, by rw [hU], by rw [hU]; exact hPc, va_K.moved hW.alike hKc, hDc.weaken (fun _ _ _ _ => trivial)⟩⟩ rfl rfl hl.1 rfl (lv_room (Nat.le_of_ble_eq_true rfl)) dX4_wageInto_25 ⟨Nat.le_of_ble_eq_true rfl, Nat.le_of_ble_eq_true rfl⟩) hS (fun q _ h => hFc q h) hFc (fun u t H1 locs ht hvm hw hB hz1 hk1 hS => ?_)
  obtain ⟨y5, y6, w7, hP1, hD1⟩ := hB
  rw [ht] at hP1
  obtain ⟨hP, hD⟩ := va_join (wr := [(o, Sum.inr (4, [Value.ref a_above, Value.long v_aboveLower, Value.ref o_table, Value.ref a_columnSign, Value.ref a_columnRate, Value.ref a_columnRoom, Value.int v_columns, Value.int v_rooms, Value.ref o_hire, Value.int v_work, Value.int v_keptSign, Value.int v_joinedSign])), (a_above, Sum.inl (k_a_above, 4, Sum.inr (Sum.inl f_a_above))), (o_hire, Sum.inr (3, [Value.int hire_v_signs, Value.int hire_v_works, Value.int hire_v_whole, Value.int hire_v_otherwise, Value.int hire_v_least, Value.int hire_v_rates, Value.ref hire_a_brings, Value.ref hire_a_costs, Value.ref hire_a_chances, Value.ref hire_a_rate, Value.ref hire_a_mark]))]) (w1 := [(p0, Sum.inr (2, [Value.long y5, Value.long y6]))]) hP hD [3] [0, 1, 2] rfl rfl (by decide) (by decide) hk1 hFc hP1 hD1
  clear hPc hDc hKc hFc hP1 hD1 hk1 hz1
  generalize H1 = H at hP hS ⊢
  have hP : va_P (dC, dI) vwCl [(o, Sum.inr (4, [Value.ref a_above, Value.long v_aboveLower, Value.ref o_table, Value.ref a_columnSign, Value.ref a_columnRate, Value.ref a_columnRoom, Value.int v_columns, Value.int v_rooms, Value.ref o_hire, Value.int v_work, Value.int v_keptSign, Value.int v_joinedSign])), (a_above, Sum.inl (k_a_above, 4, Sum.inr (Sum.inl f_a_above))), (o_hire, Sum.inr (3, [Value.int hire_v_signs, Value.int hire_v_works, Value.int hire_v_whole, Value.int hire_v_otherwise, Value.int hire_v_least, Value.int hire_v_rates, Value.ref hire_a_brings, Value.ref hire_a_costs, Value.ref hire_a_chances, Value.ref hire_a_rate, Value.ref hire_a_mark])), (p0, Sum.inr (2, [Value.long y5, Value.long y6]))] H := hP
  have hD : va_D A [(o, Sum.inr (4, [Value.ref a_above, Value.long v_aboveLower, Value.ref o_table, Value.ref a_columnSign, Value.ref a_columnRate, Value.ref a_columnRoom, Value.int v_columns, Value.int v_rooms, Value.ref o_hire, Value.int v_work, Value.int v_keptSign, Value.int v_joinedSign])), (a_above, Sum.inl (k_a_above, 4, Sum.inr (Sum.inl f_a_above))), (o_hire, Sum.inr (3, [Value.int hire_v_signs, Value.int hire_v_works, Value.int hire_v_whole, Value.int hire_v_otherwise, Value.int hire_v_least, Value.int hire_v_rates, Value.ref hire_a_brings, Value.ref hire_a_costs, Value.ref hire_a_chances, Value.ref hire_a_rate, Value.ref hire_a_mark])), (p0, Sum.inr (2, [Value.long y5, Value.long y6]))] := hD
  refine W.widen (k := 0) (n := 0) (by decide) (by decide) ?_
  have hP9 := hP.sub (ws' := [(o, Sum.inr (4, [Value.ref a_above, Value.long v_aboveLower, Value.ref o_table, Value.ref a_columnSign, Value.ref a_columnRate, Value.ref a_columnRoom, Value.int v_columns, Value.int v_rooms, Value.ref o_hire, Value.int v_work, Value.int v_keptSign, Value.int v_joinedSign])), (a_above, Sum.inl (k_a_above, 4, Sum.inr (Sum.inl f_a_above))), (o_hire, Sum.inr (3, [Value.int hire_v_signs, Value.int hire_v_works, Value.int hire_v_whole, Value.int hire_v_otherwise, Value.int hire_v_least, Value.int hire_v_rates, Value.ref hire_a_brings, Value.ref hire_a_costs, Value.ref hire_a_chances, Value.ref hire_a_rate, Value.ref hire_a_mark])), (p0, Sum.inr (2, [Value.long y5, Value.long y6]))]) [0, 1, 2, 3] rfl
  have hD9 := hD.sub (ws' := [(o, Sum.inr (4, [Value.ref a_above, Value.long v_aboveLower, Value.ref o_table, Value.ref a_columnSign, Value.ref a_columnRate, Value.ref a_columnRoom, Value.int v_columns, Value.int v_rooms, Value.ref o_hire, Value.int v_work, Value.int v_keptSign, Value.int v_joinedSign])), (a_above, Sum.inl (k_a_above, 4, Sum.inr (Sum.inl f_a_above))), (o_hire, Sum.inr (3, [Value.int hire_v_signs, Value.int hire_v_works, Value.int hire_v_whole, Value.int hire_v_otherwise, Value.int hire_v_least, Value.int hire_v_rates, Value.ref hire_a_brings, Value.ref hire_a_costs, Value.ref hire_a_chances, Value.ref hire_a_rate, Value.ref hire_a_mark])), (p0, Sum.inr (2, [Value.long y5, Value.long y6]))]) [0, 1, 2, 3] (by decide) rfl
  exact W.vret hx hb hr (fun t ht hW => ⟨⟨(), rfl, trivial, y5, y6, by rw [ht]; exact hP9, hD9⟩, hS.F ht⟩) hS.2.2 dX4_wageInto_28

set_option maxHeartbeats 4000000 in
set_option maxRecDepth 100000 in
theorem ct_X5_start (l : Launch) (dC : Nat → ClassId) (dI : Nat → Nat → Nat) (o : Nat) (v_lowUpper : Int64) (v_lowLower : Int64) (v_capUpper : Int64) (v_capLower : Int64) (v_isBroken : Int32) (sz : Nat) : Met l yX5_start wsX5_start ({ frames := 0, cells := 0, slots := 0, locals := 0 }) (va_Pc [Value.ref o] (fun U => U.heap.size = sz ∧ va_P (dC, dI) vwCl [(o, Sum.inr (5, [Value.long v_lowUpper, Value.long v_lowLower, Value.long v_capUpper, Value.long v_capLower, Value.int v_isBroken]))] U.heap ∧ va_K (dC, dI) vwCl [] U ∧ va_D (fun _ => True) [(o, Sum.inr (5, [Value.long v_lowUpper, Value.long v_lowLower, Value.long v_capUpper, Value.long v_capLower, Value.int v_isBroken]))])) (va_Qv (fun _ : Unit => True) (fun _ t => va_P (dC, dI) vwCl [(o, Sum.inr (5, [Value.long 0, Value.long 1, Value.long 0, Value.long 0, Value.int 0]))] t.heap ∧ va_D (va_A [(o, Sum.inr (5, [Value.long v_lowUpper, Value.long v_lowLower, Value.long v_capUpper, Value.long v_capLower, Value.int v_isBroken]))] sz) [(o, Sum.inr (5, [Value.long 0, Value.long 1, Value.long 0, Value.long 0, Value.int 0]))]) (va_A [(o, Sum.inr (5, [Value.long v_lowUpper, Value.long v_lowLower, Value.long v_capUpper, Value.long v_capLower, Value.int v_isBroken]))] sz)) 0 0 (va_A [(o, Sum.inr (5, [Value.long v_lowUpper, Value.long v_lowLower, Value.long v_capUpper, Value.long v_capLower, Value.int v_isBroken]))] sz) := by
  refine Met.ofW (cc := cX5_start) (maxL := 1) (ret := none) pn_X5 rfl ?_
  intro p e s m args below meth c s₁ B hml hv
  obtain ⟨rfl, hsz, hP, hK, hD0⟩ := hv
  have hx := B.exec
  have hb := B.bytes
  have hr := B.returns
  have hts := atoms_spec (ws := wsX5_start) B.pre
  have hown : s.vm.findClass RX5 = some m.cls := findClass_of_methodNamed B.named
  have hlocks := B.notSynchronized
  subst hsz
  have hD := hD0.self (sz := s.heap.size)
  generalize hAe : va_A [(o, Sum.inr (5, [Value.long v_lowUpper, Value.long v_lowLower, Value.long v_capUpper, Value.long v_capLower, Value.int v_isBroken]))] s.heap.size = A at hD ⊢
  have hA : ∀ q : Nat, s.heap.size ≤ q → A q := fun q h => by rw [← hAe]; exact Or.inr h
  have hS : va_S A s.heap s.heap [] := va_S.rf
  have hP : va_P (dC, dI) vwCl [(o, Sum.inr (5, [Value.long v_lowUpper, Value.long v_lowLower, Value.long v_capUpper, Value.long v_capLower, Value.int v_isBroken]))] s.heap := hP
  have hl := lv_entry ([Value.ref o]) (n := 1) (Nat.le_of_ble_eq_true rfl)
  rw [lg_entry_eq]
  generalize (lg_sl ([Value.ref o]) ++ List.replicate (1 - (lg_sl ([Value.ref o])).length) Slot.unset).toArray = ls at hl ⊢
  have hl : lv_has ls 1 [(0, Value.ref o)] := hl
  refine lv_aload_n hx hb dX5_start_0 rfl (lv_at hl 0 rfl) ?_
  refine lv_lconst (v := 0) hx hb dX5_start_1 (by decide) ?_
  refine va_put (D := (dC, dI)) (ci := 5) (v := Value.long 0) (ty := FieldType.long) (C := RX5) (T := TX5) (N := 5) hx hb hts iw_X5_start_X5 tyX5 tyX5_ok nmX5 hown hK hP hD hS 0 rfl rfl 0 (by decide) (hts _ kk_X5_start_0) (fun _ h9 => h9) rfl (by decide +kernel) rfl rfl (Nat.le_of_ble_eq_true rfl) dX5_start_2 (fun H locs hP hD hS => ?_)
  have hP : va_P (dC, dI) vwCl [(o, Sum.inr (5, [Value.long 0, Value.long v_lowLower, Value.long v_capUpper, Value.long v_capLower, Value.int v_isBroken]))] H := hP
  have hD : va_D A [(o, Sum.inr (5, [Value.long 0, Value.long v_lowLower, Value.long v_capUpper, Value.long v_capLower, Value.int v_isBroken]))] := hD
  refine lv_aload_n hx hb dX5_start_5 rfl (lv_at hl 0 rfl) ?_
  refine lv_lconst (v := 1) hx hb dX5_start_6 (by decide) ?_
  refine va_put (D := (dC, dI)) (ci := 5) (v := Value.long 1) (ty := FieldType.long) (C := RX5) (T := TX5) (N := 5) hx hb hts iw_X5_start_X5 tyX5 tyX5_ok nmX5 hown hK hP hD hS 0 rfl rfl 1 (by decide) (hts _ kk_X5_start_1) (fun _ h9 => h9) rfl (by decide +kernel) rfl rfl (Nat.le_of_ble_eq_true rfl) dX5_start_7 (fun H locs hP hD hS => ?_)
  have hP : va_P (dC, dI) vwCl [(o, Sum.inr (5, [Value.long 0, Value.long 1, Value.long v_capUpper, Value.long v_capLower, Value.int v_isBroken]))] H := hP
  have hD : va_D A [(o, Sum.inr (5, [Value.long 0, Value.long 1, Value.long v_capUpper, Value.long v_capLower, Value.int v_isBroken]))] := hD
  refine lv_aload_n hx hb dX5_start_10 rfl (lv_at hl 0 rfl) ?_
  refine lv_lconst (v := 0) hx hb dX5_start_11 (by decide) ?_
  refine va_put (D := (dC, dI)) (ci := 5) (v := Value.long 0) (ty := FieldType.long) (C := RX5) (T := TX5) (N := 5) hx hb hts iw_X5_start_X5 tyX5 tyX5_ok nmX5 hown hK hP hD hS 0 rfl rfl 2 (by decide) (hts _ kk_X5_start_2) (fun _ h9 => h9) rfl (by decide +kernel) rfl rfl (Nat.le_of_ble_eq_true rfl) dX5_start_12 (fun H locs hP hD hS => ?_)
  have hP : va_P (dC, dI) vwCl [(o, Sum.inr (5, [Value.long 0, Value.long 1, Value.long 0, Value.long v_capLower, Value.int v_isBroken]))] H := hP
  have hD : va_D A [(o, Sum.inr (5, [Value.long 0, Value.long 1, Value.long 0, Value.long v_capLower, Value.int v_isBroken]))] := hD
  refine lv_aload_n hx hb dX5_start_15 rfl (lv_at hl 0 rfl) ?_
  refine lv_lconst (v := 0) hx hb dX5_start_16 (by decide) ?_
  refine va_put (D := (dC, dI)) (ci := 5) (v := Value.long 0) (ty := FieldType.long) (C := RX5) (T := TX5) (N := 5) hx hb hts iw_X5_start_X5 tyX5 tyX5_ok nmX5 hown hK hP hD hS 0 rfl rfl 3 (by decide) (hts _ kk_X5_start_3) (fun _ h9 => h9) rfl (by decide +kernel) rfl rfl (Nat.le_of_ble_eq_true rfl) dX5_start_17 (fun H locs hP hD hS => ?_)
  have hP : va_P (dC, dI) vwCl [(o, Sum.inr (5, [Value.long 0, Value.long 1, Value.long 0, Value.long 0, Value.int v_isBroken]))] H := hP
  have hD : va_D A [(o, Sum.inr (5, [Value.long 0, Value.long 1, Value.long 0, Value.long 0, Value.int v_isBroken]))] := hD
  refine lv_aload_n hx hb dX5_start_20 rfl (lv_at hl 0 rfl) ?_
  refine lv_iconst (v := 0) hx hb dX5_start_21 (by decide) ?_
  refine va_put (D := (dC, dI)) (ci := 5) (v := Value.int 0) (ty := FieldType.boolean) (C := RX5) (T := TX5) (N := 5) hx hb hts iw_X5_start_X5 tyX5 tyX5_ok nmX5 hown hK hP hD hS 0 rfl rfl 4 (by decide) (hts _ kk_X5_start_4) (fun _ h9 => h9) rfl (by decide +kernel) rfl rfl (Nat.le_of_ble_eq_true rfl) dX5_start_22 (fun H locs hP hD hS => ?_)
  have hP : va_P (dC, dI) vwCl [(o, Sum.inr (5, [Value.long 0, Value.long 1, Value.long 0, Value.long 0, Value.int 0]))] H := hP
  have hD : va_D A [(o, Sum.inr (5, [Value.long 0, Value.long 1, Value.long 0, Value.long 0, Value.int 0]))] := hD
  have hP9 := hP.sub (ws' := [(o, Sum.inr (5, [Value.long 0, Value.long 1, Value.long 0, Value.long 0, Value.int 0]))]) [0] rfl
  have hD9 := hD.sub (ws' := [(o, Sum.inr (5, [Value.long 0, Value.long 1, Value.long 0, Value.long 0, Value.int 0]))]) [0] (by decide) rfl
  exact W.vret hx hb hr (fun t ht hW => ⟨⟨(), rfl, trivial, by rw [ht]; exact hP9, hD9⟩, hS.F ht⟩) hS.2.2 dX5_start_25

set_option maxHeartbeats 4000000 in
set_option maxRecDepth 100000 in
theorem ct_X5_isMet (l : Launch) (dC : Nat → ClassId) (dI : Nat → Nat → Nat) (o : Nat) (v_lowUpper : Int64) (v_lowLower : Int64) (v_capUpper : Int64) (v_capLower : Int64) (v_isBroken : Int32) (hv_lowUpper : jv v_lowUpper (-10000000) 10000000) (hv_lowLower : jv v_lowLower 1 1600) (hv_capUpper : jv v_capUpper (-10000000) 10000000) (hv_capLower : jv v_capLower 0 1600) (hv_isBroken : iv v_isBroken 0 1) (sz : Nat) : Met l yX5_isMet wsX5_isMet ({ frames := 0, cells := 0, slots := 0, locals := 0 }) (va_Pc [Value.ref o] (fun U => U.heap.size = sz ∧ va_P (dC, dI) vwCl [(o, Sum.inr (5, [Value.long v_lowUpper, Value.long v_lowLower, Value.long v_capUpper, Value.long v_capLower, Value.int v_isBroken]))] U.heap ∧ va_K (dC, dI) vwCl [] U ∧ va_D (fun _ => True) [(o, Sum.inr (5, [Value.long v_lowUpper, Value.long v_lowLower, Value.long v_capUpper, Value.long v_capLower, Value.int v_isBroken]))])) (va_Qi (fun (r u : Int32) => u = r) (fun (r : Int32) t => ((r = 0 ∧ (¬ (¬ v_isBroken.toInt = 1 ∧ (v_capLower.toInt = 0 ∨ v_lowUpper.toInt * v_capLower.toInt ≤ v_capUpper.toInt * v_lowLower.toInt)))) ∨ (r = 1 ∧ ((¬ v_isBroken.toInt = 1 ∧ (v_capLower.toInt = 0 ∨ v_lowUpper.toInt * v_capLower.toInt ≤ v_capUpper.toInt * v_lowLower.toInt))))) ∧ va_P (dC, dI) vwCl [(o, Sum.inr (5, [Value.long v_lowUpper, Value.long v_lowLower, Value.long v_capUpper, Value.long v_capLower, Value.int v_isBroken]))] t.heap ∧ va_D (va_A [(o, Sum.inr (5, [Value.long v_lowUpper, Value.long v_lowLower, Value.long v_capUpper, Value.long v_capLower, Value.int v_isBroken]))] sz) [(o, Sum.inr (5, [Value.long v_lowUpper, Value.long v_lowLower, Value.long v_capUpper, Value.long v_capLower, Value.int v_isBroken]))]) (va_A [(o, Sum.inr (5, [Value.long v_lowUpper, Value.long v_lowLower, Value.long v_capUpper, Value.long v_capLower, Value.int v_isBroken]))] sz)) 0 0 (va_A [(o, Sum.inr (5, [Value.long v_lowUpper, Value.long v_lowLower, Value.long v_capUpper, Value.long v_capLower, Value.int v_isBroken]))] sz) := by
  refine Met.ofW (cc := cX5_isMet) (maxL := 2) (ret := (some .boolean)) pn_X5 rfl ?_
  intro p e s m args below meth c s₁ B hml hv
  obtain ⟨rfl, hsz, hP, hK, hD0⟩ := hv
  have hx := B.exec
  have hb := B.bytes
  have hr := B.returns
  have hts := atoms_spec (ws := wsX5_isMet) B.pre
  have hown : s.vm.findClass RX5 = some m.cls := findClass_of_methodNamed B.named
  have hlocks := B.notSynchronized
  subst hsz
  have hD := hD0.self (sz := s.heap.size)
  generalize hAe : va_A [(o, Sum.inr (5, [Value.long v_lowUpper, Value.long v_lowLower, Value.long v_capUpper, Value.long v_capLower, Value.int v_isBroken]))] s.heap.size = A at hD ⊢
  have hA : ∀ q : Nat, s.heap.size ≤ q → A q := fun q h => by rw [← hAe]; exact Or.inr h
  have hS : va_S A s.heap s.heap [] := va_S.rf
  have hP : va_P (dC, dI) vwCl [(o, Sum.inr (5, [Value.long v_lowUpper, Value.long v_lowLower, Value.long v_capUpper, Value.long v_capLower, Value.int v_isBroken]))] s.heap := hP
  have hl := lv_entry ([Value.ref o]) (n := 2) (Nat.le_of_ble_eq_true rfl)
  rw [lg_entry_eq]
  generalize (lg_sl ([Value.ref o]) ++ List.replicate (2 - (lg_sl ([Value.ref o])).length) Slot.unset).toArray = ls at hl ⊢
  have hl : lv_has ls 2 [(0, Value.ref o)] := hl
  have z64 : (0 : Int64).toInt = 0 := by decide
  have z32 : (1 : Int32).toInt = 1 := by decide
  have z30 : (0 : Int32).toInt = 0 := by decide
  refine lv_aload_n hx hb dX5_isMet_0 rfl (lv_at hl 0 rfl) ?_
  refine va_get (D := (dC, dI)) (ci := 5) (v := Value.long v_capLower) (C := RX5) (T := TX5) (N := 5) hx hb hts iw_X5_isMet_X5 hown hK hP 0 rfl rfl 3 (by decide) (hts _ kk_X5_isMet_0) (fun _ h9 => h9) rfl dX5_isMet_1 ?_
  refine lv_lconst (v := 0) hx hb dX5_isMet_4 (by decide) ?_
  refine W.lcmp hx hb dX5_isMet_5 ?_
  refine lv_if_eq (tgt := 31) hx hb dX5_isMet_6 (by decide) (fun c1 => ?_) (fun c1 => ?_)
  · skip
    have c19 := lc_eq c1
    have c18 := l_eq c19
    refine lv_iconst (v := 1) hx hb dX5_isMet_31 (by decide) ?_
    refine lv_goto (tgt := 36) hx hb dX5_isMet_32 (by decide) ?_
    refine lv_istore_n (lv' := [(1, Value.int 1), (0, Value.ref o)]) hx hb dX5_isMet_36 rfl hl (by decide) rfl (fun ls hl => ?_)
    refine lv_aload_n hx hb dX5_isMet_37 rfl (lv_at hl 1 rfl) ?_
    refine va_get (D := (dC, dI)) (ci := 5) (v := Value.int v_isBroken) (C := RX5) (T := TX5) (N := 5) hx hb hts iw_X5_isMet_X5 hown hK hP 0 rfl rfl 4 (by decide) (hts _ kk_X5_isMet_1) (fun _ h9 => h9) rfl dX5_isMet_38 ?_
    have bv_isBroken := hv_isBroken.u
    refine lv_if_ne (tgt := 52) hx hb dX5_isMet_41 (by decide) (fun c2 => ?_) (fun c2 => ?_)
    · have c29 := i32_ne c2 rfl (show (0 : Int32).toInt = 0 by decide)
      refine lv_iconst (v := 0) hx hb dX5_isMet_52 (by decide) ?_
      have hP9 := hP.sub (ws' := [(o, Sum.inr (5, [Value.long v_lowUpper, Value.long v_lowLower, Value.long v_capUpper, Value.long v_capLower, Value.int v_isBroken]))]) [0] rfl
      have hD9 := hD.sub (ws' := [(o, Sum.inr (5, [Value.long v_lowUpper, Value.long v_lowLower, Value.long v_capUpper, Value.long v_capLower, Value.int v_isBroken]))]) [0] (by decide) rfl
      exact W.zret (v := 0) hx hb hr rfl (fun t ht hW => ⟨⟨0, 0, rfl, rfl, (Or.inl ⟨rfl, (by omega)⟩), by rw [ht]; exact hP9, hD9⟩, hS.F ht⟩) hS.2.2 dX5_isMet_53
    · have c29 := i32_eq c2 rfl (show (0 : Int32).toInt = 0 by decide)
      refine lv_iload_n hx hb dX5_isMet_44 rfl (lv_at hl 0 rfl) ?_
      refine lv_if_eq (tgt := 52) hx hb dX5_isMet_45 (by decide) (fun cz => absurd cz (by decide)) (fun _ => ?_)
      refine lv_iconst (v := 1) hx hb dX5_isMet_48 (by decide) ?_
      refine lv_goto (tgt := 53) hx hb dX5_isMet_49 (by decide) ?_
      have hP9 := hP.sub (ws' := [(o, Sum.inr (5, [Value.long v_lowUpper, Value.long v_lowLower, Value.long v_capUpper, Value.long v_capLower, Value.int v_isBroken]))]) [0] rfl
      have hD9 := hD.sub (ws' := [(o, Sum.inr (5, [Value.long v_lowUpper, Value.long v_lowLower, Value.long v_capUpper, Value.long v_capLower, Value.int v_isBroken]))]) [0] (by decide) rfl
      exact W.zret (v := 1) hx hb hr rfl (fun t ht hW => ⟨⟨1, 1, rfl, rfl, (Or.inr (⟨rfl, (by omega)⟩)), by rw [ht]; exact hP9, hD9⟩, hS.F ht⟩) hS.2.2 dX5_isMet_53
  · skip
    have c19 := lc_ne c1
    have c18 := l_ne c19
    refine lv_aload_n hx hb dX5_isMet_9 rfl (lv_at hl 0 rfl) ?_
    refine va_get (D := (dC, dI)) (ci := 5) (v := Value.long v_lowUpper) (C := RX5) (T := TX5) (N := 5) hx hb hts iw_X5_isMet_X5 hown hK hP 0 rfl rfl 0 (by decide) (hts _ kk_X5_isMet_2) (fun _ h9 => h9) rfl dX5_isMet_10 ?_
    refine lv_aload_n hx hb dX5_isMet_13 rfl (lv_at hl 0 rfl) ?_
    refine va_get (D := (dC, dI)) (ci := 5) (v := Value.long v_capLower) (C := RX5) (T := TX5) (N := 5) hx hb hts iw_X5_isMet_X5 hown hK hP 0 rfl rfl 3 (by decide) (hts _ kk_X5_isMet_0) (fun _ h9 => h9) rfl dX5_isMet_14 ?_
    refine lv_lmul hx hb dX5_isMet_17 ?_
    refine lv_topl (fun y3 ey3 => ?_)
    have hy3 : jv y3 (-16000000000) 16000000000 := jv.mula (B := 10000000) (D := 1600) ey3 hv_lowUpper hv_capLower (by decide) (by decide) (by decide) (by decide) (by decide) (by decide)
    have ty3 : y3.toInt = v_lowUpper.toInt * v_capLower.toInt := i64_ml ey3 (show jv v_lowUpper (-10000000) 10000000 from hv_lowUpper).1 (show jv v_lowUpper (-10000000) 10000000 from hv_lowUpper).2 (show jv v_capLower (-10000000) 10000000 from (hv_capLower.w (by decide) (by decide))).1 (show jv v_capLower (-10000000) 10000000 from (hv_capLower.w (by decide) (by decide))).2
    refine lv_aload_n hx hb dX5_isMet_18 rfl (lv_at hl 0 rfl) ?_
    refine va_get (D := (dC, dI)) (ci := 5) (v := Value.long v_capUpper) (C := RX5) (T := TX5) (N := 5) hx hb hts iw_X5_isMet_X5 hown hK hP 0 rfl rfl 2 (by decide) (hts _ kk_X5_isMet_3) (fun _ h9 => h9) rfl dX5_isMet_19 ?_
    refine lv_aload_n hx hb dX5_isMet_22 rfl (lv_at hl 0 rfl) ?_
    refine va_get (D := (dC, dI)) (ci := 5) (v := Value.long v_lowLower) (C := RX5) (T := TX5) (N := 5) hx hb hts iw_X5_isMet_X5 hown hK hP 0 rfl rfl 1 (by decide) (hts _ kk_X5_isMet_4) (fun _ h9 => h9) rfl dX5_isMet_23 ?_
    refine lv_lmul hx hb dX5_isMet_26 ?_
    refine lv_topl (fun y4 ey4 => ?_)
    have hy4 : jv y4 (-16000000000) 16000000000 := jv.mula (B := 10000000) (D := 1600) ey4 hv_capUpper hv_lowLower (by decide) (by decide) (by decide) (by decide) (by decide) (by decide)
    have ty4 : y4.toInt = v_capUpper.toInt * v_lowLower.toInt := i64_ml ey4 (show jv v_capUpper (-10000000) 10000000 from hv_capUpper).1 (show jv v_capUpper (-10000000) 10000000 from hv_capUpper).2 (show jv v_lowLower (-10000000) 10000000 from (hv_lowLower.w (by decide) (by decide))).1 (show jv v_lowLower (-10000000) 10000000 from (hv_lowLower.w (by decide) (by decide))).2
    refine W.lcmp hx hb dX5_isMet_27 ?_
    refine lv_if_gt (tgt := 35) hx hb dX5_isMet_28 (by decide) (fun c5 => ?_) (fun c5 => ?_)
    · skip
      have c59 := lc_gt c5
      have c58 := l_lt c59
      refine lv_iconst (v := 0) hx hb dX5_isMet_35 (by decide) ?_
      refine lv_istore_n (lv' := [(1, Value.int 0), (0, Value.ref o)]) hx hb dX5_isMet_36 rfl hl (by decide) rfl (fun ls hl => ?_)
      refine lv_aload_n hx hb dX5_isMet_37 rfl (lv_at hl 1 rfl) ?_
      refine va_get (D := (dC, dI)) (ci := 5) (v := Value.int v_isBroken) (C := RX5) (T := TX5) (N := 5) hx hb hts iw_X5_isMet_X5 hown hK hP 0 rfl rfl 4 (by decide) (hts _ kk_X5_isMet_1) (fun _ h9 => h9) rfl dX5_isMet_38 ?_
      have bv_isBroken := hv_isBroken.u
      refine lv_if_ne (tgt := 52) hx hb dX5_isMet_41 (by decide) (fun c6 => ?_) (fun c6 => ?_)
      · have c69 := i32_ne c6 rfl (show (0 : Int32).toInt = 0 by decide)
        refine lv_iconst (v := 0) hx hb dX5_isMet_52 (by decide) ?_
        have hP9 := hP.sub (ws' := [(o, Sum.inr (5, [Value.long v_lowUpper, Value.long v_lowLower, Value.long v_capUpper, Value.long v_capLower, Value.int v_isBroken]))]) [0] rfl
        have hD9 := hD.sub (ws' := [(o, Sum.inr (5, [Value.long v_lowUpper, Value.long v_lowLower, Value.long v_capUpper, Value.long v_capLower, Value.int v_isBroken]))]) [0] (by decide) rfl
        exact W.zret (v := 0) hx hb hr rfl (fun t ht hW => ⟨⟨0, 0, rfl, rfl, (Or.inl ⟨rfl, (by omega)⟩), by rw [ht]; exact hP9, hD9⟩, hS.F ht⟩) hS.2.2 dX5_isMet_53
      · have c69 := i32_eq c6 rfl (show (0 : Int32).toInt = 0 by decide)
        refine lv_iload_n hx hb dX5_isMet_44 rfl (lv_at hl 0 rfl) ?_
        refine lv_if_eq (tgt := 52) hx hb dX5_isMet_45 (by decide) (fun _ => ?_) (fun cz => absurd cz (by decide))
        refine lv_iconst (v := 0) hx hb dX5_isMet_52 (by decide) ?_
        have hP9 := hP.sub (ws' := [(o, Sum.inr (5, [Value.long v_lowUpper, Value.long v_lowLower, Value.long v_capUpper, Value.long v_capLower, Value.int v_isBroken]))]) [0] rfl
        have hD9 := hD.sub (ws' := [(o, Sum.inr (5, [Value.long v_lowUpper, Value.long v_lowLower, Value.long v_capUpper, Value.long v_capLower, Value.int v_isBroken]))]) [0] (by decide) rfl
        exact W.zret (v := 0) hx hb hr rfl (fun t ht hW => ⟨⟨0, 0, rfl, rfl, (Or.inl ⟨rfl, (by omega)⟩), by rw [ht]; exact hP9, hD9⟩, hS.F ht⟩) hS.2.2 dX5_isMet_53
    · skip
      have c59 := lc_ngt c5
      have c58 := l_le c59
      refine lv_iconst (v := 1) hx hb dX5_isMet_31 (by decide) ?_
      refine lv_goto (tgt := 36) hx hb dX5_isMet_32 (by decide) ?_
      refine lv_istore_n (lv' := [(1, Value.int 1), (0, Value.ref o)]) hx hb dX5_isMet_36 rfl hl (by decide) rfl (fun ls hl => ?_)
      refine lv_aload_n hx hb dX5_isMet_37 rfl (lv_at hl 1 rfl) ?_
      refine va_get (D := (dC, dI)) (ci := 5) (v := Value.int v_isBroken) (C := RX5) (T := TX5) (N := 5) hx hb hts iw_X5_isMet_X5 hown hK hP 0 rfl rfl 4 (by decide) (hts _ kk_X5_isMet_1) (fun _ h9 => h9) rfl dX5_isMet_38 ?_
      have bv_isBroken := hv_isBroken.u
      refine lv_if_ne (tgt := 52) hx hb dX5_isMet_41 (by decide) (fun c7 => ?_) (fun c7 => ?_)
      · have c79 := i32_ne c7 rfl (show (0 : Int32).toInt = 0 by decide)
        refine lv_iconst (v := 0) hx hb dX5_isMet_52 (by decide) ?_
        have hP9 := hP.sub (ws' := [(o, Sum.inr (5, [Value.long v_lowUpper, Value.long v_lowLower, Value.long v_capUpper, Value.long v_capLower, Value.int v_isBroken]))]) [0] rfl
        have hD9 := hD.sub (ws' := [(o, Sum.inr (5, [Value.long v_lowUpper, Value.long v_lowLower, Value.long v_capUpper, Value.long v_capLower, Value.int v_isBroken]))]) [0] (by decide) rfl
        exact W.zret (v := 0) hx hb hr rfl (fun t ht hW => ⟨⟨0, 0, rfl, rfl, (Or.inl ⟨rfl, (by omega)⟩), by rw [ht]; exact hP9, hD9⟩, hS.F ht⟩) hS.2.2 dX5_isMet_53
      · have c79 := i32_eq c7 rfl (show (0 : Int32).toInt = 0 by decide)
        refine lv_iload_n hx hb dX5_isMet_44 rfl (lv_at hl 0 rfl) ?_
        refine lv_if_eq (tgt := 52) hx hb dX5_isMet_45 (by decide) (fun cz => absurd cz (by decide)) (fun _ => ?_)
        refine lv_iconst (v := 1) hx hb dX5_isMet_48 (by decide) ?_
        refine lv_goto (tgt := 53) hx hb dX5_isMet_49 (by decide) ?_
        have hP9 := hP.sub (ws' := [(o, Sum.inr (5, [Value.long v_lowUpper, Value.long v_lowLower, Value.long v_capUpper, Value.long v_capLower, Value.int v_isBroken]))]) [0] rfl
        have hD9 := hD.sub (ws' := [(o, Sum.inr (5, [Value.long v_lowUpper, Value.long v_lowLower, Value.long v_capUpper, Value.long v_capLower, Value.int v_isBroken]))]) [0] (by decide) rfl
        exact W.zret (v := 1) hx hb hr rfl (fun t ht hW => ⟨⟨1, 1, rfl, rfl, (Or.inr (⟨rfl, (by omega)⟩)), by rw [ht]; exact hP9, hD9⟩, hS.F ht⟩) hS.2.2 dX5_isMet_53

set_option maxHeartbeats 4000000 in
set_option maxRecDepth 100000 in
theorem ct_X5_need (l : Launch) (dC : Nat → ClassId) (dI : Nat → Nat → Nat) (o : Nat) (p0 : Int64) (p1 : Int64) (v_lowUpper : Int64) (v_lowLower : Int64) (v_capUpper : Int64) (v_capLower : Int64) (v_isBroken : Int32) (hp0 : jv p0 (-1600) 1600) (hp1 : jv p1 (-10000000) 10000000) (hv_lowUpper : jv v_lowUpper (-10000000) 10000000) (hv_lowLower : jv v_lowLower 1 1600) (hv_capUpper : jv v_capUpper (-10000000) 10000000) (hv_capLower : jv v_capLower 0 1600) (hv_isBroken : iv v_isBroken 0 1) (sz : Nat) : Met l yX5_need wsX5_need ({ frames := 0, cells := 0, slots := 0, locals := 0 }) (va_Pc [Value.ref o, Value.long p0, Value.long p1] (fun U => U.heap.size = sz ∧ va_P (dC, dI) vwCl [(o, Sum.inr (5, [Value.long v_lowUpper, Value.long v_lowLower, Value.long v_capUpper, Value.long v_capLower, Value.int v_isBroken]))] U.heap ∧ va_K (dC, dI) vwCl [] U ∧ va_D (fun _ => True) [(o, Sum.inr (5, [Value.long v_lowUpper, Value.long v_lowLower, Value.long v_capUpper, Value.long v_capLower, Value.int v_isBroken]))])) (va_Qv (fun _ : Unit => True) (fun _ t => ∃ (e_v_lowUpper : Int64) (e_v_lowLower : Int64) (e_v_capUpper : Int64) (e_v_capLower : Int64) (e_v_isBroken : Int32), jv e_v_lowUpper (-10000000) 10000000 ∧ jv e_v_lowLower 1 1600 ∧ jv e_v_capUpper (-10000000) 10000000 ∧ jv e_v_capLower 0 1600 ∧ iv e_v_isBroken 0 1 ∧ (ndL p0.toInt p1.toInt v_lowUpper.toInt v_lowLower.toInt e_v_lowUpper.toInt e_v_lowLower.toInt) ∧ (ndC p0.toInt p1.toInt v_capUpper.toInt v_capLower.toInt e_v_capUpper.toInt e_v_capLower.toInt) ∧ (e_v_isBroken.toInt = 1 ↔ v_isBroken.toInt = 1 ∨ (p0.toInt = 0 ∧ 0 < p1.toInt)) ∧ va_P (dC, dI) vwCl [(o, Sum.inr (5, [Value.long e_v_lowUpper, Value.long e_v_lowLower, Value.long e_v_capUpper, Value.long e_v_capLower, Value.int e_v_isBroken]))] t.heap ∧ va_D (va_A [(o, Sum.inr (5, [Value.long v_lowUpper, Value.long v_lowLower, Value.long v_capUpper, Value.long v_capLower, Value.int v_isBroken]))] sz) [(o, Sum.inr (5, [Value.long e_v_lowUpper, Value.long e_v_lowLower, Value.long e_v_capUpper, Value.long e_v_capLower, Value.int e_v_isBroken]))]) (va_A [(o, Sum.inr (5, [Value.long v_lowUpper, Value.long v_lowLower, Value.long v_capUpper, Value.long v_capLower, Value.int v_isBroken]))] sz)) 0 0 (va_A [(o, Sum.inr (5, [Value.long v_lowUpper, Value.long v_lowLower, Value.long v_capUpper, Value.long v_capLower, Value.int v_isBroken]))] sz) := by
  refine Met.ofW (cc := cX5_need) (maxL := 5) (ret := none) pn_X5 rfl ?_
  intro p e s m args below meth c s₁ B hml hv
  obtain ⟨rfl, hsz, hP, hK, hD0⟩ := hv
  have hx := B.exec
  have hb := B.bytes
  have hr := B.returns
  have hts := atoms_spec (ws := wsX5_need) B.pre
  have hown : s.vm.findClass RX5 = some m.cls := findClass_of_methodNamed B.named
  have hlocks := B.notSynchronized
  subst hsz
  have hD := hD0.self (sz := s.heap.size)
  generalize hAe : va_A [(o, Sum.inr (5, [Value.long v_lowUpper, Value.long v_lowLower, Value.long v_capUpper, Value.long v_capLower, Value.int v_isBroken]))] s.heap.size = A at hD ⊢
  have hA : ∀ q : Nat, s.heap.size ≤ q → A q := fun q h => by rw [← hAe]; exact Or.inr h
  have hS : va_S A s.heap s.heap [] := va_S.rf
  have hP : va_P (dC, dI) vwCl [(o, Sum.inr (5, [Value.long v_lowUpper, Value.long v_lowLower, Value.long v_capUpper, Value.long v_capLower, Value.int v_isBroken]))] s.heap := hP
  have hl := lv_entry ([Value.ref o, Value.long p0, Value.long p1]) (n := 5) (Nat.le_of_ble_eq_true rfl)
  rw [lg_entry_eq]
  generalize (lg_sl ([Value.ref o, Value.long p0, Value.long p1]) ++ List.replicate (5 - (lg_sl ([Value.ref o, Value.long p0, Value.long p1])).length) Slot.unset).toArray = ls at hl ⊢
  have hl : lv_has ls 5 [(0, Value.ref o), (1, Value.long p0), (3, Value.long p1)] := hl
  have z64 : (0 : Int64).toInt = 0 := by decide
  have z32 : (1 : Int32).toInt = 1 := by decide
  have z30 : (0 : Int32).toInt = 0 := by decide
  refine lv_lload_n hx hb dX5_need_0 rfl (lv_at hl 1 rfl) ?_
  refine lv_lconst (v := 0) hx hb dX5_need_1 (by decide) ?_
  refine W.lcmp hx hb dX5_need_2 ?_
  refine lv_if_le (tgt := 32) hx hb dX5_need_3 (by decide) (fun c1 => ?_) (fun c1 => ?_)
  · skip
    have c19 := lc_le c1
    have bp0 := hp0.u
    have dp0 := i64_le c19 rfl (show (0 : Int64).toInt = 0 by decide)
    have hp0 : jv p0 (-1600) 0 := jv.m (by omega)
    have c18 := l_le c19
    refine lv_lload_n hx hb dX5_need_32 rfl (lv_at hl 1 rfl) ?_
    refine lv_lconst (v := 0) hx hb dX5_need_33 (by decide) ?_
    refine W.lcmp hx hb dX5_need_34 ?_
    refine lv_if_ne (tgt := 49) hx hb dX5_need_35 (by decide) (fun c2 => ?_) (fun c2 => ?_)
    · skip
      have c29 := lc_ne c2
      have c28 := l_ne c29
      refine lv_lload_n hx hb dX5_need_49 rfl (lv_at hl 1 rfl) ?_
      refine lv_lconst (v := 0) hx hb dX5_need_50 (by decide) ?_
      refine W.lcmp hx hb dX5_need_51 ?_
      refine lv_if_ge (tgt := 92) hx hb dX5_need_52 (by decide) (fun c3 => ?_) (fun c3 => ?_)
      · skip
        have c39 := lc_ge c3
        have bp0 := hp0.u
        have dp0 := i64_le c39 (show (0 : Int64).toInt = 0 by decide) rfl
        have hp0 : jv p0 0 0 := jv.m (by omega)
        have c38 := l_le c39
        have hP9 := hP.sub (ws' := [(o, Sum.inr (5, [Value.long v_lowUpper, Value.long v_lowLower, Value.long v_capUpper, Value.long v_capLower, Value.int v_isBroken]))]) [0] rfl
        have hD9 := hD.sub (ws' := [(o, Sum.inr (5, [Value.long v_lowUpper, Value.long v_lowLower, Value.long v_capUpper, Value.long v_capLower, Value.int v_isBroken]))]) [0] (by decide) rfl
        exact W.vret hx hb hr (fun t ht hW => ⟨⟨(), rfl, trivial, v_lowUpper, v_lowLower, v_capUpper, v_capLower, v_isBroken, hv_lowUpper, hv_lowLower, hv_capUpper, hv_capLower, hv_isBroken, (by unfold ndL; omega), (by unfold ndC; omega), (by omega), by rw [ht]; exact hP9, hD9⟩, hS.F ht⟩) hS.2.2 dX5_need_92
      · skip
        have c39 := lc_nge c3
        have bp0 := hp0.u
        have dp0 := i64_lt c39 rfl (show (0 : Int64).toInt = 0 by decide)
        have hp0 : jv p0 (-1600) (-1) := jv.m (by omega)
        have c38 := l_lt c39
        refine lv_aload_n hx hb dX5_need_55 rfl (lv_at hl 0 rfl) ?_
        refine va_get (D := (dC, dI)) (ci := 5) (v := Value.long v_capLower) (C := RX5) (T := TX5) (N := 5) hx hb hts iw_X5_need_X5 hown hK hP 0 rfl rfl 3 (by decide) (hts _ kk_X5_need_0) (fun _ h9 => h9) rfl dX5_need_56 ?_
        refine lv_lconst (v := 0) hx hb dX5_need_59 (by decide) ?_
        refine W.lcmp hx hb dX5_need_60 ?_
        refine lv_if_eq (tgt := 80) hx hb dX5_need_61 (by decide) (fun c4 => ?_) (fun c4 => ?_)
        · skip
          have c49 := lc_eq c4
          have c48 := l_eq c49
          refine lv_aload_n hx hb dX5_need_80 rfl (lv_at hl 0 rfl) ?_
          refine lv_lload_n hx hb dX5_need_81 rfl (lv_at hl 2 rfl) ?_
          refine lv_lneg hx hb dX5_need_82 ?_
          refine lv_topl (fun y5 ey5 => ?_)
          have hy5 : jv y5 (-10000000) 10000000 := jv.neg ey5 hp1 (by decide) (by decide) (by decide) (by decide)
          have ty5 : y5.toInt = -p1.toInt := l_neg ey5 (show jv p1 (-10000000) 10000000 from hp1).1
          refine va_put (D := (dC, dI)) (ci := 5) (v := Value.long y5) (ty := FieldType.long) (C := RX5) (T := TX5) (N := 5) hx hb hts iw_X5_need_X5 tyX5 tyX5_ok nmX5 hown hK hP hD hS 0 rfl rfl 2 (by decide) (hts _ kk_X5_need_1) (fun _ h9 => h9) rfl (by decide +kernel) rfl rfl (Nat.le_of_ble_eq_true rfl) dX5_need_83 (fun H locs hP hD hS => ?_)
          have hP : va_P (dC, dI) vwCl [(o, Sum.inr (5, [Value.long v_lowUpper, Value.long v_lowLower, Value.long y5, Value.long v_capLower, Value.int v_isBroken]))] H := hP
          have hD : va_D A [(o, Sum.inr (5, [Value.long v_lowUpper, Value.long v_lowLower, Value.long y5, Value.long v_capLower, Value.int v_isBroken]))] := hD
          refine lv_aload_n hx hb dX5_need_86 rfl (lv_at hl 0 rfl) ?_
          refine lv_lload_n hx hb dX5_need_87 rfl (lv_at hl 1 rfl) ?_
          refine lv_lneg hx hb dX5_need_88 ?_
          refine lv_topl (fun y6 ey6 => ?_)
          have hy6 : jv y6 1 1600 := jv.neg ey6 hp0 (by decide) (by decide) (by decide) (by decide)
          have ty6 : y6.toInt = -p0.toInt := l_neg ey6 (show jv p0 (-10000000) 10000000 from (hp0.w (by decide) (by decide))).1
          refine va_put (D := (dC, dI)) (ci := 5) (v := Value.long y6) (ty := FieldType.long) (C := RX5) (T := TX5) (N := 5) hx hb hts iw_X5_need_X5 tyX5 tyX5_ok nmX5 hown hK hP hD hS 0 rfl rfl 3 (by decide) (hts _ kk_X5_need_0) (fun _ h9 => h9) rfl (by decide +kernel) rfl rfl (Nat.le_of_ble_eq_true rfl) dX5_need_89 (fun H locs hP hD hS => ?_)
          have hP : va_P (dC, dI) vwCl [(o, Sum.inr (5, [Value.long v_lowUpper, Value.long v_lowLower, Value.long y5, Value.long y6, Value.int v_isBroken]))] H := hP
          have hD : va_D A [(o, Sum.inr (5, [Value.long v_lowUpper, Value.long v_lowLower, Value.long y5, Value.long y6, Value.int v_isBroken]))] := hD
          have hP9 := hP.sub (ws' := [(o, Sum.inr (5, [Value.long v_lowUpper, Value.long v_lowLower, Value.long y5, Value.long y6, Value.int v_isBroken]))]) [0] rfl
          have hD9 := hD.sub (ws' := [(o, Sum.inr (5, [Value.long v_lowUpper, Value.long v_lowLower, Value.long y5, Value.long y6, Value.int v_isBroken]))]) [0] (by decide) rfl
          exact W.vret hx hb hr (fun t ht hW => ⟨⟨(), rfl, trivial, v_lowUpper, v_lowLower, y5, y6, v_isBroken, hv_lowUpper, hv_lowLower, hy5, (hy6.w (by decide) (by decide)), hv_isBroken, (by unfold ndL; omega), (by unfold ndC; omega), (by omega), by rw [ht]; exact hP9, hD9⟩, hS.F ht⟩) hS.2.2 dX5_need_92
        · skip
          have c49 := lc_ne c4
          have c48 := l_ne c49
          refine lv_lload_n hx hb dX5_need_64 rfl (lv_at hl 2 rfl) ?_
          refine lv_aload_n hx hb dX5_need_65 rfl (lv_at hl 0 rfl) ?_
          refine va_get (D := (dC, dI)) (ci := 5) (v := Value.long v_capLower) (C := RX5) (T := TX5) (N := 5) hx hb hts iw_X5_need_X5 hown hK hP 0 rfl rfl 3 (by decide) (hts _ kk_X5_need_0) (fun _ h9 => h9) rfl dX5_need_66 ?_
          refine lv_lmul hx hb dX5_need_69 ?_
          refine lv_topl (fun y7 ey7 => ?_)
          have hy7 : jv y7 (-16000000000) 16000000000 := jv.mula (B := 10000000) (D := 1600) ey7 hp1 hv_capLower (by decide) (by decide) (by decide) (by decide) (by decide) (by decide)
          have ty7 : y7.toInt = p1.toInt * v_capLower.toInt := i64_ml ey7 (show jv p1 (-10000000) 10000000 from hp1).1 (show jv p1 (-10000000) 10000000 from hp1).2 (show jv v_capLower (-10000000) 10000000 from (hv_capLower.w (by decide) (by decide))).1 (show jv v_capLower (-10000000) 10000000 from (hv_capLower.w (by decide) (by decide))).2
          refine lv_aload_n hx hb dX5_need_70 rfl (lv_at hl 0 rfl) ?_
          refine va_get (D := (dC, dI)) (ci := 5) (v := Value.long v_capUpper) (C := RX5) (T := TX5) (N := 5) hx hb hts iw_X5_need_X5 hown hK hP 0 rfl rfl 2 (by decide) (hts _ kk_X5_need_1) (fun _ h9 => h9) rfl dX5_need_71 ?_
          refine lv_lload_n hx hb dX5_need_74 rfl (lv_at hl 1 rfl) ?_
          refine lv_lmul hx hb dX5_need_75 ?_
          refine lv_topl (fun y8 ey8 => ?_)
          have hy8 : jv y8 (-16000000000) 16000000000 := jv.mula (B := 10000000) (D := 1600) ey8 hv_capUpper hp0 (by decide) (by decide) (by decide) (by decide) (by decide) (by decide)
          have ty8 : y8.toInt = v_capUpper.toInt * p0.toInt := i64_ml ey8 (show jv v_capUpper (-10000000) 10000000 from hv_capUpper).1 (show jv v_capUpper (-10000000) 10000000 from hv_capUpper).2 (show jv p0 (-10000000) 10000000 from (hp0.w (by decide) (by decide))).1 (show jv p0 (-10000000) 10000000 from (hp0.w (by decide) (by decide))).2
          refine W.lcmp hx hb dX5_need_76 ?_
          refine lv_if_le (tgt := 92) hx hb dX5_need_77 (by decide) (fun c9 => ?_) (fun c9 => ?_)
          · skip
            have c99 := lc_le c9
            have c98 := l_le c99
            have hP9 := hP.sub (ws' := [(o, Sum.inr (5, [Value.long v_lowUpper, Value.long v_lowLower, Value.long v_capUpper, Value.long v_capLower, Value.int v_isBroken]))]) [0] rfl
            have hD9 := hD.sub (ws' := [(o, Sum.inr (5, [Value.long v_lowUpper, Value.long v_lowLower, Value.long v_capUpper, Value.long v_capLower, Value.int v_isBroken]))]) [0] (by decide) rfl
            exact W.vret hx hb hr (fun t ht hW => ⟨⟨(), rfl, trivial, v_lowUpper, v_lowLower, v_capUpper, v_capLower, v_isBroken, hv_lowUpper, hv_lowLower, hv_capUpper, hv_capLower, hv_isBroken, (by unfold ndL; omega), (by unfold ndC; omega), (by omega), by rw [ht]; exact hP9, hD9⟩, hS.F ht⟩) hS.2.2 dX5_need_92
          · skip
            have c99 := lc_nle c9
            have c98 := l_lt c99
            refine lv_aload_n hx hb dX5_need_80 rfl (lv_at hl 0 rfl) ?_
            refine lv_lload_n hx hb dX5_need_81 rfl (lv_at hl 2 rfl) ?_
            refine lv_lneg hx hb dX5_need_82 ?_
            refine lv_topl (fun y10 ey10 => ?_)
            have hy10 : jv y10 (-10000000) 10000000 := jv.neg ey10 hp1 (by decide) (by decide) (by decide) (by decide)
            have ty10 : y10.toInt = -p1.toInt := l_neg ey10 (show jv p1 (-10000000) 10000000 from hp1).1
            refine va_put (D := (dC, dI)) (ci := 5) (v := Value.long y10) (ty := FieldType.long) (C := RX5) (T := TX5) (N := 5) hx hb hts iw_X5_need_X5 tyX5 tyX5_ok nmX5 hown hK hP hD hS 0 rfl rfl 2 (by decide) (hts _ kk_X5_need_1) (fun _ h9 => h9) rfl (by decide +kernel) rfl rfl (Nat.le_of_ble_eq_true rfl) dX5_need_83 (fun H locs hP hD hS => ?_)
            have hP : va_P (dC, dI) vwCl [(o, Sum.inr (5, [Value.long v_lowUpper, Value.long v_lowLower, Value.long y10, Value.long v_capLower, Value.int v_isBroken]))] H := hP
            have hD : va_D A [(o, Sum.inr (5, [Value.long v_lowUpper, Value.long v_lowLower, Value.long y10, Value.long v_capLower, Value.int v_isBroken]))] := hD
            refine lv_aload_n hx hb dX5_need_86 rfl (lv_at hl 0 rfl) ?_
            refine lv_lload_n hx hb dX5_need_87 rfl (lv_at hl 1 rfl) ?_
            refine lv_lneg hx hb dX5_need_88 ?_
            refine lv_topl (fun y11 ey11 => ?_)
            have hy11 : jv y11 1 1600 := jv.neg ey11 hp0 (by decide) (by decide) (by decide) (by decide)
            have ty11 : y11.toInt = -p0.toInt := l_neg ey11 (show jv p0 (-10000000) 10000000 from (hp0.w (by decide) (by decide))).1
            refine va_put (D := (dC, dI)) (ci := 5) (v := Value.long y11) (ty := FieldType.long) (C := RX5) (T := TX5) (N := 5) hx hb hts iw_X5_need_X5 tyX5 tyX5_ok nmX5 hown hK hP hD hS 0 rfl rfl 3 (by decide) (hts _ kk_X5_need_0) (fun _ h9 => h9) rfl (by decide +kernel) rfl rfl (Nat.le_of_ble_eq_true rfl) dX5_need_89 (fun H locs hP hD hS => ?_)
            have hP : va_P (dC, dI) vwCl [(o, Sum.inr (5, [Value.long v_lowUpper, Value.long v_lowLower, Value.long y10, Value.long y11, Value.int v_isBroken]))] H := hP
            have hD : va_D A [(o, Sum.inr (5, [Value.long v_lowUpper, Value.long v_lowLower, Value.long y10, Value.long y11, Value.int v_isBroken]))] := hD
            have hP9 := hP.sub (ws' := [(o, Sum.inr (5, [Value.long v_lowUpper, Value.long v_lowLower, Value.long y10, Value.long y11, Value.int v_isBroken]))]) [0] rfl
            have hD9 := hD.sub (ws' := [(o, Sum.inr (5, [Value.long v_lowUpper, Value.long v_lowLower, Value.long y10, Value.long y11, Value.int v_isBroken]))]) [0] (by decide) rfl
            exact W.vret hx hb hr (fun t ht hW => ⟨⟨(), rfl, trivial, v_lowUpper, v_lowLower, y10, y11, v_isBroken, hv_lowUpper, hv_lowLower, hy10, (hy11.w (by decide) (by decide)), hv_isBroken, (by unfold ndL; omega), (by unfold ndC; omega), (by omega), by rw [ht]; exact hP9, hD9⟩, hS.F ht⟩) hS.2.2 dX5_need_92
    · skip
      have c29 := lc_eq c2
      have c28 := l_eq c29
      refine lv_lload_n hx hb dX5_need_38 rfl (lv_at hl 2 rfl) ?_
      refine lv_lconst (v := 0) hx hb dX5_need_39 (by decide) ?_
      refine W.lcmp hx hb dX5_need_40 ?_
      refine lv_if_le (tgt := 49) hx hb dX5_need_41 (by decide) (fun c12 => ?_) (fun c12 => ?_)
      · skip
        have c129 := lc_le c12
        have bp1 := hp1.u
        have dp1 := i64_le c129 rfl (show (0 : Int64).toInt = 0 by decide)
        have hp1 : jv p1 (-10000000) 0 := jv.m (by omega)
        have c128 := l_le c129
        refine lv_lload_n hx hb dX5_need_49 rfl (lv_at hl 1 rfl) ?_
        refine lv_lconst (v := 0) hx hb dX5_need_50 (by decide) ?_
        refine W.lcmp hx hb dX5_need_51 ?_
        refine lv_if_ge (tgt := 92) hx hb dX5_need_52 (by decide) (fun c13 => ?_) (fun c13 => ?_)
        · skip
          have c139 := lc_ge c13
          have bp0 := hp0.u
          have dp0 := i64_le c139 (show (0 : Int64).toInt = 0 by decide) rfl
          have hp0 : jv p0 0 0 := jv.m (by omega)
          have c138 := l_le c139
          have hP9 := hP.sub (ws' := [(o, Sum.inr (5, [Value.long v_lowUpper, Value.long v_lowLower, Value.long v_capUpper, Value.long v_capLower, Value.int v_isBroken]))]) [0] rfl
          have hD9 := hD.sub (ws' := [(o, Sum.inr (5, [Value.long v_lowUpper, Value.long v_lowLower, Value.long v_capUpper, Value.long v_capLower, Value.int v_isBroken]))]) [0] (by decide) rfl
          exact W.vret hx hb hr (fun t ht hW => ⟨⟨(), rfl, trivial, v_lowUpper, v_lowLower, v_capUpper, v_capLower, v_isBroken, hv_lowUpper, hv_lowLower, hv_capUpper, hv_capLower, hv_isBroken, (by unfold ndL; omega), (by unfold ndC; omega), (by omega), by rw [ht]; exact hP9, hD9⟩, hS.F ht⟩) hS.2.2 dX5_need_92
        · skip
          have c139 := lc_nge c13
          have bp0 := hp0.u
          have dp0 := i64_lt c139 rfl (show (0 : Int64).toInt = 0 by decide)
          have hp0 : jv p0 (-1600) (-1) := jv.m (by omega)
          have c138 := l_lt c139
          refine lv_aload_n hx hb dX5_need_55 rfl (lv_at hl 0 rfl) ?_
          refine va_get (D := (dC, dI)) (ci := 5) (v := Value.long v_capLower) (C := RX5) (T := TX5) (N := 5) hx hb hts iw_X5_need_X5 hown hK hP 0 rfl rfl 3 (by decide) (hts _ kk_X5_need_0) (fun _ h9 => h9) rfl dX5_need_56 ?_
          refine lv_lconst (v := 0) hx hb dX5_need_59 (by decide) ?_
          refine W.lcmp hx hb dX5_need_60 ?_
          refine lv_if_eq (tgt := 80) hx hb dX5_need_61 (by decide) (fun c14 => ?_) (fun c14 => ?_)
          · skip
            have c149 := lc_eq c14
            have c148 := l_eq c149
            refine lv_aload_n hx hb dX5_need_80 rfl (lv_at hl 0 rfl) ?_
            refine lv_lload_n hx hb dX5_need_81 rfl (lv_at hl 2 rfl) ?_
            refine lv_lneg hx hb dX5_need_82 ?_
            refine lv_topl (fun y15 ey15 => ?_)
            have hy15 : jv y15 0 10000000 := jv.neg ey15 hp1 (by decide) (by decide) (by decide) (by decide)
            have ty15 : y15.toInt = -p1.toInt := l_neg ey15 (show jv p1 (-10000000) 10000000 from (hp1.w (by decide) (by decide))).1
            refine va_put (D := (dC, dI)) (ci := 5) (v := Value.long y15) (ty := FieldType.long) (C := RX5) (T := TX5) (N := 5) hx hb hts iw_X5_need_X5 tyX5 tyX5_ok nmX5 hown hK hP hD hS 0 rfl rfl 2 (by decide) (hts _ kk_X5_need_1) (fun _ h9 => h9) rfl (by decide +kernel) rfl rfl (Nat.le_of_ble_eq_true rfl) dX5_need_83 (fun H locs hP hD hS => ?_)
            have hP : va_P (dC, dI) vwCl [(o, Sum.inr (5, [Value.long v_lowUpper, Value.long v_lowLower, Value.long y15, Value.long v_capLower, Value.int v_isBroken]))] H := hP
            have hD : va_D A [(o, Sum.inr (5, [Value.long v_lowUpper, Value.long v_lowLower, Value.long y15, Value.long v_capLower, Value.int v_isBroken]))] := hD
            refine lv_aload_n hx hb dX5_need_86 rfl (lv_at hl 0 rfl) ?_
            refine lv_lload_n hx hb dX5_need_87 rfl (lv_at hl 1 rfl) ?_
            refine lv_lneg hx hb dX5_need_88 ?_
            refine lv_topl (fun y16 ey16 => ?_)
            have hy16 : jv y16 1 1600 := jv.neg ey16 hp0 (by decide) (by decide) (by decide) (by decide)
            have ty16 : y16.toInt = -p0.toInt := l_neg ey16 (show jv p0 (-10000000) 10000000 from (hp0.w (by decide) (by decide))).1
            refine va_put (D := (dC, dI)) (ci := 5) (v := Value.long y16) (ty := FieldType.long) (C := RX5) (T := TX5) (N := 5) hx hb hts iw_X5_need_X5 tyX5 tyX5_ok nmX5 hown hK hP hD hS 0 rfl rfl 3 (by decide) (hts _ kk_X5_need_0) (fun _ h9 => h9) rfl (by decide +kernel) rfl rfl (Nat.le_of_ble_eq_true rfl) dX5_need_89 (fun H locs hP hD hS => ?_)
            have hP : va_P (dC, dI) vwCl [(o, Sum.inr (5, [Value.long v_lowUpper, Value.long v_lowLower, Value.long y15, Value.long y16, Value.int v_isBroken]))] H := hP
            have hD : va_D A [(o, Sum.inr (5, [Value.long v_lowUpper, Value.long v_lowLower, Value.long y15, Value.long y16, Value.int v_isBroken]))] := hD
            have hP9 := hP.sub (ws' := [(o, Sum.inr (5, [Value.long v_lowUpper, Value.long v_lowLower, Value.long y15, Value.long y16, Value.int v_isBroken]))]) [0] rfl
            have hD9 := hD.sub (ws' := [(o, Sum.inr (5, [Value.long v_lowUpper, Value.long v_lowLower, Value.long y15, Value.long y16, Value.int v_isBroken]))]) [0] (by decide) rfl
            exact W.vret hx hb hr (fun t ht hW => ⟨⟨(), rfl, trivial, v_lowUpper, v_lowLower, y15, y16, v_isBroken, hv_lowUpper, hv_lowLower, (hy15.w (by decide) (by decide)), (hy16.w (by decide) (by decide)), hv_isBroken, (by unfold ndL; omega), (by unfold ndC; omega), (by omega), by rw [ht]; exact hP9, hD9⟩, hS.F ht⟩) hS.2.2 dX5_need_92
          · skip
            have c149 := lc_ne c14
            have c148 := l_ne c149
            refine lv_lload_n hx hb dX5_need_64 rfl (lv_at hl 2 rfl) ?_
            refine lv_aload_n hx hb dX5_need_65 rfl (lv_at hl 0 rfl) ?_
            refine va_get (D := (dC, dI)) (ci := 5) (v := Value.long v_capLower) (C := RX5) (T := TX5) (N := 5) hx hb hts iw_X5_need_X5 hown hK hP 0 rfl rfl 3 (by decide) (hts _ kk_X5_need_0) (fun _ h9 => h9) rfl dX5_need_66 ?_
            refine lv_lmul hx hb dX5_need_69 ?_
            refine lv_topl (fun y17 ey17 => ?_)
            have hy17 : jv y17 (-16000000000) 16000000000 := jv.mula (B := 10000000) (D := 1600) ey17 hp1 hv_capLower (by decide) (by decide) (by decide) (by decide) (by decide) (by decide)
            have ty17 : y17.toInt = p1.toInt * v_capLower.toInt := i64_ml ey17 (show jv p1 (-10000000) 10000000 from (hp1.w (by decide) (by decide))).1 (show jv p1 (-10000000) 10000000 from (hp1.w (by decide) (by decide))).2 (show jv v_capLower (-10000000) 10000000 from (hv_capLower.w (by decide) (by decide))).1 (show jv v_capLower (-10000000) 10000000 from (hv_capLower.w (by decide) (by decide))).2
            refine lv_aload_n hx hb dX5_need_70 rfl (lv_at hl 0 rfl) ?_
            refine va_get (D := (dC, dI)) (ci := 5) (v := Value.long v_capUpper) (C := RX5) (T := TX5) (N := 5) hx hb hts iw_X5_need_X5 hown hK hP 0 rfl rfl 2 (by decide) (hts _ kk_X5_need_1) (fun _ h9 => h9) rfl dX5_need_71 ?_
            refine lv_lload_n hx hb dX5_need_74 rfl (lv_at hl 1 rfl) ?_
            refine lv_lmul hx hb dX5_need_75 ?_
            refine lv_topl (fun y18 ey18 => ?_)
            have hy18 : jv y18 (-16000000000) 16000000000 := jv.mula (B := 10000000) (D := 1600) ey18 hv_capUpper hp0 (by decide) (by decide) (by decide) (by decide) (by decide) (by decide)
            have ty18 : y18.toInt = v_capUpper.toInt * p0.toInt := i64_ml ey18 (show jv v_capUpper (-10000000) 10000000 from hv_capUpper).1 (show jv v_capUpper (-10000000) 10000000 from hv_capUpper).2 (show jv p0 (-10000000) 10000000 from (hp0.w (by decide) (by decide))).1 (show jv p0 (-10000000) 10000000 from (hp0.w (by decide) (by decide))).2
            refine W.lcmp hx hb dX5_need_76 ?_
            refine lv_if_le (tgt := 92) hx hb dX5_need_77 (by decide) (fun c19 => ?_) (fun c19 => ?_)
            · skip
              have c199 := lc_le c19
              have c198 := l_le c199
              have hP9 := hP.sub (ws' := [(o, Sum.inr (5, [Value.long v_lowUpper, Value.long v_lowLower, Value.long v_capUpper, Value.long v_capLower, Value.int v_isBroken]))]) [0] rfl
              have hD9 := hD.sub (ws' := [(o, Sum.inr (5, [Value.long v_lowUpper, Value.long v_lowLower, Value.long v_capUpper, Value.long v_capLower, Value.int v_isBroken]))]) [0] (by decide) rfl
              exact W.vret hx hb hr (fun t ht hW => ⟨⟨(), rfl, trivial, v_lowUpper, v_lowLower, v_capUpper, v_capLower, v_isBroken, hv_lowUpper, hv_lowLower, hv_capUpper, hv_capLower, hv_isBroken, (by unfold ndL; omega), (by unfold ndC; omega), (by omega), by rw [ht]; exact hP9, hD9⟩, hS.F ht⟩) hS.2.2 dX5_need_92
            · skip
              have c199 := lc_nle c19
              have c198 := l_lt c199
              refine lv_aload_n hx hb dX5_need_80 rfl (lv_at hl 0 rfl) ?_
              refine lv_lload_n hx hb dX5_need_81 rfl (lv_at hl 2 rfl) ?_
              refine lv_lneg hx hb dX5_need_82 ?_
              refine lv_topl (fun y20 ey20 => ?_)
              have hy20 : jv y20 0 10000000 := jv.neg ey20 hp1 (by decide) (by decide) (by decide) (by decide)
              have ty20 : y20.toInt = -p1.toInt := l_neg ey20 (show jv p1 (-10000000) 10000000 from (hp1.w (by decide) (by decide))).1
              refine va_put (D := (dC, dI)) (ci := 5) (v := Value.long y20) (ty := FieldType.long) (C := RX5) (T := TX5) (N := 5) hx hb hts iw_X5_need_X5 tyX5 tyX5_ok nmX5 hown hK hP hD hS 0 rfl rfl 2 (by decide) (hts _ kk_X5_need_1) (fun _ h9 => h9) rfl (by decide +kernel) rfl rfl (Nat.le_of_ble_eq_true rfl) dX5_need_83 (fun H locs hP hD hS => ?_)
              have hP : va_P (dC, dI) vwCl [(o, Sum.inr (5, [Value.long v_lowUpper, Value.long v_lowLower, Value.long y20, Value.long v_capLower, Value.int v_isBroken]))] H := hP
              have hD : va_D A [(o, Sum.inr (5, [Value.long v_lowUpper, Value.long v_lowLower, Value.long y20, Value.long v_capLower, Value.int v_isBroken]))] := hD
              refine lv_aload_n hx hb dX5_need_86 rfl (lv_at hl 0 rfl) ?_
              refine lv_lload_n hx hb dX5_need_87 rfl (lv_at hl 1 rfl) ?_
              refine lv_lneg hx hb dX5_need_88 ?_
              refine lv_topl (fun y21 ey21 => ?_)
              have hy21 : jv y21 1 1600 := jv.neg ey21 hp0 (by decide) (by decide) (by decide) (by decide)
              have ty21 : y21.toInt = -p0.toInt := l_neg ey21 (show jv p0 (-10000000) 10000000 from (hp0.w (by decide) (by decide))).1
              refine va_put (D := (dC, dI)) (ci := 5) (v := Value.long y21) (ty := FieldType.long) (C := RX5) (T := TX5) (N := 5) hx hb hts iw_X5_need_X5 tyX5 tyX5_ok nmX5 hown hK hP hD hS 0 rfl rfl 3 (by decide) (hts _ kk_X5_need_0) (fun _ h9 => h9) rfl (by decide +kernel) rfl rfl (Nat.le_of_ble_eq_true rfl) dX5_need_89 (fun H locs hP hD hS => ?_)
              have hP : va_P (dC, dI) vwCl [(o, Sum.inr (5, [Value.long v_lowUpper, Value.long v_lowLower, Value.long y20, Value.long y21, Value.int v_isBroken]))] H := hP
              have hD : va_D A [(o, Sum.inr (5, [Value.long v_lowUpper, Value.long v_lowLower, Value.long y20, Value.long y21, Value.int v_isBroken]))] := hD
              have hP9 := hP.sub (ws' := [(o, Sum.inr (5, [Value.long v_lowUpper, Value.long v_lowLower, Value.long y20, Value.long y21, Value.int v_isBroken]))]) [0] rfl
              have hD9 := hD.sub (ws' := [(o, Sum.inr (5, [Value.long v_lowUpper, Value.long v_lowLower, Value.long y20, Value.long y21, Value.int v_isBroken]))]) [0] (by decide) rfl
              exact W.vret hx hb hr (fun t ht hW => ⟨⟨(), rfl, trivial, v_lowUpper, v_lowLower, y20, y21, v_isBroken, hv_lowUpper, hv_lowLower, (hy20.w (by decide) (by decide)), (hy21.w (by decide) (by decide)), hv_isBroken, (by unfold ndL; omega), (by unfold ndC; omega), (by omega), by rw [ht]; exact hP9, hD9⟩, hS.F ht⟩) hS.2.2 dX5_need_92
      · skip
        have c129 := lc_nle c12
        have bp1 := hp1.u
        have dp1 := i64_lt c129 (show (0 : Int64).toInt = 0 by decide) rfl
        have hp1 : jv p1 1 10000000 := jv.m (by omega)
        have c128 := l_lt c129
        refine lv_aload_n hx hb dX5_need_44 rfl (lv_at hl 0 rfl) ?_
        refine lv_iconst (v := 1) hx hb dX5_need_45 (by decide) ?_
        refine va_put (D := (dC, dI)) (ci := 5) (v := Value.int 1) (ty := FieldType.boolean) (C := RX5) (T := TX5) (N := 5) hx hb hts iw_X5_need_X5 tyX5 tyX5_ok nmX5 hown hK hP hD hS 0 rfl rfl 4 (by decide) (hts _ kk_X5_need_2) (fun _ h9 => h9) rfl (by decide +kernel) rfl rfl (Nat.le_of_ble_eq_true rfl) dX5_need_46 (fun H locs hP hD hS => ?_)
        have hP : va_P (dC, dI) vwCl [(o, Sum.inr (5, [Value.long v_lowUpper, Value.long v_lowLower, Value.long v_capUpper, Value.long v_capLower, Value.int 1]))] H := hP
        have hD : va_D A [(o, Sum.inr (5, [Value.long v_lowUpper, Value.long v_lowLower, Value.long v_capUpper, Value.long v_capLower, Value.int 1]))] := hD
        refine lv_lload_n hx hb dX5_need_49 rfl (lv_at hl 1 rfl) ?_
        refine lv_lconst (v := 0) hx hb dX5_need_50 (by decide) ?_
        refine W.lcmp hx hb dX5_need_51 ?_
        refine lv_if_ge (tgt := 92) hx hb dX5_need_52 (by decide) (fun c22 => ?_) (fun c22 => ?_)
        · skip
          have c229 := lc_ge c22
          have bp0 := hp0.u
          have dp0 := i64_le c229 (show (0 : Int64).toInt = 0 by decide) rfl
          have hp0 : jv p0 0 0 := jv.m (by omega)
          have c228 := l_le c229
          have hP9 := hP.sub (ws' := [(o, Sum.inr (5, [Value.long v_lowUpper, Value.long v_lowLower, Value.long v_capUpper, Value.long v_capLower, Value.int 1]))]) [0] rfl
          have hD9 := hD.sub (ws' := [(o, Sum.inr (5, [Value.long v_lowUpper, Value.long v_lowLower, Value.long v_capUpper, Value.long v_capLower, Value.int 1]))]) [0] (by decide) rfl
          exact W.vret hx hb hr (fun t ht hW => ⟨⟨(), rfl, trivial, v_lowUpper, v_lowLower, v_capUpper, v_capLower, 1, hv_lowUpper, hv_lowLower, hv_capUpper, hv_capLower, (iv.m (by decide)), (by unfold ndL; omega), (by unfold ndC; omega), (by omega), by rw [ht]; exact hP9, hD9⟩, hS.F ht⟩) hS.2.2 dX5_need_92
        · skip
          have c229 := lc_nge c22
          have bp0 := hp0.u
          have dp0 := i64_lt c229 rfl (show (0 : Int64).toInt = 0 by decide)
          have hp0 : jv p0 (-1600) (-1) := jv.m (by omega)
          have c228 := l_lt c229
          refine lv_aload_n hx hb dX5_need_55 rfl (lv_at hl 0 rfl) ?_
          refine va_get (D := (dC, dI)) (ci := 5) (v := Value.long v_capLower) (C := RX5) (T := TX5) (N := 5) hx hb hts iw_X5_need_X5 hown hK hP 0 rfl rfl 3 (by decide) (hts _ kk_X5_need_0) (fun _ h9 => h9) rfl dX5_need_56 ?_
          refine lv_lconst (v := 0) hx hb dX5_need_59 (by decide) ?_
          refine W.lcmp hx hb dX5_need_60 ?_
          refine lv_if_eq (tgt := 80) hx hb dX5_need_61 (by decide) (fun c23 => ?_) (fun c23 => ?_)
          · skip
            have c239 := lc_eq c23
            have c238 := l_eq c239
            refine lv_aload_n hx hb dX5_need_80 rfl (lv_at hl 0 rfl) ?_
            refine lv_lload_n hx hb dX5_need_81 rfl (lv_at hl 2 rfl) ?_
            refine lv_lneg hx hb dX5_need_82 ?_
            refine lv_topl (fun y24 ey24 => ?_)
            have hy24 : jv y24 (-10000000) (-1) := jv.neg ey24 hp1 (by decide) (by decide) (by decide) (by decide)
            have ty24 : y24.toInt = -p1.toInt := l_neg ey24 (show jv p1 (-10000000) 10000000 from (hp1.w (by decide) (by decide))).1
            refine va_put (D := (dC, dI)) (ci := 5) (v := Value.long y24) (ty := FieldType.long) (C := RX5) (T := TX5) (N := 5) hx hb hts iw_X5_need_X5 tyX5 tyX5_ok nmX5 hown hK hP hD hS 0 rfl rfl 2 (by decide) (hts _ kk_X5_need_1) (fun _ h9 => h9) rfl (by decide +kernel) rfl rfl (Nat.le_of_ble_eq_true rfl) dX5_need_83 (fun H locs hP hD hS => ?_)
            have hP : va_P (dC, dI) vwCl [(o, Sum.inr (5, [Value.long v_lowUpper, Value.long v_lowLower, Value.long y24, Value.long v_capLower, Value.int 1]))] H := hP
            have hD : va_D A [(o, Sum.inr (5, [Value.long v_lowUpper, Value.long v_lowLower, Value.long y24, Value.long v_capLower, Value.int 1]))] := hD
            refine lv_aload_n hx hb dX5_need_86 rfl (lv_at hl 0 rfl) ?_
            refine lv_lload_n hx hb dX5_need_87 rfl (lv_at hl 1 rfl) ?_
            refine lv_lneg hx hb dX5_need_88 ?_
            refine lv_topl (fun y25 ey25 => ?_)
            have hy25 : jv y25 1 1600 := jv.neg ey25 hp0 (by decide) (by decide) (by decide) (by decide)
            have ty25 : y25.toInt = -p0.toInt := l_neg ey25 (show jv p0 (-10000000) 10000000 from (hp0.w (by decide) (by decide))).1
            refine va_put (D := (dC, dI)) (ci := 5) (v := Value.long y25) (ty := FieldType.long) (C := RX5) (T := TX5) (N := 5) hx hb hts iw_X5_need_X5 tyX5 tyX5_ok nmX5 hown hK hP hD hS 0 rfl rfl 3 (by decide) (hts _ kk_X5_need_0) (fun _ h9 => h9) rfl (by decide +kernel) rfl rfl (Nat.le_of_ble_eq_true rfl) dX5_need_89 (fun H locs hP hD hS => ?_)
            have hP : va_P (dC, dI) vwCl [(o, Sum.inr (5, [Value.long v_lowUpper, Value.long v_lowLower, Value.long y24, Value.long y25, Value.int 1]))] H := hP
            have hD : va_D A [(o, Sum.inr (5, [Value.long v_lowUpper, Value.long v_lowLower, Value.long y24, Value.long y25, Value.int 1]))] := hD
            have hP9 := hP.sub (ws' := [(o, Sum.inr (5, [Value.long v_lowUpper, Value.long v_lowLower, Value.long y24, Value.long y25, Value.int 1]))]) [0] rfl
            have hD9 := hD.sub (ws' := [(o, Sum.inr (5, [Value.long v_lowUpper, Value.long v_lowLower, Value.long y24, Value.long y25, Value.int 1]))]) [0] (by decide) rfl
            exact W.vret hx hb hr (fun t ht hW => ⟨⟨(), rfl, trivial, v_lowUpper, v_lowLower, y24, y25, 1, hv_lowUpper, hv_lowLower, (hy24.w (by decide) (by decide)), (hy25.w (by decide) (by decide)), (iv.m (by decide)), (by unfold ndL; omega), (by unfold ndC; omega), (by omega), by rw [ht]; exact hP9, hD9⟩, hS.F ht⟩) hS.2.2 dX5_need_92
          · skip
            have c239 := lc_ne c23
            have c238 := l_ne c239
            refine lv_lload_n hx hb dX5_need_64 rfl (lv_at hl 2 rfl) ?_
            refine lv_aload_n hx hb dX5_need_65 rfl (lv_at hl 0 rfl) ?_
            refine va_get (D := (dC, dI)) (ci := 5) (v := Value.long v_capLower) (C := RX5) (T := TX5) (N := 5) hx hb hts iw_X5_need_X5 hown hK hP 0 rfl rfl 3 (by decide) (hts _ kk_X5_need_0) (fun _ h9 => h9) rfl dX5_need_66 ?_
            refine lv_lmul hx hb dX5_need_69 ?_
            refine lv_topl (fun y26 ey26 => ?_)
            have hy26 : jv y26 0 16000000000 := jv.mulp ey26 hp1 hv_capLower (by decide) (by decide) (by decide) (by decide) (by decide)
            have ty26 : y26.toInt = p1.toInt * v_capLower.toInt := i64_ml ey26 (show jv p1 (-10000000) 10000000 from (hp1.w (by decide) (by decide))).1 (show jv p1 (-10000000) 10000000 from (hp1.w (by decide) (by decide))).2 (show jv v_capLower (-10000000) 10000000 from (hv_capLower.w (by decide) (by decide))).1 (show jv v_capLower (-10000000) 10000000 from (hv_capLower.w (by decide) (by decide))).2
            refine lv_aload_n hx hb dX5_need_70 rfl (lv_at hl 0 rfl) ?_
            refine va_get (D := (dC, dI)) (ci := 5) (v := Value.long v_capUpper) (C := RX5) (T := TX5) (N := 5) hx hb hts iw_X5_need_X5 hown hK hP 0 rfl rfl 2 (by decide) (hts _ kk_X5_need_1) (fun _ h9 => h9) rfl dX5_need_71 ?_
            refine lv_lload_n hx hb dX5_need_74 rfl (lv_at hl 1 rfl) ?_
            refine lv_lmul hx hb dX5_need_75 ?_
            refine lv_topl (fun y27 ey27 => ?_)
            have hy27 : jv y27 (-16000000000) 16000000000 := jv.mula (B := 10000000) (D := 1600) ey27 hv_capUpper hp0 (by decide) (by decide) (by decide) (by decide) (by decide) (by decide)
            have ty27 : y27.toInt = v_capUpper.toInt * p0.toInt := i64_ml ey27 (show jv v_capUpper (-10000000) 10000000 from hv_capUpper).1 (show jv v_capUpper (-10000000) 10000000 from hv_capUpper).2 (show jv p0 (-10000000) 10000000 from (hp0.w (by decide) (by decide))).1 (show jv p0 (-10000000) 10000000 from (hp0.w (by decide) (by decide))).2
            refine W.lcmp hx hb dX5_need_76 ?_
            refine lv_if_le (tgt := 92) hx hb dX5_need_77 (by decide) (fun c28 => ?_) (fun c28 => ?_)
            · skip
              have c289 := lc_le c28
              have c288 := l_le c289
              have hP9 := hP.sub (ws' := [(o, Sum.inr (5, [Value.long v_lowUpper, Value.long v_lowLower, Value.long v_capUpper, Value.long v_capLower, Value.int 1]))]) [0] rfl
              have hD9 := hD.sub (ws' := [(o, Sum.inr (5, [Value.long v_lowUpper, Value.long v_lowLower, Value.long v_capUpper, Value.long v_capLower, Value.int 1]))]) [0] (by decide) rfl
              exact W.vret hx hb hr (fun t ht hW => ⟨⟨(), rfl, trivial, v_lowUpper, v_lowLower, v_capUpper, v_capLower, 1, hv_lowUpper, hv_lowLower, hv_capUpper, hv_capLower, (iv.m (by decide)), (by unfold ndL; omega), (by unfold ndC; omega), (by omega), by rw [ht]; exact hP9, hD9⟩, hS.F ht⟩) hS.2.2 dX5_need_92
            · skip
              have c289 := lc_nle c28
              have c288 := l_lt c289
              refine lv_aload_n hx hb dX5_need_80 rfl (lv_at hl 0 rfl) ?_
              refine lv_lload_n hx hb dX5_need_81 rfl (lv_at hl 2 rfl) ?_
              refine lv_lneg hx hb dX5_need_82 ?_
              refine lv_topl (fun y29 ey29 => ?_)
              have hy29 : jv y29 (-10000000) (-1) := jv.neg ey29 hp1 (by decide) (by decide) (by decide) (by decide)
              have ty29 : y29.toInt = -p1.toInt := l_neg ey29 (show jv p1 (-10000000) 10000000 from (hp1.w (by decide) (by decide))).1
              refine va_put (D := (dC, dI)) (ci := 5) (v := Value.long y29) (ty := FieldType.long) (C := RX5) (T := TX5) (N := 5) hx hb hts iw_X5_need_X5 tyX5 tyX5_ok nmX5 hown hK hP hD hS 0 rfl rfl 2 (by decide) (hts _ kk_X5_need_1) (fun _ h9 => h9) rfl (by decide +kernel) rfl rfl (Nat.le_of_ble_eq_true rfl) dX5_need_83 (fun H locs hP hD hS => ?_)
              have hP : va_P (dC, dI) vwCl [(o, Sum.inr (5, [Value.long v_lowUpper, Value.long v_lowLower, Value.long y29, Value.long v_capLower, Value.int 1]))] H := hP
              have hD : va_D A [(o, Sum.inr (5, [Value.long v_lowUpper, Value.long v_lowLower, Value.long y29, Value.long v_capLower, Value.int 1]))] := hD
              refine lv_aload_n hx hb dX5_need_86 rfl (lv_at hl 0 rfl) ?_
              refine lv_lload_n hx hb dX5_need_87 rfl (lv_at hl 1 rfl) ?_
              refine lv_lneg hx hb dX5_need_88 ?_
              refine lv_topl (fun y30 ey30 => ?_)
              have hy30 : jv y30 1 1600 := jv.neg ey30 hp0 (by decide) (by decide) (by decide) (by decide)
              have ty30 : y30.toInt = -p0.toInt := l_neg ey30 (show jv p0 (-10000000) 10000000 from (hp0.w (by decide) (by decide))).1
              refine va_put (D := (dC, dI)) (ci := 5) (v := Value.long y30) (ty := FieldType.long) (C := RX5) (T := TX5) (N := 5) hx hb hts iw_X5_need_X5 tyX5 tyX5_ok nmX5 hown hK hP hD hS 0 rfl rfl 3 (by decide) (hts _ kk_X5_need_0) (fun _ h9 => h9) rfl (by decide +kernel) rfl rfl (Nat.le_of_ble_eq_true rfl) dX5_need_89 (fun H locs hP hD hS => ?_)
              have hP : va_P (dC, dI) vwCl [(o, Sum.inr (5, [Value.long v_lowUpper, Value.long v_lowLower, Value.long y29, Value.long y30, Value.int 1]))] H := hP
              have hD : va_D A [(o, Sum.inr (5, [Value.long v_lowUpper, Value.long v_lowLower, Value.long y29, Value.long y30, Value.int 1]))] := hD
              have hP9 := hP.sub (ws' := [(o, Sum.inr (5, [Value.long v_lowUpper, Value.long v_lowLower, Value.long y29, Value.long y30, Value.int 1]))]) [0] rfl
              have hD9 := hD.sub (ws' := [(o, Sum.inr (5, [Value.long v_lowUpper, Value.long v_lowLower, Value.long y29, Value.long y30, Value.int 1]))]) [0] (by decide) rfl
              exact W.vret hx hb hr (fun t ht hW => ⟨⟨(), rfl, trivial, v_lowUpper, v_lowLower, y29, y30, 1, hv_lowUpper, hv_lowLower, (hy29.w (by decide) (by decide)), (hy30.w (by decide) (by decide)), (iv.m (by decide)), (by unfold ndL; omega), (by unfold ndC; omega), (by omega), by rw [ht]; exact hP9, hD9⟩, hS.F ht⟩) hS.2.2 dX5_need_92
  · skip
    have c19 := lc_nle c1
    have bp0 := hp0.u
    have dp0 := i64_lt c19 (show (0 : Int64).toInt = 0 by decide) rfl
    have hp0 : jv p0 1 1600 := jv.m (by omega)
    have c18 := l_lt c19
    refine lv_lload_n hx hb dX5_need_6 rfl (lv_at hl 2 rfl) ?_
    refine lv_aload_n hx hb dX5_need_7 rfl (lv_at hl 0 rfl) ?_
    refine va_get (D := (dC, dI)) (ci := 5) (v := Value.long v_lowLower) (C := RX5) (T := TX5) (N := 5) hx hb hts iw_X5_need_X5 hown hK hP 0 rfl rfl 1 (by decide) (hts _ kk_X5_need_3) (fun _ h9 => h9) rfl dX5_need_8 ?_
    refine lv_lmul hx hb dX5_need_11 ?_
    refine lv_topl (fun y31 ey31 => ?_)
    have hy31 : jv y31 (-16000000000) 16000000000 := jv.mula (B := 10000000) (D := 1600) ey31 hp1 hv_lowLower (by decide) (by decide) (by decide) (by decide) (by decide) (by decide)
    have ty31 : y31.toInt = p1.toInt * v_lowLower.toInt := i64_ml ey31 (show jv p1 (-10000000) 10000000 from hp1).1 (show jv p1 (-10000000) 10000000 from hp1).2 (show jv v_lowLower (-10000000) 10000000 from (hv_lowLower.w (by decide) (by decide))).1 (show jv v_lowLower (-10000000) 10000000 from (hv_lowLower.w (by decide) (by decide))).2
    refine lv_aload_n hx hb dX5_need_12 rfl (lv_at hl 0 rfl) ?_
    refine va_get (D := (dC, dI)) (ci := 5) (v := Value.long v_lowUpper) (C := RX5) (T := TX5) (N := 5) hx hb hts iw_X5_need_X5 hown hK hP 0 rfl rfl 0 (by decide) (hts _ kk_X5_need_4) (fun _ h9 => h9) rfl dX5_need_13 ?_
    refine lv_lload_n hx hb dX5_need_16 rfl (lv_at hl 1 rfl) ?_
    refine lv_lmul hx hb dX5_need_17 ?_
    refine lv_topl (fun y32 ey32 => ?_)
    have hy32 : jv y32 (-16000000000) 16000000000 := jv.mula (B := 10000000) (D := 1600) ey32 hv_lowUpper hp0 (by decide) (by decide) (by decide) (by decide) (by decide) (by decide)
    have ty32 : y32.toInt = v_lowUpper.toInt * p0.toInt := i64_ml ey32 (show jv v_lowUpper (-10000000) 10000000 from hv_lowUpper).1 (show jv v_lowUpper (-10000000) 10000000 from hv_lowUpper).2 (show jv p0 (-10000000) 10000000 from (hp0.w (by decide) (by decide))).1 (show jv p0 (-10000000) 10000000 from (hp0.w (by decide) (by decide))).2
    refine W.lcmp hx hb dX5_need_18 ?_
    refine lv_if_le (tgt := 32) hx hb dX5_need_19 (by decide) (fun c33 => ?_) (fun c33 => ?_)
    · skip
      have c339 := lc_le c33
      have c338 := l_le c339
      refine lv_lload_n hx hb dX5_need_32 rfl (lv_at hl 1 rfl) ?_
      refine lv_lconst (v := 0) hx hb dX5_need_33 (by decide) ?_
      refine W.lcmp hx hb dX5_need_34 ?_
      refine lv_if_ne (tgt := 49) hx hb dX5_need_35 (by decide) (fun c34 => ?_) (fun c34 => ?_)
      · skip
        have c349 := lc_ne c34
        have c348 := l_ne c349
        refine lv_lload_n hx hb dX5_need_49 rfl (lv_at hl 1 rfl) ?_
        refine lv_lconst (v := 0) hx hb dX5_need_50 (by decide) ?_
        refine W.lcmp hx hb dX5_need_51 ?_
        refine lv_if_ge (tgt := 92) hx hb dX5_need_52 (by decide) (fun c35 => ?_) (fun c35 => ?_)
        · skip
          have c359 := lc_ge c35
          have c358 := l_le c359
          have hP9 := hP.sub (ws' := [(o, Sum.inr (5, [Value.long v_lowUpper, Value.long v_lowLower, Value.long v_capUpper, Value.long v_capLower, Value.int v_isBroken]))]) [0] rfl
          have hD9 := hD.sub (ws' := [(o, Sum.inr (5, [Value.long v_lowUpper, Value.long v_lowLower, Value.long v_capUpper, Value.long v_capLower, Value.int v_isBroken]))]) [0] (by decide) rfl
          exact W.vret hx hb hr (fun t ht hW => ⟨⟨(), rfl, trivial, v_lowUpper, v_lowLower, v_capUpper, v_capLower, v_isBroken, hv_lowUpper, hv_lowLower, hv_capUpper, hv_capLower, hv_isBroken, (by unfold ndL; omega), (by unfold ndC; omega), (by omega), by rw [ht]; exact hP9, hD9⟩, hS.F ht⟩) hS.2.2 dX5_need_92
        · skip
          have c359 := lc_nge c35
          have bp0 := hp0.u
          have dp0 := i64_lt c359 rfl (show (0 : Int64).toInt = 0 by decide)
          have hp0 : jv p0 1 (-1) := jv.m (by omega)
          have c358 := l_lt c359
          refine lv_aload_n hx hb dX5_need_55 rfl (lv_at hl 0 rfl) ?_
          refine va_get (D := (dC, dI)) (ci := 5) (v := Value.long v_capLower) (C := RX5) (T := TX5) (N := 5) hx hb hts iw_X5_need_X5 hown hK hP 0 rfl rfl 3 (by decide) (hts _ kk_X5_need_0) (fun _ h9 => h9) rfl dX5_need_56 ?_
          refine lv_lconst (v := 0) hx hb dX5_need_59 (by decide) ?_
          refine W.lcmp hx hb dX5_need_60 ?_
          refine lv_if_eq (tgt := 80) hx hb dX5_need_61 (by decide) (fun c36 => ?_) (fun c36 => ?_)
          · skip
            have c369 := lc_eq c36
            have c368 := l_eq c369
            refine lv_aload_n hx hb dX5_need_80 rfl (lv_at hl 0 rfl) ?_
            refine lv_lload_n hx hb dX5_need_81 rfl (lv_at hl 2 rfl) ?_
            refine lv_lneg hx hb dX5_need_82 ?_
            refine lv_topl (fun y37 ey37 => ?_)
            have hy37 : jv y37 (-10000000) 10000000 := jv.neg ey37 hp1 (by decide) (by decide) (by decide) (by decide)
            have ty37 : y37.toInt = -p1.toInt := l_neg ey37 (show jv p1 (-10000000) 10000000 from hp1).1
            refine va_put (D := (dC, dI)) (ci := 5) (v := Value.long y37) (ty := FieldType.long) (C := RX5) (T := TX5) (N := 5) hx hb hts iw_X5_need_X5 tyX5 tyX5_ok nmX5 hown hK hP hD hS 0 rfl rfl 2 (by decide) (hts _ kk_X5_need_1) (fun _ h9 => h9) rfl (by decide +kernel) rfl rfl (Nat.le_of_ble_eq_true rfl) dX5_need_83 (fun H locs hP hD hS => ?_)
            have hP : va_P (dC, dI) vwCl [(o, Sum.inr (5, [Value.long v_lowUpper, Value.long v_lowLower, Value.long y37, Value.long v_capLower, Value.int v_isBroken]))] H := hP
            have hD : va_D A [(o, Sum.inr (5, [Value.long v_lowUpper, Value.long v_lowLower, Value.long y37, Value.long v_capLower, Value.int v_isBroken]))] := hD
            refine lv_aload_n hx hb dX5_need_86 rfl (lv_at hl 0 rfl) ?_
            refine lv_lload_n hx hb dX5_need_87 rfl (lv_at hl 1 rfl) ?_
            refine lv_lneg hx hb dX5_need_88 ?_
            refine lv_topl (fun y38 ey38 => ?_)
            have hy38 : jv y38 1 (-1) := jv.neg ey38 hp0 (by decide) (by decide) (by decide) (by decide)
            have ty38 : y38.toInt = -p0.toInt := l_neg ey38 (show jv p0 (-10000000) 10000000 from (hp0.w (by decide) (by decide))).1
            refine va_put (D := (dC, dI)) (ci := 5) (v := Value.long y38) (ty := FieldType.long) (C := RX5) (T := TX5) (N := 5) hx hb hts iw_X5_need_X5 tyX5 tyX5_ok nmX5 hown hK hP hD hS 0 rfl rfl 3 (by decide) (hts _ kk_X5_need_0) (fun _ h9 => h9) rfl (by decide +kernel) rfl rfl (Nat.le_of_ble_eq_true rfl) dX5_need_89 (fun H locs hP hD hS => ?_)
            have hP : va_P (dC, dI) vwCl [(o, Sum.inr (5, [Value.long v_lowUpper, Value.long v_lowLower, Value.long y37, Value.long y38, Value.int v_isBroken]))] H := hP
            have hD : va_D A [(o, Sum.inr (5, [Value.long v_lowUpper, Value.long v_lowLower, Value.long y37, Value.long y38, Value.int v_isBroken]))] := hD
            have hP9 := hP.sub (ws' := [(o, Sum.inr (5, [Value.long v_lowUpper, Value.long v_lowLower, Value.long y37, Value.long y38, Value.int v_isBroken]))]) [0] rfl
            have hD9 := hD.sub (ws' := [(o, Sum.inr (5, [Value.long v_lowUpper, Value.long v_lowLower, Value.long y37, Value.long y38, Value.int v_isBroken]))]) [0] (by decide) rfl
            exact W.vret hx hb hr (fun t ht hW => ⟨⟨(), rfl, trivial, v_lowUpper, v_lowLower, y37, y38, v_isBroken, hv_lowUpper, hv_lowLower, hy37, (hy38.w (by decide) (by decide)), hv_isBroken, (by unfold ndL; omega), (by unfold ndC; omega), (by omega), by rw [ht]; exact hP9, hD9⟩, hS.F ht⟩) hS.2.2 dX5_need_92
          · skip
            have c369 := lc_ne c36
            have c368 := l_ne c369
            refine lv_lload_n hx hb dX5_need_64 rfl (lv_at hl 2 rfl) ?_
            refine lv_aload_n hx hb dX5_need_65 rfl (lv_at hl 0 rfl) ?_
            refine va_get (D := (dC, dI)) (ci := 5) (v := Value.long v_capLower) (C := RX5) (T := TX5) (N := 5) hx hb hts iw_X5_need_X5 hown hK hP 0 rfl rfl 3 (by decide) (hts _ kk_X5_need_0) (fun _ h9 => h9) rfl dX5_need_66 ?_
            refine lv_lmul hx hb dX5_need_69 ?_
            refine lv_topl (fun y39 ey39 => ?_)
            have hy39 : jv y39 (-16000000000) 16000000000 := jv.mula (B := 10000000) (D := 1600) ey39 hp1 hv_capLower (by decide) (by decide) (by decide) (by decide) (by decide) (by decide)
            have ty39 : y39.toInt = p1.toInt * v_capLower.toInt := i64_ml ey39 (show jv p1 (-10000000) 10000000 from hp1).1 (show jv p1 (-10000000) 10000000 from hp1).2 (show jv v_capLower (-10000000) 10000000 from (hv_capLower.w (by decide) (by decide))).1 (show jv v_capLower (-10000000) 10000000 from (hv_capLower.w (by decide) (by decide))).2
            refine lv_aload_n hx hb dX5_need_70 rfl (lv_at hl 0 rfl) ?_
            refine va_get (D := (dC, dI)) (ci := 5) (v := Value.long v_capUpper) (C := RX5) (T := TX5) (N := 5) hx hb hts iw_X5_need_X5 hown hK hP 0 rfl rfl 2 (by decide) (hts _ kk_X5_need_1) (fun _ h9 => h9) rfl dX5_need_71 ?_
            refine lv_lload_n hx hb dX5_need_74 rfl (lv_at hl 1 rfl) ?_
            refine lv_lmul hx hb dX5_need_75 ?_
            refine lv_topl (fun y40 ey40 => ?_)
            have hy40 : jv y40 (-10000000) 10000000 := jv.mula (B := 10000000) (D := 1) ey40 hv_capUpper hp0 (by decide) (by decide) (by decide) (by decide) (by decide) (by decide)
            have ty40 : y40.toInt = v_capUpper.toInt * p0.toInt := i64_ml ey40 (show jv v_capUpper (-10000000) 10000000 from hv_capUpper).1 (show jv v_capUpper (-10000000) 10000000 from hv_capUpper).2 (show jv p0 (-10000000) 10000000 from (hp0.w (by decide) (by decide))).1 (show jv p0 (-10000000) 10000000 from (hp0.w (by decide) (by decide))).2
            refine W.lcmp hx hb dX5_need_76 ?_
            refine lv_if_le (tgt := 92) hx hb dX5_need_77 (by decide) (fun c41 => ?_) (fun c41 => ?_)
            · skip
              have c419 := lc_le c41
              have c418 := l_le c419
              have hP9 := hP.sub (ws' := [(o, Sum.inr (5, [Value.long v_lowUpper, Value.long v_lowLower, Value.long v_capUpper, Value.long v_capLower, Value.int v_isBroken]))]) [0] rfl
              have hD9 := hD.sub (ws' := [(o, Sum.inr (5, [Value.long v_lowUpper, Value.long v_lowLower, Value.long v_capUpper, Value.long v_capLower, Value.int v_isBroken]))]) [0] (by decide) rfl
              exact W.vret hx hb hr (fun t ht hW => ⟨⟨(), rfl, trivial, v_lowUpper, v_lowLower, v_capUpper, v_capLower, v_isBroken, hv_lowUpper, hv_lowLower, hv_capUpper, hv_capLower, hv_isBroken, (by unfold ndL; omega), (by unfold ndC; omega), (by omega), by rw [ht]; exact hP9, hD9⟩, hS.F ht⟩) hS.2.2 dX5_need_92
            · skip
              have c419 := lc_nle c41
              have c418 := l_lt c419
              refine lv_aload_n hx hb dX5_need_80 rfl (lv_at hl 0 rfl) ?_
              refine lv_lload_n hx hb dX5_need_81 rfl (lv_at hl 2 rfl) ?_
              refine lv_lneg hx hb dX5_need_82 ?_
              refine lv_topl (fun y42 ey42 => ?_)
              have hy42 : jv y42 (-10000000) 10000000 := jv.neg ey42 hp1 (by decide) (by decide) (by decide) (by decide)
              have ty42 : y42.toInt = -p1.toInt := l_neg ey42 (show jv p1 (-10000000) 10000000 from hp1).1
              refine va_put (D := (dC, dI)) (ci := 5) (v := Value.long y42) (ty := FieldType.long) (C := RX5) (T := TX5) (N := 5) hx hb hts iw_X5_need_X5 tyX5 tyX5_ok nmX5 hown hK hP hD hS 0 rfl rfl 2 (by decide) (hts _ kk_X5_need_1) (fun _ h9 => h9) rfl (by decide +kernel) rfl rfl (Nat.le_of_ble_eq_true rfl) dX5_need_83 (fun H locs hP hD hS => ?_)
              have hP : va_P (dC, dI) vwCl [(o, Sum.inr (5, [Value.long v_lowUpper, Value.long v_lowLower, Value.long y42, Value.long v_capLower, Value.int v_isBroken]))] H := hP
              have hD : va_D A [(o, Sum.inr (5, [Value.long v_lowUpper, Value.long v_lowLower, Value.long y42, Value.long v_capLower, Value.int v_isBroken]))] := hD
              refine lv_aload_n hx hb dX5_need_86 rfl (lv_at hl 0 rfl) ?_
              refine lv_lload_n hx hb dX5_need_87 rfl (lv_at hl 1 rfl) ?_
              refine lv_lneg hx hb dX5_need_88 ?_
              refine lv_topl (fun y43 ey43 => ?_)
              have hy43 : jv y43 1 (-1) := jv.neg ey43 hp0 (by decide) (by decide) (by decide) (by decide)
              have ty43 : y43.toInt = -p0.toInt := l_neg ey43 (show jv p0 (-10000000) 10000000 from (hp0.w (by decide) (by decide))).1
              refine va_put (D := (dC, dI)) (ci := 5) (v := Value.long y43) (ty := FieldType.long) (C := RX5) (T := TX5) (N := 5) hx hb hts iw_X5_need_X5 tyX5 tyX5_ok nmX5 hown hK hP hD hS 0 rfl rfl 3 (by decide) (hts _ kk_X5_need_0) (fun _ h9 => h9) rfl (by decide +kernel) rfl rfl (Nat.le_of_ble_eq_true rfl) dX5_need_89 (fun H locs hP hD hS => ?_)
              have hP : va_P (dC, dI) vwCl [(o, Sum.inr (5, [Value.long v_lowUpper, Value.long v_lowLower, Value.long y42, Value.long y43, Value.int v_isBroken]))] H := hP
              have hD : va_D A [(o, Sum.inr (5, [Value.long v_lowUpper, Value.long v_lowLower, Value.long y42, Value.long y43, Value.int v_isBroken]))] := hD
              have hP9 := hP.sub (ws' := [(o, Sum.inr (5, [Value.long v_lowUpper, Value.long v_lowLower, Value.long y42, Value.long y43, Value.int v_isBroken]))]) [0] rfl
              have hD9 := hD.sub (ws' := [(o, Sum.inr (5, [Value.long v_lowUpper, Value.long v_lowLower, Value.long y42, Value.long y43, Value.int v_isBroken]))]) [0] (by decide) rfl
              exact W.vret hx hb hr (fun t ht hW => ⟨⟨(), rfl, trivial, v_lowUpper, v_lowLower, y42, y43, v_isBroken, hv_lowUpper, hv_lowLower, hy42, (hy43.w (by decide) (by decide)), hv_isBroken, (by unfold ndL; omega), (by unfold ndC; omega), (by omega), by rw [ht]; exact hP9, hD9⟩, hS.F ht⟩) hS.2.2 dX5_need_92
      · skip
        have c349 := lc_eq c34
        have c348 := l_eq c349
        refine lv_lload_n hx hb dX5_need_38 rfl (lv_at hl 2 rfl) ?_
        refine lv_lconst (v := 0) hx hb dX5_need_39 (by decide) ?_
        refine W.lcmp hx hb dX5_need_40 ?_
        refine lv_if_le (tgt := 49) hx hb dX5_need_41 (by decide) (fun c44 => ?_) (fun c44 => ?_)
        · skip
          have c449 := lc_le c44
          have bp1 := hp1.u
          have dp1 := i64_le c449 rfl (show (0 : Int64).toInt = 0 by decide)
          have hp1 : jv p1 (-10000000) 0 := jv.m (by omega)
          have c448 := l_le c449
          refine lv_lload_n hx hb dX5_need_49 rfl (lv_at hl 1 rfl) ?_
          refine lv_lconst (v := 0) hx hb dX5_need_50 (by decide) ?_
          refine W.lcmp hx hb dX5_need_51 ?_
          refine lv_if_ge (tgt := 92) hx hb dX5_need_52 (by decide) (fun c45 => ?_) (fun c45 => ?_)
          · skip
            have c459 := lc_ge c45
            have c458 := l_le c459
            have hP9 := hP.sub (ws' := [(o, Sum.inr (5, [Value.long v_lowUpper, Value.long v_lowLower, Value.long v_capUpper, Value.long v_capLower, Value.int v_isBroken]))]) [0] rfl
            have hD9 := hD.sub (ws' := [(o, Sum.inr (5, [Value.long v_lowUpper, Value.long v_lowLower, Value.long v_capUpper, Value.long v_capLower, Value.int v_isBroken]))]) [0] (by decide) rfl
            exact W.vret hx hb hr (fun t ht hW => ⟨⟨(), rfl, trivial, v_lowUpper, v_lowLower, v_capUpper, v_capLower, v_isBroken, hv_lowUpper, hv_lowLower, hv_capUpper, hv_capLower, hv_isBroken, (by unfold ndL; omega), (by unfold ndC; omega), (by omega), by rw [ht]; exact hP9, hD9⟩, hS.F ht⟩) hS.2.2 dX5_need_92
          · skip
            have c459 := lc_nge c45
            have bp0 := hp0.u
            have dp0 := i64_lt c459 rfl (show (0 : Int64).toInt = 0 by decide)
            have hp0 : jv p0 1 (-1) := jv.m (by omega)
            have c458 := l_lt c459
            refine lv_aload_n hx hb dX5_need_55 rfl (lv_at hl 0 rfl) ?_
            refine va_get (D := (dC, dI)) (ci := 5) (v := Value.long v_capLower) (C := RX5) (T := TX5) (N := 5) hx hb hts iw_X5_need_X5 hown hK hP 0 rfl rfl 3 (by decide) (hts _ kk_X5_need_0) (fun _ h9 => h9) rfl dX5_need_56 ?_
            refine lv_lconst (v := 0) hx hb dX5_need_59 (by decide) ?_
            refine W.lcmp hx hb dX5_need_60 ?_
            refine lv_if_eq (tgt := 80) hx hb dX5_need_61 (by decide) (fun c46 => ?_) (fun c46 => ?_)
            · skip
              have c469 := lc_eq c46
              have c468 := l_eq c469
              refine lv_aload_n hx hb dX5_need_80 rfl (lv_at hl 0 rfl) ?_
              refine lv_lload_n hx hb dX5_need_81 rfl (lv_at hl 2 rfl) ?_
              refine lv_lneg hx hb dX5_need_82 ?_
              refine lv_topl (fun y47 ey47 => ?_)
              have hy47 : jv y47 0 10000000 := jv.neg ey47 hp1 (by decide) (by decide) (by decide) (by decide)
              have ty47 : y47.toInt = -p1.toInt := l_neg ey47 (show jv p1 (-10000000) 10000000 from (hp1.w (by decide) (by decide))).1
              refine va_put (D := (dC, dI)) (ci := 5) (v := Value.long y47) (ty := FieldType.long) (C := RX5) (T := TX5) (N := 5) hx hb hts iw_X5_need_X5 tyX5 tyX5_ok nmX5 hown hK hP hD hS 0 rfl rfl 2 (by decide) (hts _ kk_X5_need_1) (fun _ h9 => h9) rfl (by decide +kernel) rfl rfl (Nat.le_of_ble_eq_true rfl) dX5_need_83 (fun H locs hP hD hS => ?_)
              have hP : va_P (dC, dI) vwCl [(o, Sum.inr (5, [Value.long v_lowUpper, Value.long v_lowLower, Value.long y47, Value.long v_capLower, Value.int v_isBroken]))] H := hP
              have hD : va_D A [(o, Sum.inr (5, [Value.long v_lowUpper, Value.long v_lowLower, Value.long y47, Value.long v_capLower, Value.int v_isBroken]))] := hD
              refine lv_aload_n hx hb dX5_need_86 rfl (lv_at hl 0 rfl) ?_
              refine lv_lload_n hx hb dX5_need_87 rfl (lv_at hl 1 rfl) ?_
              refine lv_lneg hx hb dX5_need_88 ?_
              refine lv_topl (fun y48 ey48 => ?_)
              have hy48 : jv y48 1 (-1) := jv.neg ey48 hp0 (by decide) (by decide) (by decide) (by decide)
              have ty48 : y48.toInt = -p0.toInt := l_neg ey48 (show jv p0 (-10000000) 10000000 from (hp0.w (by decide) (by decide))).1
              refine va_put (D := (dC, dI)) (ci := 5) (v := Value.long y48) (ty := FieldType.long) (C := RX5) (T := TX5) (N := 5) hx hb hts iw_X5_need_X5 tyX5 tyX5_ok nmX5 hown hK hP hD hS 0 rfl rfl 3 (by decide) (hts _ kk_X5_need_0) (fun _ h9 => h9) rfl (by decide +kernel) rfl rfl (Nat.le_of_ble_eq_true rfl) dX5_need_89 (fun H locs hP hD hS => ?_)
              have hP : va_P (dC, dI) vwCl [(o, Sum.inr (5, [Value.long v_lowUpper, Value.long v_lowLower, Value.long y47, Value.long y48, Value.int v_isBroken]))] H := hP
              have hD : va_D A [(o, Sum.inr (5, [Value.long v_lowUpper, Value.long v_lowLower, Value.long y47, Value.long y48, Value.int v_isBroken]))] := hD
              have hP9 := hP.sub (ws' := [(o, Sum.inr (5, [Value.long v_lowUpper, Value.long v_lowLower, Value.long y47, Value.long y48, Value.int v_isBroken]))]) [0] rfl
              have hD9 := hD.sub (ws' := [(o, Sum.inr (5, [Value.long v_lowUpper, Value.long v_lowLower, Value.long y47, Value.long y48, Value.int v_isBroken]))]) [0] (by decide) rfl
              exact W.vret hx hb hr (fun t ht hW => ⟨⟨(), rfl, trivial, v_lowUpper, v_lowLower, y47, y48, v_isBroken, hv_lowUpper, hv_lowLower, (hy47.w (by decide) (by decide)), (hy48.w (by decide) (by decide)), hv_isBroken, (by unfold ndL; omega), (by unfold ndC; omega), (by omega), by rw [ht]; exact hP9, hD9⟩, hS.F ht⟩) hS.2.2 dX5_need_92
            · skip
              have c469 := lc_ne c46
              have c468 := l_ne c469
              refine lv_lload_n hx hb dX5_need_64 rfl (lv_at hl 2 rfl) ?_
              refine lv_aload_n hx hb dX5_need_65 rfl (lv_at hl 0 rfl) ?_
              refine va_get (D := (dC, dI)) (ci := 5) (v := Value.long v_capLower) (C := RX5) (T := TX5) (N := 5) hx hb hts iw_X5_need_X5 hown hK hP 0 rfl rfl 3 (by decide) (hts _ kk_X5_need_0) (fun _ h9 => h9) rfl dX5_need_66 ?_
              refine lv_lmul hx hb dX5_need_69 ?_
              refine lv_topl (fun y49 ey49 => ?_)
              have hy49 : jv y49 (-16000000000) 16000000000 := jv.mula (B := 10000000) (D := 1600) ey49 hp1 hv_capLower (by decide) (by decide) (by decide) (by decide) (by decide) (by decide)
              have ty49 : y49.toInt = p1.toInt * v_capLower.toInt := i64_ml ey49 (show jv p1 (-10000000) 10000000 from (hp1.w (by decide) (by decide))).1 (show jv p1 (-10000000) 10000000 from (hp1.w (by decide) (by decide))).2 (show jv v_capLower (-10000000) 10000000 from (hv_capLower.w (by decide) (by decide))).1 (show jv v_capLower (-10000000) 10000000 from (hv_capLower.w (by decide) (by decide))).2
              refine lv_aload_n hx hb dX5_need_70 rfl (lv_at hl 0 rfl) ?_
              refine va_get (D := (dC, dI)) (ci := 5) (v := Value.long v_capUpper) (C := RX5) (T := TX5) (N := 5) hx hb hts iw_X5_need_X5 hown hK hP 0 rfl rfl 2 (by decide) (hts _ kk_X5_need_1) (fun _ h9 => h9) rfl dX5_need_71 ?_
              refine lv_lload_n hx hb dX5_need_74 rfl (lv_at hl 1 rfl) ?_
              refine lv_lmul hx hb dX5_need_75 ?_
              refine lv_topl (fun y50 ey50 => ?_)
              have hy50 : jv y50 (-10000000) 10000000 := jv.mula (B := 10000000) (D := 1) ey50 hv_capUpper hp0 (by decide) (by decide) (by decide) (by decide) (by decide) (by decide)
              have ty50 : y50.toInt = v_capUpper.toInt * p0.toInt := i64_ml ey50 (show jv v_capUpper (-10000000) 10000000 from hv_capUpper).1 (show jv v_capUpper (-10000000) 10000000 from hv_capUpper).2 (show jv p0 (-10000000) 10000000 from (hp0.w (by decide) (by decide))).1 (show jv p0 (-10000000) 10000000 from (hp0.w (by decide) (by decide))).2
              refine W.lcmp hx hb dX5_need_76 ?_
              refine lv_if_le (tgt := 92) hx hb dX5_need_77 (by decide) (fun c51 => ?_) (fun c51 => ?_)
              · skip
                have c519 := lc_le c51
                have c518 := l_le c519
                have hP9 := hP.sub (ws' := [(o, Sum.inr (5, [Value.long v_lowUpper, Value.long v_lowLower, Value.long v_capUpper, Value.long v_capLower, Value.int v_isBroken]))]) [0] rfl
                have hD9 := hD.sub (ws' := [(o, Sum.inr (5, [Value.long v_lowUpper, Value.long v_lowLower, Value.long v_capUpper, Value.long v_capLower, Value.int v_isBroken]))]) [0] (by decide) rfl
                exact W.vret hx hb hr (fun t ht hW => ⟨⟨(), rfl, trivial, v_lowUpper, v_lowLower, v_capUpper, v_capLower, v_isBroken, hv_lowUpper, hv_lowLower, hv_capUpper, hv_capLower, hv_isBroken, (by unfold ndL; omega), (by unfold ndC; omega), (by omega), by rw [ht]; exact hP9, hD9⟩, hS.F ht⟩) hS.2.2 dX5_need_92
              · skip
                have c519 := lc_nle c51
                have c518 := l_lt c519
                refine lv_aload_n hx hb dX5_need_80 rfl (lv_at hl 0 rfl) ?_
                refine lv_lload_n hx hb dX5_need_81 rfl (lv_at hl 2 rfl) ?_
                refine lv_lneg hx hb dX5_need_82 ?_
                refine lv_topl (fun y52 ey52 => ?_)
                have hy52 : jv y52 0 10000000 := jv.neg ey52 hp1 (by decide) (by decide) (by decide) (by decide)
                have ty52 : y52.toInt = -p1.toInt := l_neg ey52 (show jv p1 (-10000000) 10000000 from (hp1.w (by decide) (by decide))).1
                refine va_put (D := (dC, dI)) (ci := 5) (v := Value.long y52) (ty := FieldType.long) (C := RX5) (T := TX5) (N := 5) hx hb hts iw_X5_need_X5 tyX5 tyX5_ok nmX5 hown hK hP hD hS 0 rfl rfl 2 (by decide) (hts _ kk_X5_need_1) (fun _ h9 => h9) rfl (by decide +kernel) rfl rfl (Nat.le_of_ble_eq_true rfl) dX5_need_83 (fun H locs hP hD hS => ?_)
                have hP : va_P (dC, dI) vwCl [(o, Sum.inr (5, [Value.long v_lowUpper, Value.long v_lowLower, Value.long y52, Value.long v_capLower, Value.int v_isBroken]))] H := hP
                have hD : va_D A [(o, Sum.inr (5, [Value.long v_lowUpper, Value.long v_lowLower, Value.long y52, Value.long v_capLower, Value.int v_isBroken]))] := hD
                refine lv_aload_n hx hb dX5_need_86 rfl (lv_at hl 0 rfl) ?_
                refine lv_lload_n hx hb dX5_need_87 rfl (lv_at hl 1 rfl) ?_
                refine lv_lneg hx hb dX5_need_88 ?_
                refine lv_topl (fun y53 ey53 => ?_)
                have hy53 : jv y53 1 (-1) := jv.neg ey53 hp0 (by decide) (by decide) (by decide) (by decide)
                have ty53 : y53.toInt = -p0.toInt := l_neg ey53 (show jv p0 (-10000000) 10000000 from (hp0.w (by decide) (by decide))).1
                refine va_put (D := (dC, dI)) (ci := 5) (v := Value.long y53) (ty := FieldType.long) (C := RX5) (T := TX5) (N := 5) hx hb hts iw_X5_need_X5 tyX5 tyX5_ok nmX5 hown hK hP hD hS 0 rfl rfl 3 (by decide) (hts _ kk_X5_need_0) (fun _ h9 => h9) rfl (by decide +kernel) rfl rfl (Nat.le_of_ble_eq_true rfl) dX5_need_89 (fun H locs hP hD hS => ?_)
                have hP : va_P (dC, dI) vwCl [(o, Sum.inr (5, [Value.long v_lowUpper, Value.long v_lowLower, Value.long y52, Value.long y53, Value.int v_isBroken]))] H := hP
                have hD : va_D A [(o, Sum.inr (5, [Value.long v_lowUpper, Value.long v_lowLower, Value.long y52, Value.long y53, Value.int v_isBroken]))] := hD
                have hP9 := hP.sub (ws' := [(o, Sum.inr (5, [Value.long v_lowUpper, Value.long v_lowLower, Value.long y52, Value.long y53, Value.int v_isBroken]))]) [0] rfl
                have hD9 := hD.sub (ws' := [(o, Sum.inr (5, [Value.long v_lowUpper, Value.long v_lowLower, Value.long y52, Value.long y53, Value.int v_isBroken]))]) [0] (by decide) rfl
                exact W.vret hx hb hr (fun t ht hW => ⟨⟨(), rfl, trivial, v_lowUpper, v_lowLower, y52, y53, v_isBroken, hv_lowUpper, hv_lowLower, (hy52.w (by decide) (by decide)), (hy53.w (by decide) (by decide)), hv_isBroken, (by unfold ndL; omega), (by unfold ndC; omega), (by omega), by rw [ht]; exact hP9, hD9⟩, hS.F ht⟩) hS.2.2 dX5_need_92
        · skip
          have c449 := lc_nle c44
          have bp1 := hp1.u
          have dp1 := i64_lt c449 (show (0 : Int64).toInt = 0 by decide) rfl
          have hp1 : jv p1 1 10000000 := jv.m (by omega)
          have c448 := l_lt c449
          refine lv_aload_n hx hb dX5_need_44 rfl (lv_at hl 0 rfl) ?_
          refine lv_iconst (v := 1) hx hb dX5_need_45 (by decide) ?_
          refine va_put (D := (dC, dI)) (ci := 5) (v := Value.int 1) (ty := FieldType.boolean) (C := RX5) (T := TX5) (N := 5) hx hb hts iw_X5_need_X5 tyX5 tyX5_ok nmX5 hown hK hP hD hS 0 rfl rfl 4 (by decide) (hts _ kk_X5_need_2) (fun _ h9 => h9) rfl (by decide +kernel) rfl rfl (Nat.le_of_ble_eq_true rfl) dX5_need_46 (fun H locs hP hD hS => ?_)
          have hP : va_P (dC, dI) vwCl [(o, Sum.inr (5, [Value.long v_lowUpper, Value.long v_lowLower, Value.long v_capUpper, Value.long v_capLower, Value.int 1]))] H := hP
          have hD : va_D A [(o, Sum.inr (5, [Value.long v_lowUpper, Value.long v_lowLower, Value.long v_capUpper, Value.long v_capLower, Value.int 1]))] := hD
          refine lv_lload_n hx hb dX5_need_49 rfl (lv_at hl 1 rfl) ?_
          refine lv_lconst (v := 0) hx hb dX5_need_50 (by decide) ?_
          refine W.lcmp hx hb dX5_need_51 ?_
          refine lv_if_ge (tgt := 92) hx hb dX5_need_52 (by decide) (fun c54 => ?_) (fun c54 => ?_)
          · skip
            have c549 := lc_ge c54
            have c548 := l_le c549
            have hP9 := hP.sub (ws' := [(o, Sum.inr (5, [Value.long v_lowUpper, Value.long v_lowLower, Value.long v_capUpper, Value.long v_capLower, Value.int 1]))]) [0] rfl
            have hD9 := hD.sub (ws' := [(o, Sum.inr (5, [Value.long v_lowUpper, Value.long v_lowLower, Value.long v_capUpper, Value.long v_capLower, Value.int 1]))]) [0] (by decide) rfl
            exact W.vret hx hb hr (fun t ht hW => ⟨⟨(), rfl, trivial, v_lowUpper, v_lowLower, v_capUpper, v_capLower, 1, hv_lowUpper, hv_lowLower, hv_capUpper, hv_capLower, (iv.m (by decide)), (by unfold ndL; omega), (by unfold ndC; omega), (by omega), by rw [ht]; exact hP9, hD9⟩, hS.F ht⟩) hS.2.2 dX5_need_92
          · skip
            have c549 := lc_nge c54
            have bp0 := hp0.u
            have dp0 := i64_lt c549 rfl (show (0 : Int64).toInt = 0 by decide)
            have hp0 : jv p0 1 (-1) := jv.m (by omega)
            have c548 := l_lt c549
            refine lv_aload_n hx hb dX5_need_55 rfl (lv_at hl 0 rfl) ?_
            refine va_get (D := (dC, dI)) (ci := 5) (v := Value.long v_capLower) (C := RX5) (T := TX5) (N := 5) hx hb hts iw_X5_need_X5 hown hK hP 0 rfl rfl 3 (by decide) (hts _ kk_X5_need_0) (fun _ h9 => h9) rfl dX5_need_56 ?_
            refine lv_lconst (v := 0) hx hb dX5_need_59 (by decide) ?_
            refine W.lcmp hx hb dX5_need_60 ?_
            refine lv_if_eq (tgt := 80) hx hb dX5_need_61 (by decide) (fun c55 => ?_) (fun c55 => ?_)
            · skip
              have c559 := lc_eq c55
              have c558 := l_eq c559
              refine lv_aload_n hx hb dX5_need_80 rfl (lv_at hl 0 rfl) ?_
              refine lv_lload_n hx hb dX5_need_81 rfl (lv_at hl 2 rfl) ?_
              refine lv_lneg hx hb dX5_need_82 ?_
              refine lv_topl (fun y56 ey56 => ?_)
              have hy56 : jv y56 (-10000000) (-1) := jv.neg ey56 hp1 (by decide) (by decide) (by decide) (by decide)
              have ty56 : y56.toInt = -p1.toInt := l_neg ey56 (show jv p1 (-10000000) 10000000 from (hp1.w (by decide) (by decide))).1
              refine va_put (D := (dC, dI)) (ci := 5) (v := Value.long y56) (ty := FieldType.long) (C := RX5) (T := TX5) (N := 5) hx hb hts iw_X5_need_X5 tyX5 tyX5_ok nmX5 hown hK hP hD hS 0 rfl rfl 2 (by decide) (hts _ kk_X5_need_1) (fun _ h9 => h9) rfl (by decide +kernel) rfl rfl (Nat.le_of_ble_eq_true rfl) dX5_need_83 (fun H locs hP hD hS => ?_)
              have hP : va_P (dC, dI) vwCl [(o, Sum.inr (5, [Value.long v_lowUpper, Value.long v_lowLower, Value.long y56, Value.long v_capLower, Value.int 1]))] H := hP
              have hD : va_D A [(o, Sum.inr (5, [Value.long v_lowUpper, Value.long v_lowLower, Value.long y56, Value.long v_capLower, Value.int 1]))] := hD
              refine lv_aload_n hx hb dX5_need_86 rfl (lv_at hl 0 rfl) ?_
              refine lv_lload_n hx hb dX5_need_87 rfl (lv_at hl 1 rfl) ?_
              refine lv_lneg hx hb dX5_need_88 ?_
              refine lv_topl (fun y57 ey57 => ?_)
              have hy57 : jv y57 1 (-1) := jv.neg ey57 hp0 (by decide) (by decide) (by decide) (by decide)
              have ty57 : y57.toInt = -p0.toInt := l_neg ey57 (show jv p0 (-10000000) 10000000 from (hp0.w (by decide) (by decide))).1
              refine va_put (D := (dC, dI)) (ci := 5) (v := Value.long y57) (ty := FieldType.long) (C := RX5) (T := TX5) (N := 5) hx hb hts iw_X5_need_X5 tyX5 tyX5_ok nmX5 hown hK hP hD hS 0 rfl rfl 3 (by decide) (hts _ kk_X5_need_0) (fun _ h9 => h9) rfl (by decide +kernel) rfl rfl (Nat.le_of_ble_eq_true rfl) dX5_need_89 (fun H locs hP hD hS => ?_)
              have hP : va_P (dC, dI) vwCl [(o, Sum.inr (5, [Value.long v_lowUpper, Value.long v_lowLower, Value.long y56, Value.long y57, Value.int 1]))] H := hP
              have hD : va_D A [(o, Sum.inr (5, [Value.long v_lowUpper, Value.long v_lowLower, Value.long y56, Value.long y57, Value.int 1]))] := hD
              have hP9 := hP.sub (ws' := [(o, Sum.inr (5, [Value.long v_lowUpper, Value.long v_lowLower, Value.long y56, Value.long y57, Value.int 1]))]) [0] rfl
              have hD9 := hD.sub (ws' := [(o, Sum.inr (5, [Value.long v_lowUpper, Value.long v_lowLower, Value.long y56, Value.long y57, Value.int 1]))]) [0] (by decide) rfl
              exact W.vret hx hb hr (fun t ht hW => ⟨⟨(), rfl, trivial, v_lowUpper, v_lowLower, y56, y57, 1, hv_lowUpper, hv_lowLower, (hy56.w (by decide) (by decide)), (hy57.w (by decide) (by decide)), (iv.m (by decide)), (by unfold ndL; omega), (by unfold ndC; omega), (by omega), by rw [ht]; exact hP9, hD9⟩, hS.F ht⟩) hS.2.2 dX5_need_92
            · skip
              have c559 := lc_ne c55
              have c558 := l_ne c559
              refine lv_lload_n hx hb dX5_need_64 rfl (lv_at hl 2 rfl) ?_
              refine lv_aload_n hx hb dX5_need_65 rfl (lv_at hl 0 rfl) ?_
              refine va_get (D := (dC, dI)) (ci := 5) (v := Value.long v_capLower) (C := RX5) (T := TX5) (N := 5) hx hb hts iw_X5_need_X5 hown hK hP 0 rfl rfl 3 (by decide) (hts _ kk_X5_need_0) (fun _ h9 => h9) rfl dX5_need_66 ?_
              refine lv_lmul hx hb dX5_need_69 ?_
              refine lv_topl (fun y58 ey58 => ?_)
              have hy58 : jv y58 0 16000000000 := jv.mulp ey58 hp1 hv_capLower (by decide) (by decide) (by decide) (by decide) (by decide)
              have ty58 : y58.toInt = p1.toInt * v_capLower.toInt := i64_ml ey58 (show jv p1 (-10000000) 10000000 from (hp1.w (by decide) (by decide))).1 (show jv p1 (-10000000) 10000000 from (hp1.w (by decide) (by decide))).2 (show jv v_capLower (-10000000) 10000000 from (hv_capLower.w (by decide) (by decide))).1 (show jv v_capLower (-10000000) 10000000 from (hv_capLower.w (by decide) (by decide))).2
              refine lv_aload_n hx hb dX5_need_70 rfl (lv_at hl 0 rfl) ?_
              refine va_get (D := (dC, dI)) (ci := 5) (v := Value.long v_capUpper) (C := RX5) (T := TX5) (N := 5) hx hb hts iw_X5_need_X5 hown hK hP 0 rfl rfl 2 (by decide) (hts _ kk_X5_need_1) (fun _ h9 => h9) rfl dX5_need_71 ?_
              refine lv_lload_n hx hb dX5_need_74 rfl (lv_at hl 1 rfl) ?_
              refine lv_lmul hx hb dX5_need_75 ?_
              refine lv_topl (fun y59 ey59 => ?_)
              have hy59 : jv y59 (-10000000) 10000000 := jv.mula (B := 10000000) (D := 1) ey59 hv_capUpper hp0 (by decide) (by decide) (by decide) (by decide) (by decide) (by decide)
              have ty59 : y59.toInt = v_capUpper.toInt * p0.toInt := i64_ml ey59 (show jv v_capUpper (-10000000) 10000000 from hv_capUpper).1 (show jv v_capUpper (-10000000) 10000000 from hv_capUpper).2 (show jv p0 (-10000000) 10000000 from (hp0.w (by decide) (by decide))).1 (show jv p0 (-10000000) 10000000 from (hp0.w (by decide) (by decide))).2
              refine W.lcmp hx hb dX5_need_76 ?_
              refine lv_if_le (tgt := 92) hx hb dX5_need_77 (by decide) (fun c60 => ?_) (fun c60 => ?_)
              · skip
                have c609 := lc_le c60
                have c608 := l_le c609
                have hP9 := hP.sub (ws' := [(o, Sum.inr (5, [Value.long v_lowUpper, Value.long v_lowLower, Value.long v_capUpper, Value.long v_capLower, Value.int 1]))]) [0] rfl
                have hD9 := hD.sub (ws' := [(o, Sum.inr (5, [Value.long v_lowUpper, Value.long v_lowLower, Value.long v_capUpper, Value.long v_capLower, Value.int 1]))]) [0] (by decide) rfl
                exact W.vret hx hb hr (fun t ht hW => ⟨⟨(), rfl, trivial, v_lowUpper, v_lowLower, v_capUpper, v_capLower, 1, hv_lowUpper, hv_lowLower, hv_capUpper, hv_capLower, (iv.m (by decide)), (by unfold ndL; omega), (by unfold ndC; omega), (by omega), by rw [ht]; exact hP9, hD9⟩, hS.F ht⟩) hS.2.2 dX5_need_92
              · skip
                have c609 := lc_nle c60
                have c608 := l_lt c609
                refine lv_aload_n hx hb dX5_need_80 rfl (lv_at hl 0 rfl) ?_
                refine lv_lload_n hx hb dX5_need_81 rfl (lv_at hl 2 rfl) ?_
                refine lv_lneg hx hb dX5_need_82 ?_
                refine lv_topl (fun y61 ey61 => ?_)
                have hy61 : jv y61 (-10000000) (-1) := jv.neg ey61 hp1 (by decide) (by decide) (by decide) (by decide)
                have ty61 : y61.toInt = -p1.toInt := l_neg ey61 (show jv p1 (-10000000) 10000000 from (hp1.w (by decide) (by decide))).1
                refine va_put (D := (dC, dI)) (ci := 5) (v := Value.long y61) (ty := FieldType.long) (C := RX5) (T := TX5) (N := 5) hx hb hts iw_X5_need_X5 tyX5 tyX5_ok nmX5 hown hK hP hD hS 0 rfl rfl 2 (by decide) (hts _ kk_X5_need_1) (fun _ h9 => h9) rfl (by decide +kernel) rfl rfl (Nat.le_of_ble_eq_true rfl) dX5_need_83 (fun H locs hP hD hS => ?_)
                have hP : va_P (dC, dI) vwCl [(o, Sum.inr (5, [Value.long v_lowUpper, Value.long v_lowLower, Value.long y61, Value.long v_capLower, Value.int 1]))] H := hP
                have hD : va_D A [(o, Sum.inr (5, [Value.long v_lowUpper, Value.long v_lowLower, Value.long y61, Value.long v_capLower, Value.int 1]))] := hD
                refine lv_aload_n hx hb dX5_need_86 rfl (lv_at hl 0 rfl) ?_
                refine lv_lload_n hx hb dX5_need_87 rfl (lv_at hl 1 rfl) ?_
                refine lv_lneg hx hb dX5_need_88 ?_
                refine lv_topl (fun y62 ey62 => ?_)
                have hy62 : jv y62 1 (-1) := jv.neg ey62 hp0 (by decide) (by decide) (by decide) (by decide)
                have ty62 : y62.toInt = -p0.toInt := l_neg ey62 (show jv p0 (-10000000) 10000000 from (hp0.w (by decide) (by decide))).1
                refine va_put (D := (dC, dI)) (ci := 5) (v := Value.long y62) (ty := FieldType.long) (C := RX5) (T := TX5) (N := 5) hx hb hts iw_X5_need_X5 tyX5 tyX5_ok nmX5 hown hK hP hD hS 0 rfl rfl 3 (by decide) (hts _ kk_X5_need_0) (fun _ h9 => h9) rfl (by decide +kernel) rfl rfl (Nat.le_of_ble_eq_true rfl) dX5_need_89 (fun H locs hP hD hS => ?_)
                have hP : va_P (dC, dI) vwCl [(o, Sum.inr (5, [Value.long v_lowUpper, Value.long v_lowLower, Value.long y61, Value.long y62, Value.int 1]))] H := hP
                have hD : va_D A [(o, Sum.inr (5, [Value.long v_lowUpper, Value.long v_lowLower, Value.long y61, Value.long y62, Value.int 1]))] := hD
                have hP9 := hP.sub (ws' := [(o, Sum.inr (5, [Value.long v_lowUpper, Value.long v_lowLower, Value.long y61, Value.long y62, Value.int 1]))]) [0] rfl
                have hD9 := hD.sub (ws' := [(o, Sum.inr (5, [Value.long v_lowUpper, Value.long v_lowLower, Value.long y61, Value.long y62, Value.int 1]))]) [0] (by decide) rfl
                exact W.vret hx hb hr (fun t ht hW => ⟨⟨(), rfl, trivial, v_lowUpper, v_lowLower, y61, y62, 1, hv_lowUpper, hv_lowLower, (hy61.w (by decide) (by decide)), (hy62.w (by decide) (by decide)), (iv.m (by decide)), (by unfold ndL; omega), (by unfold ndC; omega), (by omega), by rw [ht]; exact hP9, hD9⟩, hS.F ht⟩) hS.2.2 dX5_need_92
    · skip
      have c339 := lc_nle c33
      have c338 := l_lt c339
      refine lv_aload_n hx hb dX5_need_22 rfl (lv_at hl 0 rfl) ?_
      refine lv_lload_n hx hb dX5_need_23 rfl (lv_at hl 2 rfl) ?_
      refine va_put (D := (dC, dI)) (ci := 5) (v := Value.long p1) (ty := FieldType.long) (C := RX5) (T := TX5) (N := 5) hx hb hts iw_X5_need_X5 tyX5 tyX5_ok nmX5 hown hK hP hD hS 0 rfl rfl 0 (by decide) (hts _ kk_X5_need_4) (fun _ h9 => h9) rfl (by decide +kernel) rfl rfl (Nat.le_of_ble_eq_true rfl) dX5_need_24 (fun H locs hP hD hS => ?_)
      have hP : va_P (dC, dI) vwCl [(o, Sum.inr (5, [Value.long p1, Value.long v_lowLower, Value.long v_capUpper, Value.long v_capLower, Value.int v_isBroken]))] H := hP
      have hD : va_D A [(o, Sum.inr (5, [Value.long p1, Value.long v_lowLower, Value.long v_capUpper, Value.long v_capLower, Value.int v_isBroken]))] := hD
      refine lv_aload_n hx hb dX5_need_27 rfl (lv_at hl 0 rfl) ?_
      refine lv_lload_n hx hb dX5_need_28 rfl (lv_at hl 1 rfl) ?_
      refine va_put (D := (dC, dI)) (ci := 5) (v := Value.long p0) (ty := FieldType.long) (C := RX5) (T := TX5) (N := 5) hx hb hts iw_X5_need_X5 tyX5 tyX5_ok nmX5 hown hK hP hD hS 0 rfl rfl 1 (by decide) (hts _ kk_X5_need_3) (fun _ h9 => h9) rfl (by decide +kernel) rfl rfl (Nat.le_of_ble_eq_true rfl) dX5_need_29 (fun H locs hP hD hS => ?_)
      have hP : va_P (dC, dI) vwCl [(o, Sum.inr (5, [Value.long p1, Value.long p0, Value.long v_capUpper, Value.long v_capLower, Value.int v_isBroken]))] H := hP
      have hD : va_D A [(o, Sum.inr (5, [Value.long p1, Value.long p0, Value.long v_capUpper, Value.long v_capLower, Value.int v_isBroken]))] := hD
      refine lv_lload_n hx hb dX5_need_32 rfl (lv_at hl 1 rfl) ?_
      refine lv_lconst (v := 0) hx hb dX5_need_33 (by decide) ?_
      refine W.lcmp hx hb dX5_need_34 ?_
      refine lv_if_ne (tgt := 49) hx hb dX5_need_35 (by decide) (fun c63 => ?_) (fun c63 => ?_)
      · skip
        have c639 := lc_ne c63
        have c638 := l_ne c639
        refine lv_lload_n hx hb dX5_need_49 rfl (lv_at hl 1 rfl) ?_
        refine lv_lconst (v := 0) hx hb dX5_need_50 (by decide) ?_
        refine W.lcmp hx hb dX5_need_51 ?_
        refine lv_if_ge (tgt := 92) hx hb dX5_need_52 (by decide) (fun c64 => ?_) (fun c64 => ?_)
        · skip
          have c649 := lc_ge c64
          have c648 := l_le c649
          have hP9 := hP.sub (ws' := [(o, Sum.inr (5, [Value.long p1, Value.long p0, Value.long v_capUpper, Value.long v_capLower, Value.int v_isBroken]))]) [0] rfl
          have hD9 := hD.sub (ws' := [(o, Sum.inr (5, [Value.long p1, Value.long p0, Value.long v_capUpper, Value.long v_capLower, Value.int v_isBroken]))]) [0] (by decide) rfl
          exact W.vret hx hb hr (fun t ht hW => ⟨⟨(), rfl, trivial, p1, p0, v_capUpper, v_capLower, v_isBroken, hp1, hp0, hv_capUpper, hv_capLower, hv_isBroken, (by unfold ndL; omega), (by unfold ndC; omega), (by omega), by rw [ht]; exact hP9, hD9⟩, hS.F ht⟩) hS.2.2 dX5_need_92
        · skip
          have c649 := lc_nge c64
          have bp0 := hp0.u
          have dp0 := i64_lt c649 rfl (show (0 : Int64).toInt = 0 by decide)
          have hp0 : jv p0 1 (-1) := jv.m (by omega)
          have c648 := l_lt c649
          refine lv_aload_n hx hb dX5_need_55 rfl (lv_at hl 0 rfl) ?_
          refine va_get (D := (dC, dI)) (ci := 5) (v := Value.long v_capLower) (C := RX5) (T := TX5) (N := 5) hx hb hts iw_X5_need_X5 hown hK hP 0 rfl rfl 3 (by decide) (hts _ kk_X5_need_0) (fun _ h9 => h9) rfl dX5_need_56 ?_
          refine lv_lconst (v := 0) hx hb dX5_need_59 (by decide) ?_
          refine W.lcmp hx hb dX5_need_60 ?_
          refine lv_if_eq (tgt := 80) hx hb dX5_need_61 (by decide) (fun c65 => ?_) (fun c65 => ?_)
          · skip
            have c659 := lc_eq c65
            have c658 := l_eq c659
            refine lv_aload_n hx hb dX5_need_80 rfl (lv_at hl 0 rfl) ?_
            refine lv_lload_n hx hb dX5_need_81 rfl (lv_at hl 2 rfl) ?_
            refine lv_lneg hx hb dX5_need_82 ?_
            refine lv_topl (fun y66 ey66 => ?_)
            have hy66 : jv y66 (-10000000) 10000000 := jv.neg ey66 hp1 (by decide) (by decide) (by decide) (by decide)
            have ty66 : y66.toInt = -p1.toInt := l_neg ey66 (show jv p1 (-10000000) 10000000 from hp1).1
            refine va_put (D := (dC, dI)) (ci := 5) (v := Value.long y66) (ty := FieldType.long) (C := RX5) (T := TX5) (N := 5) hx hb hts iw_X5_need_X5 tyX5 tyX5_ok nmX5 hown hK hP hD hS 0 rfl rfl 2 (by decide) (hts _ kk_X5_need_1) (fun _ h9 => h9) rfl (by decide +kernel) rfl rfl (Nat.le_of_ble_eq_true rfl) dX5_need_83 (fun H locs hP hD hS => ?_)
            have hP : va_P (dC, dI) vwCl [(o, Sum.inr (5, [Value.long p1, Value.long p0, Value.long y66, Value.long v_capLower, Value.int v_isBroken]))] H := hP
            have hD : va_D A [(o, Sum.inr (5, [Value.long p1, Value.long p0, Value.long y66, Value.long v_capLower, Value.int v_isBroken]))] := hD
            refine lv_aload_n hx hb dX5_need_86 rfl (lv_at hl 0 rfl) ?_
            refine lv_lload_n hx hb dX5_need_87 rfl (lv_at hl 1 rfl) ?_
            refine lv_lneg hx hb dX5_need_88 ?_
            refine lv_topl (fun y67 ey67 => ?_)
            have hy67 : jv y67 1 (-1) := jv.neg ey67 hp0 (by decide) (by decide) (by decide) (by decide)
            have ty67 : y67.toInt = -p0.toInt := l_neg ey67 (show jv p0 (-10000000) 10000000 from (hp0.w (by decide) (by decide))).1
            refine va_put (D := (dC, dI)) (ci := 5) (v := Value.long y67) (ty := FieldType.long) (C := RX5) (T := TX5) (N := 5) hx hb hts iw_X5_need_X5 tyX5 tyX5_ok nmX5 hown hK hP hD hS 0 rfl rfl 3 (by decide) (hts _ kk_X5_need_0) (fun _ h9 => h9) rfl (by decide +kernel) rfl rfl (Nat.le_of_ble_eq_true rfl) dX5_need_89 (fun H locs hP hD hS => ?_)
            have hP : va_P (dC, dI) vwCl [(o, Sum.inr (5, [Value.long p1, Value.long p0, Value.long y66, Value.long y67, Value.int v_isBroken]))] H := hP
            have hD : va_D A [(o, Sum.inr (5, [Value.long p1, Value.long p0, Value.long y66, Value.long y67, Value.int v_isBroken]))] := hD
            have hP9 := hP.sub (ws' := [(o, Sum.inr (5, [Value.long p1, Value.long p0, Value.long y66, Value.long y67, Value.int v_isBroken]))]) [0] rfl
            have hD9 := hD.sub (ws' := [(o, Sum.inr (5, [Value.long p1, Value.long p0, Value.long y66, Value.long y67, Value.int v_isBroken]))]) [0] (by decide) rfl
            exact W.vret hx hb hr (fun t ht hW => ⟨⟨(), rfl, trivial, p1, p0, y66, y67, v_isBroken, hp1, (hp0.w (by decide) (by decide)), hy66, (hy67.w (by decide) (by decide)), hv_isBroken, (by unfold ndL; omega), (by unfold ndC; omega), (by omega), by rw [ht]; exact hP9, hD9⟩, hS.F ht⟩) hS.2.2 dX5_need_92
          · skip
            have c659 := lc_ne c65
            have c658 := l_ne c659
            refine lv_lload_n hx hb dX5_need_64 rfl (lv_at hl 2 rfl) ?_
            refine lv_aload_n hx hb dX5_need_65 rfl (lv_at hl 0 rfl) ?_
            refine va_get (D := (dC, dI)) (ci := 5) (v := Value.long v_capLower) (C := RX5) (T := TX5) (N := 5) hx hb hts iw_X5_need_X5 hown hK hP 0 rfl rfl 3 (by decide) (hts _ kk_X5_need_0) (fun _ h9 => h9) rfl dX5_need_66 ?_
            refine lv_lmul hx hb dX5_need_69 ?_
            refine lv_topl (fun y68 ey68 => ?_)
            have hy68 : jv y68 (-16000000000) 16000000000 := jv.mula (B := 10000000) (D := 1600) ey68 hp1 hv_capLower (by decide) (by decide) (by decide) (by decide) (by decide) (by decide)
            have ty68 : y68.toInt = p1.toInt * v_capLower.toInt := i64_ml ey68 (show jv p1 (-10000000) 10000000 from hp1).1 (show jv p1 (-10000000) 10000000 from hp1).2 (show jv v_capLower (-10000000) 10000000 from (hv_capLower.w (by decide) (by decide))).1 (show jv v_capLower (-10000000) 10000000 from (hv_capLower.w (by decide) (by decide))).2
            refine lv_aload_n hx hb dX5_need_70 rfl (lv_at hl 0 rfl) ?_
            refine va_get (D := (dC, dI)) (ci := 5) (v := Value.long v_capUpper) (C := RX5) (T := TX5) (N := 5) hx hb hts iw_X5_need_X5 hown hK hP 0 rfl rfl 2 (by decide) (hts _ kk_X5_need_1) (fun _ h9 => h9) rfl dX5_need_71 ?_
            refine lv_lload_n hx hb dX5_need_74 rfl (lv_at hl 1 rfl) ?_
            refine lv_lmul hx hb dX5_need_75 ?_
            refine lv_topl (fun y69 ey69 => ?_)
            have hy69 : jv y69 (-10000000) 10000000 := jv.mula (B := 10000000) (D := 1) ey69 hv_capUpper hp0 (by decide) (by decide) (by decide) (by decide) (by decide) (by decide)
            have ty69 : y69.toInt = v_capUpper.toInt * p0.toInt := i64_ml ey69 (show jv v_capUpper (-10000000) 10000000 from hv_capUpper).1 (show jv v_capUpper (-10000000) 10000000 from hv_capUpper).2 (show jv p0 (-10000000) 10000000 from (hp0.w (by decide) (by decide))).1 (show jv p0 (-10000000) 10000000 from (hp0.w (by decide) (by decide))).2
            refine W.lcmp hx hb dX5_need_76 ?_
            refine lv_if_le (tgt := 92) hx hb dX5_need_77 (by decide) (fun c70 => ?_) (fun c70 => ?_)
            · skip
              have c709 := lc_le c70
              have c708 := l_le c709
              have hP9 := hP.sub (ws' := [(o, Sum.inr (5, [Value.long p1, Value.long p0, Value.long v_capUpper, Value.long v_capLower, Value.int v_isBroken]))]) [0] rfl
              have hD9 := hD.sub (ws' := [(o, Sum.inr (5, [Value.long p1, Value.long p0, Value.long v_capUpper, Value.long v_capLower, Value.int v_isBroken]))]) [0] (by decide) rfl
              exact W.vret hx hb hr (fun t ht hW => ⟨⟨(), rfl, trivial, p1, p0, v_capUpper, v_capLower, v_isBroken, hp1, (hp0.w (by decide) (by decide)), hv_capUpper, hv_capLower, hv_isBroken, (by unfold ndL; omega), (by unfold ndC; omega), (by omega), by rw [ht]; exact hP9, hD9⟩, hS.F ht⟩) hS.2.2 dX5_need_92
            · skip
              have c709 := lc_nle c70
              have c708 := l_lt c709
              refine lv_aload_n hx hb dX5_need_80 rfl (lv_at hl 0 rfl) ?_
              refine lv_lload_n hx hb dX5_need_81 rfl (lv_at hl 2 rfl) ?_
              refine lv_lneg hx hb dX5_need_82 ?_
              refine lv_topl (fun y71 ey71 => ?_)
              have hy71 : jv y71 (-10000000) 10000000 := jv.neg ey71 hp1 (by decide) (by decide) (by decide) (by decide)
              have ty71 : y71.toInt = -p1.toInt := l_neg ey71 (show jv p1 (-10000000) 10000000 from hp1).1
              refine va_put (D := (dC, dI)) (ci := 5) (v := Value.long y71) (ty := FieldType.long) (C := RX5) (T := TX5) (N := 5) hx hb hts iw_X5_need_X5 tyX5 tyX5_ok nmX5 hown hK hP hD hS 0 rfl rfl 2 (by decide) (hts _ kk_X5_need_1) (fun _ h9 => h9) rfl (by decide +kernel) rfl rfl (Nat.le_of_ble_eq_true rfl) dX5_need_83 (fun H locs hP hD hS => ?_)
              have hP : va_P (dC, dI) vwCl [(o, Sum.inr (5, [Value.long p1, Value.long p0, Value.long y71, Value.long v_capLower, Value.int v_isBroken]))] H := hP
              have hD : va_D A [(o, Sum.inr (5, [Value.long p1, Value.long p0, Value.long y71, Value.long v_capLower, Value.int v_isBroken]))] := hD
              refine lv_aload_n hx hb dX5_need_86 rfl (lv_at hl 0 rfl) ?_
              refine lv_lload_n hx hb dX5_need_87 rfl (lv_at hl 1 rfl) ?_
              refine lv_lneg hx hb dX5_need_88 ?_
              refine lv_topl (fun y72 ey72 => ?_)
              have hy72 : jv y72 1 (-1) := jv.neg ey72 hp0 (by decide) (by decide) (by decide) (by decide)
              have ty72 : y72.toInt = -p0.toInt := l_neg ey72 (show jv p0 (-10000000) 10000000 from (hp0.w (by decide) (by decide))).1
              refine va_put (D := (dC, dI)) (ci := 5) (v := Value.long y72) (ty := FieldType.long) (C := RX5) (T := TX5) (N := 5) hx hb hts iw_X5_need_X5 tyX5 tyX5_ok nmX5 hown hK hP hD hS 0 rfl rfl 3 (by decide) (hts _ kk_X5_need_0) (fun _ h9 => h9) rfl (by decide +kernel) rfl rfl (Nat.le_of_ble_eq_true rfl) dX5_need_89 (fun H locs hP hD hS => ?_)
              have hP : va_P (dC, dI) vwCl [(o, Sum.inr (5, [Value.long p1, Value.long p0, Value.long y71, Value.long y72, Value.int v_isBroken]))] H := hP
              have hD : va_D A [(o, Sum.inr (5, [Value.long p1, Value.long p0, Value.long y71, Value.long y72, Value.int v_isBroken]))] := hD
              have hP9 := hP.sub (ws' := [(o, Sum.inr (5, [Value.long p1, Value.long p0, Value.long y71, Value.long y72, Value.int v_isBroken]))]) [0] rfl
              have hD9 := hD.sub (ws' := [(o, Sum.inr (5, [Value.long p1, Value.long p0, Value.long y71, Value.long y72, Value.int v_isBroken]))]) [0] (by decide) rfl
              exact W.vret hx hb hr (fun t ht hW => ⟨⟨(), rfl, trivial, p1, p0, y71, y72, v_isBroken, hp1, (hp0.w (by decide) (by decide)), hy71, (hy72.w (by decide) (by decide)), hv_isBroken, (by unfold ndL; omega), (by unfold ndC; omega), (by omega), by rw [ht]; exact hP9, hD9⟩, hS.F ht⟩) hS.2.2 dX5_need_92
      · skip
        have c639 := lc_eq c63
        have c638 := l_eq c639
        refine lv_lload_n hx hb dX5_need_38 rfl (lv_at hl 2 rfl) ?_
        refine lv_lconst (v := 0) hx hb dX5_need_39 (by decide) ?_
        refine W.lcmp hx hb dX5_need_40 ?_
        refine lv_if_le (tgt := 49) hx hb dX5_need_41 (by decide) (fun c73 => ?_) (fun c73 => ?_)
        · skip
          have c739 := lc_le c73
          have bp1 := hp1.u
          have dp1 := i64_le c739 rfl (show (0 : Int64).toInt = 0 by decide)
          have hp1 : jv p1 (-10000000) 0 := jv.m (by omega)
          have c738 := l_le c739
          refine lv_lload_n hx hb dX5_need_49 rfl (lv_at hl 1 rfl) ?_
          refine lv_lconst (v := 0) hx hb dX5_need_50 (by decide) ?_
          refine W.lcmp hx hb dX5_need_51 ?_
          refine lv_if_ge (tgt := 92) hx hb dX5_need_52 (by decide) (fun c74 => ?_) (fun c74 => ?_)
          · skip
            have c749 := lc_ge c74
            have c748 := l_le c749
            have hP9 := hP.sub (ws' := [(o, Sum.inr (5, [Value.long p1, Value.long p0, Value.long v_capUpper, Value.long v_capLower, Value.int v_isBroken]))]) [0] rfl
            have hD9 := hD.sub (ws' := [(o, Sum.inr (5, [Value.long p1, Value.long p0, Value.long v_capUpper, Value.long v_capLower, Value.int v_isBroken]))]) [0] (by decide) rfl
            exact W.vret hx hb hr (fun t ht hW => ⟨⟨(), rfl, trivial, p1, p0, v_capUpper, v_capLower, v_isBroken, (hp1.w (by decide) (by decide)), hp0, hv_capUpper, hv_capLower, hv_isBroken, (by unfold ndL; omega), (by unfold ndC; omega), (by omega), by rw [ht]; exact hP9, hD9⟩, hS.F ht⟩) hS.2.2 dX5_need_92
          · skip
            have c749 := lc_nge c74
            have bp0 := hp0.u
            have dp0 := i64_lt c749 rfl (show (0 : Int64).toInt = 0 by decide)
            have hp0 : jv p0 1 (-1) := jv.m (by omega)
            have c748 := l_lt c749
            refine lv_aload_n hx hb dX5_need_55 rfl (lv_at hl 0 rfl) ?_
            refine va_get (D := (dC, dI)) (ci := 5) (v := Value.long v_capLower) (C := RX5) (T := TX5) (N := 5) hx hb hts iw_X5_need_X5 hown hK hP 0 rfl rfl 3 (by decide) (hts _ kk_X5_need_0) (fun _ h9 => h9) rfl dX5_need_56 ?_
            refine lv_lconst (v := 0) hx hb dX5_need_59 (by decide) ?_
            refine W.lcmp hx hb dX5_need_60 ?_
            refine lv_if_eq (tgt := 80) hx hb dX5_need_61 (by decide) (fun c75 => ?_) (fun c75 => ?_)
            · skip
              have c759 := lc_eq c75
              have c758 := l_eq c759
              refine lv_aload_n hx hb dX5_need_80 rfl (lv_at hl 0 rfl) ?_
              refine lv_lload_n hx hb dX5_need_81 rfl (lv_at hl 2 rfl) ?_
              refine lv_lneg hx hb dX5_need_82 ?_
              refine lv_topl (fun y76 ey76 => ?_)
              have hy76 : jv y76 0 10000000 := jv.neg ey76 hp1 (by decide) (by decide) (by decide) (by decide)
              have ty76 : y76.toInt = -p1.toInt := l_neg ey76 (show jv p1 (-10000000) 10000000 from (hp1.w (by decide) (by decide))).1
              refine va_put (D := (dC, dI)) (ci := 5) (v := Value.long y76) (ty := FieldType.long) (C := RX5) (T := TX5) (N := 5) hx hb hts iw_X5_need_X5 tyX5 tyX5_ok nmX5 hown hK hP hD hS 0 rfl rfl 2 (by decide) (hts _ kk_X5_need_1) (fun _ h9 => h9) rfl (by decide +kernel) rfl rfl (Nat.le_of_ble_eq_true rfl) dX5_need_83 (fun H locs hP hD hS => ?_)
              have hP : va_P (dC, dI) vwCl [(o, Sum.inr (5, [Value.long p1, Value.long p0, Value.long y76, Value.long v_capLower, Value.int v_isBroken]))] H := hP
              have hD : va_D A [(o, Sum.inr (5, [Value.long p1, Value.long p0, Value.long y76, Value.long v_capLower, Value.int v_isBroken]))] := hD
              refine lv_aload_n hx hb dX5_need_86 rfl (lv_at hl 0 rfl) ?_
              refine lv_lload_n hx hb dX5_need_87 rfl (lv_at hl 1 rfl) ?_
              refine lv_lneg hx hb dX5_need_88 ?_
              refine lv_topl (fun y77 ey77 => ?_)
              have hy77 : jv y77 1 (-1) := jv.neg ey77 hp0 (by decide) (by decide) (by decide) (by decide)
              have ty77 : y77.toInt = -p0.toInt := l_neg ey77 (show jv p0 (-10000000) 10000000 from (hp0.w (by decide) (by decide))).1
              refine va_put (D := (dC, dI)) (ci := 5) (v := Value.long y77) (ty := FieldType.long) (C := RX5) (T := TX5) (N := 5) hx hb hts iw_X5_need_X5 tyX5 tyX5_ok nmX5 hown hK hP hD hS 0 rfl rfl 3 (by decide) (hts _ kk_X5_need_0) (fun _ h9 => h9) rfl (by decide +kernel) rfl rfl (Nat.le_of_ble_eq_true rfl) dX5_need_89 (fun H locs hP hD hS => ?_)
              have hP : va_P (dC, dI) vwCl [(o, Sum.inr (5, [Value.long p1, Value.long p0, Value.long y76, Value.long y77, Value.int v_isBroken]))] H := hP
              have hD : va_D A [(o, Sum.inr (5, [Value.long p1, Value.long p0, Value.long y76, Value.long y77, Value.int v_isBroken]))] := hD
              have hP9 := hP.sub (ws' := [(o, Sum.inr (5, [Value.long p1, Value.long p0, Value.long y76, Value.long y77, Value.int v_isBroken]))]) [0] rfl
              have hD9 := hD.sub (ws' := [(o, Sum.inr (5, [Value.long p1, Value.long p0, Value.long y76, Value.long y77, Value.int v_isBroken]))]) [0] (by decide) rfl
              exact W.vret hx hb hr (fun t ht hW => ⟨⟨(), rfl, trivial, p1, p0, y76, y77, v_isBroken, (hp1.w (by decide) (by decide)), (hp0.w (by decide) (by decide)), (hy76.w (by decide) (by decide)), (hy77.w (by decide) (by decide)), hv_isBroken, (by unfold ndL; omega), (by unfold ndC; omega), (by omega), by rw [ht]; exact hP9, hD9⟩, hS.F ht⟩) hS.2.2 dX5_need_92
            · skip
              have c759 := lc_ne c75
              have c758 := l_ne c759
              refine lv_lload_n hx hb dX5_need_64 rfl (lv_at hl 2 rfl) ?_
              refine lv_aload_n hx hb dX5_need_65 rfl (lv_at hl 0 rfl) ?_
              refine va_get (D := (dC, dI)) (ci := 5) (v := Value.long v_capLower) (C := RX5) (T := TX5) (N := 5) hx hb hts iw_X5_need_X5 hown hK hP 0 rfl rfl 3 (by decide) (hts _ kk_X5_need_0) (fun _ h9 => h9) rfl dX5_need_66 ?_
              refine lv_lmul hx hb dX5_need_69 ?_
              refine lv_topl (fun y78 ey78 => ?_)
              have hy78 : jv y78 (-16000000000) 16000000000 := jv.mula (B := 10000000) (D := 1600) ey78 hp1 hv_capLower (by decide) (by decide) (by decide) (by decide) (by decide) (by decide)
              have ty78 : y78.toInt = p1.toInt * v_capLower.toInt := i64_ml ey78 (show jv p1 (-10000000) 10000000 from (hp1.w (by decide) (by decide))).1 (show jv p1 (-10000000) 10000000 from (hp1.w (by decide) (by decide))).2 (show jv v_capLower (-10000000) 10000000 from (hv_capLower.w (by decide) (by decide))).1 (show jv v_capLower (-10000000) 10000000 from (hv_capLower.w (by decide) (by decide))).2
              refine lv_aload_n hx hb dX5_need_70 rfl (lv_at hl 0 rfl) ?_
              refine va_get (D := (dC, dI)) (ci := 5) (v := Value.long v_capUpper) (C := RX5) (T := TX5) (N := 5) hx hb hts iw_X5_need_X5 hown hK hP 0 rfl rfl 2 (by decide) (hts _ kk_X5_need_1) (fun _ h9 => h9) rfl dX5_need_71 ?_
              refine lv_lload_n hx hb dX5_need_74 rfl (lv_at hl 1 rfl) ?_
              refine lv_lmul hx hb dX5_need_75 ?_
              refine lv_topl (fun y79 ey79 => ?_)
              have hy79 : jv y79 (-10000000) 10000000 := jv.mula (B := 10000000) (D := 1) ey79 hv_capUpper hp0 (by decide) (by decide) (by decide) (by decide) (by decide) (by decide)
              have ty79 : y79.toInt = v_capUpper.toInt * p0.toInt := i64_ml ey79 (show jv v_capUpper (-10000000) 10000000 from hv_capUpper).1 (show jv v_capUpper (-10000000) 10000000 from hv_capUpper).2 (show jv p0 (-10000000) 10000000 from (hp0.w (by decide) (by decide))).1 (show jv p0 (-10000000) 10000000 from (hp0.w (by decide) (by decide))).2
              refine W.lcmp hx hb dX5_need_76 ?_
              refine lv_if_le (tgt := 92) hx hb dX5_need_77 (by decide) (fun c80 => ?_) (fun c80 => ?_)
              · skip
                have c809 := lc_le c80
                have c808 := l_le c809
                have hP9 := hP.sub (ws' := [(o, Sum.inr (5, [Value.long p1, Value.long p0, Value.long v_capUpper, Value.long v_capLower, Value.int v_isBroken]))]) [0] rfl
                have hD9 := hD.sub (ws' := [(o, Sum.inr (5, [Value.long p1, Value.long p0, Value.long v_capUpper, Value.long v_capLower, Value.int v_isBroken]))]) [0] (by decide) rfl
                exact W.vret hx hb hr (fun t ht hW => ⟨⟨(), rfl, trivial, p1, p0, v_capUpper, v_capLower, v_isBroken, (hp1.w (by decide) (by decide)), (hp0.w (by decide) (by decide)), hv_capUpper, hv_capLower, hv_isBroken, (by unfold ndL; omega), (by unfold ndC; omega), (by omega), by rw [ht]; exact hP9, hD9⟩, hS.F ht⟩) hS.2.2 dX5_need_92
              · skip
                have c809 := lc_nle c80
                have c808 := l_lt c809
                refine lv_aload_n hx hb dX5_need_80 rfl (lv_at hl 0 rfl) ?_
                refine lv_lload_n hx hb dX5_need_81 rfl (lv_at hl 2 rfl) ?_
                refine lv_lneg hx hb dX5_need_82 ?_
                refine lv_topl (fun y81 ey81 => ?_)
                have hy81 : jv y81 0 10000000 := jv.neg ey81 hp1 (by decide) (by decide) (by decide) (by decide)
                have ty81 : y81.toInt = -p1.toInt := l_neg ey81 (show jv p1 (-10000000) 10000000 from (hp1.w (by decide) (by decide))).1
                refine va_put (D := (dC, dI)) (ci := 5) (v := Value.long y81) (ty := FieldType.long) (C := RX5) (T := TX5) (N := 5) hx hb hts iw_X5_need_X5 tyX5 tyX5_ok nmX5 hown hK hP hD hS 0 rfl rfl 2 (by decide) (hts _ kk_X5_need_1) (fun _ h9 => h9) rfl (by decide +kernel) rfl rfl (Nat.le_of_ble_eq_true rfl) dX5_need_83 (fun H locs hP hD hS => ?_)
                have hP : va_P (dC, dI) vwCl [(o, Sum.inr (5, [Value.long p1, Value.long p0, Value.long y81, Value.long v_capLower, Value.int v_isBroken]))] H := hP
                have hD : va_D A [(o, Sum.inr (5, [Value.long p1, Value.long p0, Value.long y81, Value.long v_capLower, Value.int v_isBroken]))] := hD
                refine lv_aload_n hx hb dX5_need_86 rfl (lv_at hl 0 rfl) ?_
                refine lv_lload_n hx hb dX5_need_87 rfl (lv_at hl 1 rfl) ?_
                refine lv_lneg hx hb dX5_need_88 ?_
                refine lv_topl (fun y82 ey82 => ?_)
                have hy82 : jv y82 1 (-1) := jv.neg ey82 hp0 (by decide) (by decide) (by decide) (by decide)
                have ty82 : y82.toInt = -p0.toInt := l_neg ey82 (show jv p0 (-10000000) 10000000 from (hp0.w (by decide) (by decide))).1
                refine va_put (D := (dC, dI)) (ci := 5) (v := Value.long y82) (ty := FieldType.long) (C := RX5) (T := TX5) (N := 5) hx hb hts iw_X5_need_X5 tyX5 tyX5_ok nmX5 hown hK hP hD hS 0 rfl rfl 3 (by decide) (hts _ kk_X5_need_0) (fun _ h9 => h9) rfl (by decide +kernel) rfl rfl (Nat.le_of_ble_eq_true rfl) dX5_need_89 (fun H locs hP hD hS => ?_)
                have hP : va_P (dC, dI) vwCl [(o, Sum.inr (5, [Value.long p1, Value.long p0, Value.long y81, Value.long y82, Value.int v_isBroken]))] H := hP
                have hD : va_D A [(o, Sum.inr (5, [Value.long p1, Value.long p0, Value.long y81, Value.long y82, Value.int v_isBroken]))] := hD
                have hP9 := hP.sub (ws' := [(o, Sum.inr (5, [Value.long p1, Value.long p0, Value.long y81, Value.long y82, Value.int v_isBroken]))]) [0] rfl
                have hD9 := hD.sub (ws' := [(o, Sum.inr (5, [Value.long p1, Value.long p0, Value.long y81, Value.long y82, Value.int v_isBroken]))]) [0] (by decide) rfl
                exact W.vret hx hb hr (fun t ht hW => ⟨⟨(), rfl, trivial, p1, p0, y81, y82, v_isBroken, (hp1.w (by decide) (by decide)), (hp0.w (by decide) (by decide)), (hy81.w (by decide) (by decide)), (hy82.w (by decide) (by decide)), hv_isBroken, (by unfold ndL; omega), (by unfold ndC; omega), (by omega), by rw [ht]; exact hP9, hD9⟩, hS.F ht⟩) hS.2.2 dX5_need_92
        · skip
          have c739 := lc_nle c73
          have bp1 := hp1.u
          have dp1 := i64_lt c739 (show (0 : Int64).toInt = 0 by decide) rfl
          have hp1 : jv p1 1 10000000 := jv.m (by omega)
          have c738 := l_lt c739
          refine lv_aload_n hx hb dX5_need_44 rfl (lv_at hl 0 rfl) ?_
          refine lv_iconst (v := 1) hx hb dX5_need_45 (by decide) ?_
          refine va_put (D := (dC, dI)) (ci := 5) (v := Value.int 1) (ty := FieldType.boolean) (C := RX5) (T := TX5) (N := 5) hx hb hts iw_X5_need_X5 tyX5 tyX5_ok nmX5 hown hK hP hD hS 0 rfl rfl 4 (by decide) (hts _ kk_X5_need_2) (fun _ h9 => h9) rfl (by decide +kernel) rfl rfl (Nat.le_of_ble_eq_true rfl) dX5_need_46 (fun H locs hP hD hS => ?_)
          have hP : va_P (dC, dI) vwCl [(o, Sum.inr (5, [Value.long p1, Value.long p0, Value.long v_capUpper, Value.long v_capLower, Value.int 1]))] H := hP
          have hD : va_D A [(o, Sum.inr (5, [Value.long p1, Value.long p0, Value.long v_capUpper, Value.long v_capLower, Value.int 1]))] := hD
          refine lv_lload_n hx hb dX5_need_49 rfl (lv_at hl 1 rfl) ?_
          refine lv_lconst (v := 0) hx hb dX5_need_50 (by decide) ?_
          refine W.lcmp hx hb dX5_need_51 ?_
          refine lv_if_ge (tgt := 92) hx hb dX5_need_52 (by decide) (fun c83 => ?_) (fun c83 => ?_)
          · skip
            have c839 := lc_ge c83
            have c838 := l_le c839
            have hP9 := hP.sub (ws' := [(o, Sum.inr (5, [Value.long p1, Value.long p0, Value.long v_capUpper, Value.long v_capLower, Value.int 1]))]) [0] rfl
            have hD9 := hD.sub (ws' := [(o, Sum.inr (5, [Value.long p1, Value.long p0, Value.long v_capUpper, Value.long v_capLower, Value.int 1]))]) [0] (by decide) rfl
            exact W.vret hx hb hr (fun t ht hW => ⟨⟨(), rfl, trivial, p1, p0, v_capUpper, v_capLower, 1, (hp1.w (by decide) (by decide)), hp0, hv_capUpper, hv_capLower, (iv.m (by decide)), (by unfold ndL; omega), (by unfold ndC; omega), (by omega), by rw [ht]; exact hP9, hD9⟩, hS.F ht⟩) hS.2.2 dX5_need_92
          · skip
            have c839 := lc_nge c83
            have bp0 := hp0.u
            have dp0 := i64_lt c839 rfl (show (0 : Int64).toInt = 0 by decide)
            have hp0 : jv p0 1 (-1) := jv.m (by omega)
            have c838 := l_lt c839
            refine lv_aload_n hx hb dX5_need_55 rfl (lv_at hl 0 rfl) ?_
            refine va_get (D := (dC, dI)) (ci := 5) (v := Value.long v_capLower) (C := RX5) (T := TX5) (N := 5) hx hb hts iw_X5_need_X5 hown hK hP 0 rfl rfl 3 (by decide) (hts _ kk_X5_need_0) (fun _ h9 => h9) rfl dX5_need_56 ?_
            refine lv_lconst (v := 0) hx hb dX5_need_59 (by decide) ?_
            refine W.lcmp hx hb dX5_need_60 ?_
            refine lv_if_eq (tgt := 80) hx hb dX5_need_61 (by decide) (fun c84 => ?_) (fun c84 => ?_)
            · skip
              have c849 := lc_eq c84
              have c848 := l_eq c849
              refine lv_aload_n hx hb dX5_need_80 rfl (lv_at hl 0 rfl) ?_
              refine lv_lload_n hx hb dX5_need_81 rfl (lv_at hl 2 rfl) ?_
              refine lv_lneg hx hb dX5_need_82 ?_
              refine lv_topl (fun y85 ey85 => ?_)
              have hy85 : jv y85 (-10000000) (-1) := jv.neg ey85 hp1 (by decide) (by decide) (by decide) (by decide)
              have ty85 : y85.toInt = -p1.toInt := l_neg ey85 (show jv p1 (-10000000) 10000000 from (hp1.w (by decide) (by decide))).1
              refine va_put (D := (dC, dI)) (ci := 5) (v := Value.long y85) (ty := FieldType.long) (C := RX5) (T := TX5) (N := 5) hx hb hts iw_X5_need_X5 tyX5 tyX5_ok nmX5 hown hK hP hD hS 0 rfl rfl 2 (by decide) (hts _ kk_X5_need_1) (fun _ h9 => h9) rfl (by decide +kernel) rfl rfl (Nat.le_of_ble_eq_true rfl) dX5_need_83 (fun H locs hP hD hS => ?_)
              have hP : va_P (dC, dI) vwCl [(o, Sum.inr (5, [Value.long p1, Value.long p0, Value.long y85, Value.long v_capLower, Value.int 1]))] H := hP
              have hD : va_D A [(o, Sum.inr (5, [Value.long p1, Value.long p0, Value.long y85, Value.long v_capLower, Value.int 1]))] := hD
              refine lv_aload_n hx hb dX5_need_86 rfl (lv_at hl 0 rfl) ?_
              refine lv_lload_n hx hb dX5_need_87 rfl (lv_at hl 1 rfl) ?_
              refine lv_lneg hx hb dX5_need_88 ?_
              refine lv_topl (fun y86 ey86 => ?_)
              have hy86 : jv y86 1 (-1) := jv.neg ey86 hp0 (by decide) (by decide) (by decide) (by decide)
              have ty86 : y86.toInt = -p0.toInt := l_neg ey86 (show jv p0 (-10000000) 10000000 from (hp0.w (by decide) (by decide))).1
              refine va_put (D := (dC, dI)) (ci := 5) (v := Value.long y86) (ty := FieldType.long) (C := RX5) (T := TX5) (N := 5) hx hb hts iw_X5_need_X5 tyX5 tyX5_ok nmX5 hown hK hP hD hS 0 rfl rfl 3 (by decide) (hts _ kk_X5_need_0) (fun _ h9 => h9) rfl (by decide +kernel) rfl rfl (Nat.le_of_ble_eq_true rfl) dX5_need_89 (fun H locs hP hD hS => ?_)
              have hP : va_P (dC, dI) vwCl [(o, Sum.inr (5, [Value.long p1, Value.long p0, Value.long y85, Value.long y86, Value.int 1]))] H := hP
              have hD : va_D A [(o, Sum.inr (5, [Value.long p1, Value.long p0, Value.long y85, Value.long y86, Value.int 1]))] := hD
              have hP9 := hP.sub (ws' := [(o, Sum.inr (5, [Value.long p1, Value.long p0, Value.long y85, Value.long y86, Value.int 1]))]) [0] rfl
              have hD9 := hD.sub (ws' := [(o, Sum.inr (5, [Value.long p1, Value.long p0, Value.long y85, Value.long y86, Value.int 1]))]) [0] (by decide) rfl
              exact W.vret hx hb hr (fun t ht hW => ⟨⟨(), rfl, trivial, p1, p0, y85, y86, 1, (hp1.w (by decide) (by decide)), (hp0.w (by decide) (by decide)), (hy85.w (by decide) (by decide)), (hy86.w (by decide) (by decide)), (iv.m (by decide)), (by unfold ndL; omega), (by unfold ndC; omega), (by omega), by rw [ht]; exact hP9, hD9⟩, hS.F ht⟩) hS.2.2 dX5_need_92
            · skip
              have c849 := lc_ne c84
              have c848 := l_ne c849
              refine lv_lload_n hx hb dX5_need_64 rfl (lv_at hl 2 rfl) ?_
              refine lv_aload_n hx hb dX5_need_65 rfl (lv_at hl 0 rfl) ?_
              refine va_get (D := (dC, dI)) (ci := 5) (v := Value.long v_capLower) (C := RX5) (T := TX5) (N := 5) hx hb hts iw_X5_need_X5 hown hK hP 0 rfl rfl 3 (by decide) (hts _ kk_X5_need_0) (fun _ h9 => h9) rfl dX5_need_66 ?_
              refine lv_lmul hx hb dX5_need_69 ?_
              refine lv_topl (fun y87 ey87 => ?_)
              have hy87 : jv y87 0 16000000000 := jv.mulp ey87 hp1 hv_capLower (by decide) (by decide) (by decide) (by decide) (by decide)
              have ty87 : y87.toInt = p1.toInt * v_capLower.toInt := i64_ml ey87 (show jv p1 (-10000000) 10000000 from (hp1.w (by decide) (by decide))).1 (show jv p1 (-10000000) 10000000 from (hp1.w (by decide) (by decide))).2 (show jv v_capLower (-10000000) 10000000 from (hv_capLower.w (by decide) (by decide))).1 (show jv v_capLower (-10000000) 10000000 from (hv_capLower.w (by decide) (by decide))).2
              refine lv_aload_n hx hb dX5_need_70 rfl (lv_at hl 0 rfl) ?_
              refine va_get (D := (dC, dI)) (ci := 5) (v := Value.long v_capUpper) (C := RX5) (T := TX5) (N := 5) hx hb hts iw_X5_need_X5 hown hK hP 0 rfl rfl 2 (by decide) (hts _ kk_X5_need_1) (fun _ h9 => h9) rfl dX5_need_71 ?_
              refine lv_lload_n hx hb dX5_need_74 rfl (lv_at hl 1 rfl) ?_
              refine lv_lmul hx hb dX5_need_75 ?_
              refine lv_topl (fun y88 ey88 => ?_)
              have hy88 : jv y88 (-10000000) 10000000 := jv.mula (B := 10000000) (D := 1) ey88 hv_capUpper hp0 (by decide) (by decide) (by decide) (by decide) (by decide) (by decide)
              have ty88 : y88.toInt = v_capUpper.toInt * p0.toInt := i64_ml ey88 (show jv v_capUpper (-10000000) 10000000 from hv_capUpper).1 (show jv v_capUpper (-10000000) 10000000 from hv_capUpper).2 (show jv p0 (-10000000) 10000000 from (hp0.w (by decide) (by decide))).1 (show jv p0 (-10000000) 10000000 from (hp0.w (by decide) (by decide))).2
              refine W.lcmp hx hb dX5_need_76 ?_
              refine lv_if_le (tgt := 92) hx hb dX5_need_77 (by decide) (fun c89 => ?_) (fun c89 => ?_)
              · skip
                have c899 := lc_le c89
                have c898 := l_le c899
                have hP9 := hP.sub (ws' := [(o, Sum.inr (5, [Value.long p1, Value.long p0, Value.long v_capUpper, Value.long v_capLower, Value.int 1]))]) [0] rfl
                have hD9 := hD.sub (ws' := [(o, Sum.inr (5, [Value.long p1, Value.long p0, Value.long v_capUpper, Value.long v_capLower, Value.int 1]))]) [0] (by decide) rfl
                exact W.vret hx hb hr (fun t ht hW => ⟨⟨(), rfl, trivial, p1, p0, v_capUpper, v_capLower, 1, (hp1.w (by decide) (by decide)), (hp0.w (by decide) (by decide)), hv_capUpper, hv_capLower, (iv.m (by decide)), (by unfold ndL; omega), (by unfold ndC; omega), (by omega), by rw [ht]; exact hP9, hD9⟩, hS.F ht⟩) hS.2.2 dX5_need_92
              · skip
                have c899 := lc_nle c89
                have c898 := l_lt c899
                refine lv_aload_n hx hb dX5_need_80 rfl (lv_at hl 0 rfl) ?_
                refine lv_lload_n hx hb dX5_need_81 rfl (lv_at hl 2 rfl) ?_
                refine lv_lneg hx hb dX5_need_82 ?_
                refine lv_topl (fun y90 ey90 => ?_)
                have hy90 : jv y90 (-10000000) (-1) := jv.neg ey90 hp1 (by decide) (by decide) (by decide) (by decide)
                have ty90 : y90.toInt = -p1.toInt := l_neg ey90 (show jv p1 (-10000000) 10000000 from (hp1.w (by decide) (by decide))).1
                refine va_put (D := (dC, dI)) (ci := 5) (v := Value.long y90) (ty := FieldType.long) (C := RX5) (T := TX5) (N := 5) hx hb hts iw_X5_need_X5 tyX5 tyX5_ok nmX5 hown hK hP hD hS 0 rfl rfl 2 (by decide) (hts _ kk_X5_need_1) (fun _ h9 => h9) rfl (by decide +kernel) rfl rfl (Nat.le_of_ble_eq_true rfl) dX5_need_83 (fun H locs hP hD hS => ?_)
                have hP : va_P (dC, dI) vwCl [(o, Sum.inr (5, [Value.long p1, Value.long p0, Value.long y90, Value.long v_capLower, Value.int 1]))] H := hP
                have hD : va_D A [(o, Sum.inr (5, [Value.long p1, Value.long p0, Value.long y90, Value.long v_capLower, Value.int 1]))] := hD
                refine lv_aload_n hx hb dX5_need_86 rfl (lv_at hl 0 rfl) ?_
                refine lv_lload_n hx hb dX5_need_87 rfl (lv_at hl 1 rfl) ?_
                refine lv_lneg hx hb dX5_need_88 ?_
                refine lv_topl (fun y91 ey91 => ?_)
                have hy91 : jv y91 1 (-1) := jv.neg ey91 hp0 (by decide) (by decide) (by decide) (by decide)
                have ty91 : y91.toInt = -p0.toInt := l_neg ey91 (show jv p0 (-10000000) 10000000 from (hp0.w (by decide) (by decide))).1
                refine va_put (D := (dC, dI)) (ci := 5) (v := Value.long y91) (ty := FieldType.long) (C := RX5) (T := TX5) (N := 5) hx hb hts iw_X5_need_X5 tyX5 tyX5_ok nmX5 hown hK hP hD hS 0 rfl rfl 3 (by decide) (hts _ kk_X5_need_0) (fun _ h9 => h9) rfl (by decide +kernel) rfl rfl (Nat.le_of_ble_eq_true rfl) dX5_need_89 (fun H locs hP hD hS => ?_)
                have hP : va_P (dC, dI) vwCl [(o, Sum.inr (5, [Value.long p1, Value.long p0, Value.long y90, Value.long y91, Value.int 1]))] H := hP
                have hD : va_D A [(o, Sum.inr (5, [Value.long p1, Value.long p0, Value.long y90, Value.long y91, Value.int 1]))] := hD
                have hP9 := hP.sub (ws' := [(o, Sum.inr (5, [Value.long p1, Value.long p0, Value.long y90, Value.long y91, Value.int 1]))]) [0] rfl
                have hD9 := hD.sub (ws' := [(o, Sum.inr (5, [Value.long p1, Value.long p0, Value.long y90, Value.long y91, Value.int 1]))]) [0] (by decide) rfl
                exact W.vret hx hb hr (fun t ht hW => ⟨⟨(), rfl, trivial, p1, p0, y90, y91, 1, (hp1.w (by decide) (by decide)), (hp0.w (by decide) (by decide)), (hy90.w (by decide) (by decide)), (hy91.w (by decide) (by decide)), (iv.m (by decide)), (by unfold ndL; omega), (by unfold ndC; omega), (by omega), by rw [ht]; exact hP9, hD9⟩, hS.F ht⟩) hS.2.2 dX5_need_92

set_option maxHeartbeats 4000000 in
set_option maxRecDepth 100000 in
theorem ct_X5_settle (l : Launch) (dC : Nat → ClassId) (dI : Nat → Nat → Nat) (o : Nat) (p0 : Nat) (p1 : Int32) (p2 : Int32) (p3 : Int32) (p4 : Int32) (v_lowUpper : Int64) (v_lowLower : Int64) (v_capUpper : Int64) (v_capLower : Int64) (v_isBroken : Int32) (p0_v_signs : Int32) (p0_v_works : Int32) (p0_v_whole : Int32) (p0_v_otherwise : Int32) (p0_v_least : Int32) (p0_v_rates : Int32) (p0_a_brings : Nat) (p0_a_costs : Nat) (p0_a_chances : Nat) (p0_a_rate : Nat) (p0_a_mark : Nat) (k_p0_a_brings : ClassId) (f_p0_a_brings : Nat → Int32) (k_p0_a_costs : ClassId) (f_p0_a_costs : Nat → Int32) (k_p0_a_chances : ClassId) (R_p0_a_chances : Nat → Nat) (k_p0_a_rate : ClassId) (f_p0_a_rate : Nat → Int32) (k_p0_a_mark : ClassId) (f_p0_a_mark : Nat → Int32) (LP : List Nat) (sh : Nat → Nat) (fp : Nat → va_E) (cI : ClassId) (cJ : ClassId) (CT : Nat → Nat → Int32) (hp1 : iv p1 0 4) (hp2 : iv p2 0 3) (hp3 : iv p3 0 40) (hp4 : iv p4 0 100) (hp0_v_signs : iv p0_v_signs 0 4) (hp0_v_works : iv p0_v_works 0 5) (hp0_v_otherwise : iv p0_v_otherwise 0 99) (hp0_v_least : iv p0_v_least 0 99) (hp0_v_rates : iv p0_v_rates 1 3) (hf_p0_a_brings : ivf f_p0_a_brings 0 999) (hf_p0_a_costs : ivf f_p0_a_costs 0 99) (hf_p0_a_rate : ivf f_p0_a_rate 0 5) (hf_p0_a_mark : ivf f_p0_a_mark 0 99) (hfp : pok cI cJ LP sh CT fp) (hRR_p0_a_chances : ∀ i : Nat, i < 5 → R_p0_a_chances i ∈ LP ∧ sh (R_p0_a_chances i) = 104) (hmr : mkR p0_v_rates.toNatClampNeg f_p0_a_mark) (sz : Nat) : Met l yX5_settle wsX5_settle ({ frames := 3, cells := 0, slots := 0, locals := 60 }) (va_Pc [Value.ref o, Value.ref p0, Value.int p1, Value.int p2, Value.int p3, Value.int p4] (fun U => U.heap.size = sz ∧ va_P (dC, dI) vwCl ([(o, Sum.inr (5, [Value.long v_lowUpper, Value.long v_lowLower, Value.long v_capUpper, Value.long v_capLower, Value.int v_isBroken])), (p0, Sum.inr (3, [Value.int p0_v_signs, Value.int p0_v_works, Value.int p0_v_whole, Value.int p0_v_otherwise, Value.int p0_v_least, Value.int p0_v_rates, Value.ref p0_a_brings, Value.ref p0_a_costs, Value.ref p0_a_chances, Value.ref p0_a_rate, Value.ref p0_a_mark])), (p0_a_brings, Sum.inl (k_p0_a_brings, 4, Sum.inl f_p0_a_brings)), (p0_a_costs, Sum.inl (k_p0_a_costs, 5, Sum.inl f_p0_a_costs)), (p0_a_chances, Sum.inl (k_p0_a_chances, 5, Sum.inr (Sum.inr (Sum.inr (Sum.inr (rows_of 5 R_p0_a_chances)))))), (p0_a_rate, Sum.inl (k_p0_a_rate, 3, Sum.inl f_p0_a_rate)), (p0_a_mark, Sum.inl (k_p0_a_mark, 2, Sum.inl f_p0_a_mark))] ++ va_pl LP fp) U.heap ∧ va_K (dC, dI) vwCl [(k_p0_a_brings, FieldType.int), (k_p0_a_costs, FieldType.int), (k_p0_a_chances, (FieldType.array FieldType.int)), (k_p0_a_rate, FieldType.int), (k_p0_a_mark, FieldType.int), (cI, FieldType.int), (cJ, FieldType.long)] U ∧ va_D (fun _ => True) ([(o, Sum.inr (5, [Value.long v_lowUpper, Value.long v_lowLower, Value.long v_capUpper, Value.long v_capLower, Value.int v_isBroken])), (p0, Sum.inr (3, [Value.int p0_v_signs, Value.int p0_v_works, Value.int p0_v_whole, Value.int p0_v_otherwise, Value.int p0_v_least, Value.int p0_v_rates, Value.ref p0_a_brings, Value.ref p0_a_costs, Value.ref p0_a_chances, Value.ref p0_a_rate, Value.ref p0_a_mark])), (p0_a_brings, Sum.inl (k_p0_a_brings, 4, Sum.inl f_p0_a_brings)), (p0_a_costs, Sum.inl (k_p0_a_costs, 5, Sum.inl f_p0_a_costs)), (p0_a_chances, Sum.inl (k_p0_a_chances, 5, Sum.inr (Sum.inr (Sum.inr (Sum.inr (rows_of 5 R_p0_a_chances)))))), (p0_a_rate, Sum.inl (k_p0_a_rate, 3, Sum.inl f_p0_a_rate)), (p0_a_mark, Sum.inl (k_p0_a_mark, 2, Sum.inl f_p0_a_mark))] ++ va_pl LP fp))) (va_Qi (fun (r u : Int32) => u = r) (fun (r : Int32) t => ∃ (e_v_lowUpper : Int64) (e_v_lowLower : Int64) (e_v_capUpper : Int64) (e_v_capLower : Int64) (e_v_isBroken : Int32), jv e_v_lowUpper (-10000000) 10000000 ∧ jv e_v_lowLower 1 1600 ∧ jv e_v_capUpper (-10000000) 10000000 ∧ jv e_v_capLower 0 1600 ∧ iv e_v_isBroken 0 1 ∧ ((r = 0 ∧ (¬ Fea (fun j => j < p0_v_works.toNatClampNeg) (neT (fun b => cfr f_p0_a_brings (CT (R_p0_a_chances b)) p2.toNatClampNeg p0_v_signs.toNatClampNeg) p1.toNatClampNeg p3.toInt) (neM f_p0_a_costs p0_v_otherwise.toInt (felC p0_v_rates.toNatClampNeg f_p0_a_rate f_p0_a_mark p0_v_least).toInt p4.toInt p1.toNatClampNeg) 0)) ∨ (r = 1 ∧ (Fea (fun j => j < p0_v_works.toNatClampNeg) (neT (fun b => cfr f_p0_a_brings (CT (R_p0_a_chances b)) p2.toNatClampNeg p0_v_signs.toNatClampNeg) p1.toNatClampNeg p3.toInt) (neM f_p0_a_costs p0_v_otherwise.toInt (felC p0_v_rates.toNatClampNeg f_p0_a_rate f_p0_a_mark p0_v_least).toInt p4.toInt p1.toNatClampNeg) 0) ∧ (lowI (fun j => j < p0_v_works.toNatClampNeg) (neT (fun b => cfr f_p0_a_brings (CT (R_p0_a_chances b)) p2.toNatClampNeg p0_v_signs.toNatClampNeg) p1.toNatClampNeg p3.toInt) (neM f_p0_a_costs p0_v_otherwise.toInt (felC p0_v_rates.toNatClampNeg f_p0_a_rate f_p0_a_mark p0_v_least).toInt p4.toInt p1.toNatClampNeg) 0 e_v_lowUpper.toInt e_v_lowLower.toInt))) ∧ va_P (dC, dI) vwCl ([(o, Sum.inr (5, [Value.long e_v_lowUpper, Value.long e_v_lowLower, Value.long e_v_capUpper, Value.long e_v_capLower, Value.int e_v_isBroken])), (p0, Sum.inr (3, [Value.int p0_v_signs, Value.int p0_v_works, Value.int p0_v_whole, Value.int p0_v_otherwise, Value.int p0_v_least, Value.int p0_v_rates, Value.ref p0_a_brings, Value.ref p0_a_costs, Value.ref p0_a_chances, Value.ref p0_a_rate, Value.ref p0_a_mark])), (p0_a_brings, Sum.inl (k_p0_a_brings, 4, Sum.inl f_p0_a_brings)), (p0_a_costs, Sum.inl (k_p0_a_costs, 5, Sum.inl f_p0_a_costs)), (p0_a_chances, Sum.inl (k_p0_a_chances, 5, Sum.inr (Sum.inr (Sum.inr (Sum.inr (rows_of 5 R_p0_a_chances)))))), (p0_a_rate, Sum.inl (k_p0_a_rate, 3, Sum.inl f_p0_a_rate)), (p0_a_mark, Sum.inl (k_p0_a_mark, 2, Sum.inl f_p0_a_mark))] ++ va_pl LP fp) t.heap ∧ va_D (va_A ([(o, Sum.inr (5, [Value.long v_lowUpper, Value.long v_lowLower, Value.long v_capUpper, Value.long v_capLower, Value.int v_isBroken])), (p0, Sum.inr (3, [Value.int p0_v_signs, Value.int p0_v_works, Value.int p0_v_whole, Value.int p0_v_otherwise, Value.int p0_v_least, Value.int p0_v_rates, Value.ref p0_a_brings, Value.ref p0_a_costs, Value.ref p0_a_chances, Value.ref p0_a_rate, Value.ref p0_a_mark])), (p0_a_brings, Sum.inl (k_p0_a_brings, 4, Sum.inl f_p0_a_brings)), (p0_a_costs, Sum.inl (k_p0_a_costs, 5, Sum.inl f_p0_a_costs)), (p0_a_chances, Sum.inl (k_p0_a_chances, 5, Sum.inr (Sum.inr (Sum.inr (Sum.inr (rows_of 5 R_p0_a_chances)))))), (p0_a_rate, Sum.inl (k_p0_a_rate, 3, Sum.inl f_p0_a_rate)), (p0_a_mark, Sum.inl (k_p0_a_mark, 2, Sum.inl f_p0_a_mark))] ++ va_pl LP fp) sz) ([(o, Sum.inr (5, [Value.long e_v_lowUpper, Value.long e_v_lowLower, Value.long e_v_capUpper, Value.long e_v_capLower, Value.int e_v_isBroken])), (p0, Sum.inr (3, [Value.int p0_v_signs, Value.int p0_v_works, Value.int p0_v_whole, Value.int p0_v_otherwise, Value.int p0_v_least, Value.int p0_v_rates, Value.ref p0_a_brings, Value.ref p0_a_costs, Value.ref p0_a_chances, Value.ref p0_a_rate, Value.ref p0_a_mark])), (p0_a_brings, Sum.inl (k_p0_a_brings, 4, Sum.inl f_p0_a_brings)), (p0_a_costs, Sum.inl (k_p0_a_costs, 5, Sum.inl f_p0_a_costs)), (p0_a_chances, Sum.inl (k_p0_a_chances, 5, Sum.inr (Sum.inr (Sum.inr (Sum.inr (rows_of 5 R_p0_a_chances)))))), (p0_a_rate, Sum.inl (k_p0_a_rate, 3, Sum.inl f_p0_a_rate)), (p0_a_mark, Sum.inl (k_p0_a_mark, 2, Sum.inl f_p0_a_mark))] ++ va_pl LP fp)) (va_A ([(o, Sum.inr (5, [Value.long v_lowUpper, Value.long v_lowLower, Value.long v_capUpper, Value.long v_capLower, Value.int v_isBroken])), (p0, Sum.inr (3, [Value.int p0_v_signs, Value.int p0_v_works, Value.int p0_v_whole, Value.int p0_v_otherwise, Value.int p0_v_least, Value.int p0_v_rates, Value.ref p0_a_brings, Value.ref p0_a_costs, Value.ref p0_a_chances, Value.ref p0_a_rate, Value.ref p0_a_mark])), (p0_a_brings, Sum.inl (k_p0_a_brings, 4, Sum.inl f_p0_a_brings)), (p0_a_costs, Sum.inl (k_p0_a_costs, 5, Sum.inl f_p0_a_costs)), (p0_a_chances, Sum.inl (k_p0_a_chances, 5, Sum.inr (Sum.inr (Sum.inr (Sum.inr (rows_of 5 R_p0_a_chances)))))), (p0_a_rate, Sum.inl (k_p0_a_rate, 3, Sum.inl f_p0_a_rate)), (p0_a_mark, Sum.inl (k_p0_a_mark, 2, Sum.inl f_p0_a_mark))] ++ va_pl LP fp) sz)) 0 0 (va_A ([(o, Sum.inr (5, [Value.long v_lowUpper, Value.long v_lowLower, Value.long v_capUpper, Value.long v_capLower, Value.int v_isBroken])), (p0, Sum.inr (3, [Value.int p0_v_signs, Value.int p0_v_works, Value.int p0_v_whole, Value.int p0_v_otherwise, Value.int p0_v_least, Value.int p0_v_rates, Value.ref p0_a_brings, Value.ref p0_a_costs, Value.ref p0_a_chances, Value.ref p0_a_rate, Value.ref p0_a_mark])), (p0_a_brings, Sum.inl (k_p0_a_brings, 4, Sum.inl f_p0_a_brings)), (p0_a_costs, Sum.inl (k_p0_a_costs, 5, Sum.inl f_p0_a_costs)), (p0_a_chances, Sum.inl (k_p0_a_chances, 5, Sum.inr (Sum.inr (Sum.inr (Sum.inr (rows_of 5 R_p0_a_chances)))))), (p0_a_rate, Sum.inl (k_p0_a_rate, 3, Sum.inl f_p0_a_rate)), (p0_a_mark, Sum.inl (k_p0_a_mark, 2, Sum.inl f_p0_a_mark))] ++ va_pl LP fp) sz) := by
  refine Met.ofW (cc := cX5_settle) (maxL := 9) (ret := (some .boolean)) pn_X5 rfl ?_
  intro p e s m args below meth c s₁ B hml hv
  obtain ⟨rfl, hsz, hP, hK, hD0⟩ := hv
  have hx := B.exec
  have hb := B.bytes
  have hr := B.returns
  have hts := atoms_spec (ws := wsX5_settle) B.pre
  have hown : s.vm.findClass RX5 = some m.cls := findClass_of_methodNamed B.named
  have hlocks := B.notSynchronized
  subst hsz
  have hD := hD0.self (sz := s.heap.size)
  generalize hAe : va_A ([(o, Sum.inr (5, [Value.long v_lowUpper, Value.long v_lowLower, Value.long v_capUpper, Value.long v_capLower, Value.int v_isBroken])), (p0, Sum.inr (3, [Value.int p0_v_signs, Value.int p0_v_works, Value.int p0_v_whole, Value.int p0_v_otherwise, Value.int p0_v_least, Value.int p0_v_rates, Value.ref p0_a_brings, Value.ref p0_a_costs, Value.ref p0_a_chances, Value.ref p0_a_rate, Value.ref p0_a_mark])), (p0_a_brings, Sum.inl (k_p0_a_brings, 4, Sum.inl f_p0_a_brings)), (p0_a_costs, Sum.inl (k_p0_a_costs, 5, Sum.inl f_p0_a_costs)), (p0_a_chances, Sum.inl (k_p0_a_chances, 5, Sum.inr (Sum.inr (Sum.inr (Sum.inr (rows_of 5 R_p0_a_chances)))))), (p0_a_rate, Sum.inl (k_p0_a_rate, 3, Sum.inl f_p0_a_rate)), (p0_a_mark, Sum.inl (k_p0_a_mark, 2, Sum.inl f_p0_a_mark))] ++ va_pl LP fp) s.heap.size = A at hD ⊢
  have hA : ∀ q : Nat, s.heap.size ≤ q → A q := fun q h => by rw [← hAe]; exact Or.inr h
  have hS : va_S A s.heap s.heap [] := va_S.rf
  have hP : va_P (dC, dI) vwCl ([(o, Sum.inr (5, [Value.long v_lowUpper, Value.long v_lowLower, Value.long v_capUpper, Value.long v_capLower, Value.int v_isBroken])), (p0, Sum.inr (3, [Value.int p0_v_signs, Value.int p0_v_works, Value.int p0_v_whole, Value.int p0_v_otherwise, Value.int p0_v_least, Value.int p0_v_rates, Value.ref p0_a_brings, Value.ref p0_a_costs, Value.ref p0_a_chances, Value.ref p0_a_rate, Value.ref p0_a_mark])), (p0_a_brings, Sum.inl (k_p0_a_brings, 4, Sum.inl f_p0_a_brings)), (p0_a_costs, Sum.inl (k_p0_a_costs, 5, Sum.inl f_p0_a_costs)), (p0_a_chances, Sum.inl (k_p0_a_chances, 5, Sum.inr (Sum.inr (Sum.inr (Sum.inr (rows_of 5 R_p0_a_chances)))))), (p0_a_rate, Sum.inl (k_p0_a_rate, 3, Sum.inl f_p0_a_rate)), (p0_a_mark, Sum.inl (k_p0_a_mark, 2, Sum.inl f_p0_a_mark))] ++ va_pl LP fp) s.heap := hP
  have hl := lv_entry ([Value.ref o, Value.ref p0, Value.int p1, Value.int p2, Value.int p3, Value.int p4]) (n := 9) (Nat.le_of_ble_eq_true rfl)
  rw [lg_entry_eq]
  generalize (lg_sl ([Value.ref o, Value.ref p0, Value.int p1, Value.int p2, Value.int p3, Value.int p4]) ++ List.replicate (9 - (lg_sl ([Value.ref o, Value.ref p0, Value.int p1, Value.int p2, Value.int p3, Value.int p4])).length) Slot.unset).toArray = ls at hl ⊢
  have hl : lv_has ls 9 [(0, Value.ref o), (1, Value.ref p0), (2, Value.int p1), (3, Value.int p2), (4, Value.int p3), (5, Value.int p4)] := hl
  have bp1 := hp1.u
  have bp0_v_works := hp0_v_works.u
  refine lv_aload_n hx hb dX5_settle_0 rfl (lv_at hl 0 rfl) ?_
  have hPc := hP.sub (ws' := [(o, Sum.inr (5, [Value.long v_lowUpper, Value.long v_lowLower, Value.long v_capUpper, Value.long v_capLower, Value.int v_isBroken]))]) [0] rfl
  have hDc := hD.sub (ws' := [(o, Sum.inr (5, [Value.long v_lowUpper, Value.long v_lowLower, Value.long v_capUpper, Value.long v_capLower, Value.int v_isBroken]))]) [0] (by decide) rfl
  have hKc := hK.sub (tys' := []) [] rfl
  have hFc := va_free (wc := [(o, Sum.inr (5, [Value.long v_lowUpper, Value.long v_lowLower, Value.long v_capUpper, Value.long v_capLower, Value.int v_isBroken]))]) hD hS hA [0] rfl
  refine va_callv (va_runV (As := []) (rest := []) ⟨hx, hb, hml, hown, hts⟩ (ct_X5_start l dC dI o v_lowUpper v_lowLower v_capUpper v_capLower v_isBroken s.heap.size) (cwV 0 hts gX5_settle_X5_start rfl rfl rfl ⟨rfl, cn_X5.1, cn_X5.2, ds_7⟩ ⟨Nat.le_of_ble_eq_true rfl, Nat.le_of_ble_eq_true rfl⟩) ⟨fun a U g mk q => by obtain ⟨q0, q1, qP, qK, qD⟩ := q; exact ⟨q0, q1, qP, va_K.moved (u := U) (U := U.calling g mk a) (Vm.Alike.refl U.vm) qK, qD⟩, va_recv hKc hPc (ci := 5) (q0 := 0) rfl rfl, fun U hU hW => ⟨rfl, by rw [hU], by rw [hU]; exact hPc, va_K.moved hW.alike hKc, hDc.weaken (fun _ _ _ _ => trivial)⟩⟩ rfl rfl hl.1 rfl (lv_room (Nat.le_of_ble_eq_true rfl)) dX5_settle_1 ⟨Nat.le_of_ble_eq_true rfl, Nat.le_of_ble_eq_true rfl⟩) hS (fun q _ h => hFc q h) hFc (fun u t H1 locs ht hvm hw hB hz1 hk1 hS => ?_)
  obtain ⟨hP1, hD1⟩ := hB
  rw [ht] at hP1
  obtain ⟨hP, hD⟩ := va_joinQ (X := [(o, Sum.inr (5, [Value.long v_lowUpper, Value.long v_lowLower, Value.long v_capUpper, Value.long v_capLower, Value.int v_isBroken])), (p0, Sum.inr (3, [Value.int p0_v_signs, Value.int p0_v_works, Value.int p0_v_whole, Value.int p0_v_otherwise, Value.int p0_v_least, Value.int p0_v_rates, Value.ref p0_a_brings, Value.ref p0_a_costs, Value.ref p0_a_chances, Value.ref p0_a_rate, Value.ref p0_a_mark])), (p0_a_brings, Sum.inl (k_p0_a_brings, 4, Sum.inl f_p0_a_brings)), (p0_a_costs, Sum.inl (k_p0_a_costs, 5, Sum.inl f_p0_a_costs)), (p0_a_chances, Sum.inl (k_p0_a_chances, 5, Sum.inr (Sum.inr (Sum.inr (Sum.inr (rows_of 5 R_p0_a_chances)))))), (p0_a_rate, Sum.inl (k_p0_a_rate, 3, Sum.inl f_p0_a_rate)), (p0_a_mark, Sum.inl (k_p0_a_mark, 2, Sum.inl f_p0_a_mark))]) (cx := [(o, Sum.inr (5, [Value.long v_lowUpper, Value.long v_lowLower, Value.long v_capUpper, Value.long v_capLower, Value.int v_isBroken]))]) (wr := [(p0, Sum.inr (3, [Value.int p0_v_signs, Value.int p0_v_works, Value.int p0_v_whole, Value.int p0_v_otherwise, Value.int p0_v_least, Value.int p0_v_rates, Value.ref p0_a_brings, Value.ref p0_a_costs, Value.ref p0_a_chances, Value.ref p0_a_rate, Value.ref p0_a_mark])), (p0_a_brings, Sum.inl (k_p0_a_brings, 4, Sum.inl f_p0_a_brings)), (p0_a_costs, Sum.inl (k_p0_a_costs, 5, Sum.inl f_p0_a_costs)), (p0_a_chances, Sum.inl (k_p0_a_chances, 5, Sum.inr (Sum.inr (Sum.inr (Sum.inr (rows_of 5 R_p0_a_chances)))))), (p0_a_rate, Sum.inl (k_p0_a_rate, 3, Sum.inl f_p0_a_rate)), (p0_a_mark, Sum.inl (k_p0_a_mark, 2, Sum.inl f_p0_a_mark))]) (w1 := [(o, Sum.inr (5, [Value.long 0, Value.long 1, Value.long 0, Value.long 0, Value.int 0]))]) hP hD [0] [1, 2, 3, 4, 5, 6] rfl rfl (by decide) (by decide) hk1 hFc hP1 hD1
  clear hPc hDc hKc hFc hP1 hD1 hk1 hz1
  generalize H1 = H at hP hS ⊢
  have hP : va_P (dC, dI) vwCl ([(p0, Sum.inr (3, [Value.int p0_v_signs, Value.int p0_v_works, Value.int p0_v_whole, Value.int p0_v_otherwise, Value.int p0_v_least, Value.int p0_v_rates, Value.ref p0_a_brings, Value.ref p0_a_costs, Value.ref p0_a_chances, Value.ref p0_a_rate, Value.ref p0_a_mark])), (p0_a_brings, Sum.inl (k_p0_a_brings, 4, Sum.inl f_p0_a_brings)), (p0_a_costs, Sum.inl (k_p0_a_costs, 5, Sum.inl f_p0_a_costs)), (p0_a_chances, Sum.inl (k_p0_a_chances, 5, Sum.inr (Sum.inr (Sum.inr (Sum.inr (rows_of 5 R_p0_a_chances)))))), (p0_a_rate, Sum.inl (k_p0_a_rate, 3, Sum.inl f_p0_a_rate)), (p0_a_mark, Sum.inl (k_p0_a_mark, 2, Sum.inl f_p0_a_mark)), (o, Sum.inr (5, [Value.long 0, Value.long 1, Value.long 0, Value.long 0, Value.int 0]))] ++ va_pl LP fp) H := hP
  have hD : va_D A ([(p0, Sum.inr (3, [Value.int p0_v_signs, Value.int p0_v_works, Value.int p0_v_whole, Value.int p0_v_otherwise, Value.int p0_v_least, Value.int p0_v_rates, Value.ref p0_a_brings, Value.ref p0_a_costs, Value.ref p0_a_chances, Value.ref p0_a_rate, Value.ref p0_a_mark])), (p0_a_brings, Sum.inl (k_p0_a_brings, 4, Sum.inl f_p0_a_brings)), (p0_a_costs, Sum.inl (k_p0_a_costs, 5, Sum.inl f_p0_a_costs)), (p0_a_chances, Sum.inl (k_p0_a_chances, 5, Sum.inr (Sum.inr (Sum.inr (Sum.inr (rows_of 5 R_p0_a_chances)))))), (p0_a_rate, Sum.inl (k_p0_a_rate, 3, Sum.inl f_p0_a_rate)), (p0_a_mark, Sum.inl (k_p0_a_mark, 2, Sum.inl f_p0_a_mark)), (o, Sum.inr (5, [Value.long 0, Value.long 1, Value.long 0, Value.long 0, Value.int 0]))] ++ va_pl LP fp) := hD
  refine W.widen (k := 0) (n := 0) (by decide) (by decide) ?_
  refine lv_aload_n hx hb dX5_settle_4 rfl (lv_at hl 1 rfl) ?_
  refine lv_iload_n hx hb dX5_settle_5 rfl (lv_at hl 2 rfl) ?_
  refine lv_iload_n hx hb dX5_settle_6 rfl (lv_at hl 3 rfl) ?_
  have hPc := hP.part (cx := [(p0, Sum.inr (3, [Value.int p0_v_signs, Value.int p0_v_works, Value.int p0_v_whole, Value.int p0_v_otherwise, Value.int p0_v_least, Value.int p0_v_rates, Value.ref p0_a_brings, Value.ref p0_a_costs, Value.ref p0_a_chances, Value.ref p0_a_rate, Value.ref p0_a_mark])), (p0_a_brings, Sum.inl (k_p0_a_brings, 4, Sum.inl f_p0_a_brings)), (p0_a_chances, Sum.inl (k_p0_a_chances, 5, Sum.inr (Sum.inr (Sum.inr (Sum.inr (rows_of 5 R_p0_a_chances))))))]) [0, 1, 3] rfl
  have hDc := hD.part (cx := [(p0, Sum.inr (3, [Value.int p0_v_signs, Value.int p0_v_works, Value.int p0_v_whole, Value.int p0_v_otherwise, Value.int p0_v_least, Value.int p0_v_rates, Value.ref p0_a_brings, Value.ref p0_a_costs, Value.ref p0_a_chances, Value.ref p0_a_rate, Value.ref p0_a_mark])), (p0_a_brings, Sum.inl (k_p0_a_brings, 4, Sum.inl f_p0_a_brings)), (p0_a_chances, Sum.inl (k_p0_a_chances, 5, Sum.inr (Sum.inr (Sum.inr (Sum.inr (rows_of 5 R_p0_a_chances))))))]) [0, 1, 3] (by decide) rfl
  have hKc := hK.sub (tys' := [(k_p0_a_brings, FieldType.int), (k_p0_a_chances, (FieldType.array FieldType.int)), (cI, FieldType.int), (cJ, FieldType.long)]) [0, 2, 5, 6] rfl
  have hFc := va_freeP (cx := [(p0, Sum.inr (3, [Value.int p0_v_signs, Value.int p0_v_works, Value.int p0_v_whole, Value.int p0_v_otherwise, Value.int p0_v_least, Value.int p0_v_rates, Value.ref p0_a_brings, Value.ref p0_a_costs, Value.ref p0_a_chances, Value.ref p0_a_rate, Value.ref p0_a_mark])), (p0_a_brings, Sum.inl (k_p0_a_brings, 4, Sum.inl f_p0_a_brings)), (p0_a_chances, Sum.inl (k_p0_a_chances, 5, Sum.inr (Sum.inr (Sum.inr (Sum.inr (rows_of 5 R_p0_a_chances))))))]) hD hS hA [0, 1, 3] rfl
  refine va_calli (va_runV (As := [Value.int p1, Value.int p2]) (rest := []) ⟨hx, hb, hml, hown, hts⟩ (ct_X3_chanceFrom l dC dI p0 p1 p2 p0_v_signs p0_v_works p0_v_whole p0_v_otherwise p0_v_least p0_v_rates p0_a_brings p0_a_costs p0_a_chances p0_a_rate p0_a_mark k_p0_a_brings f_p0_a_brings k_p0_a_chances R_p0_a_chances LP sh fp cI cJ CT hp1 hp2 hp0_v_signs hf_p0_a_brings hfp hRR_p0_a_chances H.size) (cwV 2 hts gX5_settle_X3_chanceFrom rfl rfl rfl ⟨rfl, cn_X3.1, cn_X3.2, ds_9⟩ ⟨Nat.le_of_ble_eq_true rfl, Nat.le_of_ble_eq_true rfl⟩) ⟨fun a U g mk q => by obtain ⟨q0, q1, qP, qK, qD⟩ := q; exact ⟨q0, q1, qP, va_K.moved (u := U) (U := U.calling g mk a) (Vm.Alike.refl U.vm) qK, qD⟩, va_recv hKc hPc (ci := 3) (q0 := 0) rfl rfl, fun U hU hW => ⟨rfl, by rw [hU], by rw [hU]; exact hPc, va_K.moved hW.alike hKc, hDc.weaken (fun _ _ _ _ => trivial)⟩⟩ rfl rfl hl.1 rfl (lv_room (Nat.le_of_ble_eq_true rfl)) dX5_settle_7 ⟨Nat.le_of_ble_eq_true rfl, Nat.le_of_ble_eq_true rfl⟩) hS (fun q _ h => hFc q h) hFc (fun r2 u t H1 locs ht hvm hw hB hz1 hk1 hS => ?_)
  have hw : r2 = u := hw.symm
  subst hw
  obtain ⟨hr2, w3, hP1, hD1⟩ := hB
  rw [ht] at hP1
  obtain ⟨hP, hD⟩ := va_joinP (X := [(p0, Sum.inr (3, [Value.int p0_v_signs, Value.int p0_v_works, Value.int p0_v_whole, Value.int p0_v_otherwise, Value.int p0_v_least, Value.int p0_v_rates, Value.ref p0_a_brings, Value.ref p0_a_costs, Value.ref p0_a_chances, Value.ref p0_a_rate, Value.ref p0_a_mark])), (p0_a_brings, Sum.inl (k_p0_a_brings, 4, Sum.inl f_p0_a_brings)), (p0_a_costs, Sum.inl (k_p0_a_costs, 5, Sum.inl f_p0_a_costs)), (p0_a_chances, Sum.inl (k_p0_a_chances, 5, Sum.inr (Sum.inr (Sum.inr (Sum.inr (rows_of 5 R_p0_a_chances)))))), (p0_a_rate, Sum.inl (k_p0_a_rate, 3, Sum.inl f_p0_a_rate)), (p0_a_mark, Sum.inl (k_p0_a_mark, 2, Sum.inl f_p0_a_mark)), (o, Sum.inr (5, [Value.long 0, Value.long 1, Value.long 0, Value.long 0, Value.int 0]))]) (cx := [(p0, Sum.inr (3, [Value.int p0_v_signs, Value.int p0_v_works, Value.int p0_v_whole, Value.int p0_v_otherwise, Value.int p0_v_least, Value.int p0_v_rates, Value.ref p0_a_brings, Value.ref p0_a_costs, Value.ref p0_a_chances, Value.ref p0_a_rate, Value.ref p0_a_mark])), (p0_a_brings, Sum.inl (k_p0_a_brings, 4, Sum.inl f_p0_a_brings)), (p0_a_chances, Sum.inl (k_p0_a_chances, 5, Sum.inr (Sum.inr (Sum.inr (Sum.inr (rows_of 5 R_p0_a_chances))))))]) (wr := [(p0_a_costs, Sum.inl (k_p0_a_costs, 5, Sum.inl f_p0_a_costs)), (p0_a_rate, Sum.inl (k_p0_a_rate, 3, Sum.inl f_p0_a_rate)), (p0_a_mark, Sum.inl (k_p0_a_mark, 2, Sum.inl f_p0_a_mark)), (o, Sum.inr (5, [Value.long 0, Value.long 1, Value.long 0, Value.long 0, Value.int 0]))]) (rx := [(p0, Sum.inr (3, [Value.int p0_v_signs, Value.int p0_v_works, Value.int p0_v_whole, Value.int p0_v_otherwise, Value.int p0_v_least, Value.int p0_v_rates, Value.ref p0_a_brings, Value.ref p0_a_costs, Value.ref p0_a_chances, Value.ref p0_a_rate, Value.ref p0_a_mark])), (p0_a_brings, Sum.inl (k_p0_a_brings, 4, Sum.inl f_p0_a_brings)), (p0_a_chances, Sum.inl (k_p0_a_chances, 5, Sum.inr (Sum.inr (Sum.inr (Sum.inr (rows_of 5 R_p0_a_chances))))))]) hP hD [0, 1, 3] [2, 4, 5, 6] rfl rfl (by decide) (by decide) hk1 hFc hP1 hD1
  clear hPc hDc hKc hFc hP1 hD1 hk1 hz1
  generalize H1 = H at hP hS ⊢
  have hP : va_P (dC, dI) vwCl ([(p0_a_costs, Sum.inl (k_p0_a_costs, 5, Sum.inl f_p0_a_costs)), (p0_a_rate, Sum.inl (k_p0_a_rate, 3, Sum.inl f_p0_a_rate)), (p0_a_mark, Sum.inl (k_p0_a_mark, 2, Sum.inl f_p0_a_mark)), (o, Sum.inr (5, [Value.long 0, Value.long 1, Value.long 0, Value.long 0, Value.int 0])), (p0, Sum.inr (3, [Value.int p0_v_signs, Value.int p0_v_works, Value.int p0_v_whole, Value.int p0_v_otherwise, Value.int p0_v_least, Value.int p0_v_rates, Value.ref p0_a_brings, Value.ref p0_a_costs, Value.ref p0_a_chances, Value.ref p0_a_rate, Value.ref p0_a_mark])), (p0_a_brings, Sum.inl (k_p0_a_brings, 4, Sum.inl f_p0_a_brings)), (p0_a_chances, Sum.inl (k_p0_a_chances, 5, Sum.inr (Sum.inr (Sum.inr (Sum.inr (rows_of 5 R_p0_a_chances))))))] ++ va_pl LP fp) H := hP
  have hD : va_D A ([(p0_a_costs, Sum.inl (k_p0_a_costs, 5, Sum.inl f_p0_a_costs)), (p0_a_rate, Sum.inl (k_p0_a_rate, 3, Sum.inl f_p0_a_rate)), (p0_a_mark, Sum.inl (k_p0_a_mark, 2, Sum.inl f_p0_a_mark)), (o, Sum.inr (5, [Value.long 0, Value.long 1, Value.long 0, Value.long 0, Value.int 0])), (p0, Sum.inr (3, [Value.int p0_v_signs, Value.int p0_v_works, Value.int p0_v_whole, Value.int p0_v_otherwise, Value.int p0_v_least, Value.int p0_v_rates, Value.ref p0_a_brings, Value.ref p0_a_costs, Value.ref p0_a_chances, Value.ref p0_a_rate, Value.ref p0_a_mark])), (p0_a_brings, Sum.inl (k_p0_a_brings, 4, Sum.inl f_p0_a_brings)), (p0_a_chances, Sum.inl (k_p0_a_chances, 5, Sum.inr (Sum.inr (Sum.inr (Sum.inr (rows_of 5 R_p0_a_chances))))))] ++ va_pl LP fp) := hD
  refine W.widen (k := 0) (n := 0) (by decide) (by decide) ?_
  have br2 := hr2.u
  refine lv_istore (lv' := [(6, Value.int r2), (0, Value.ref o), (1, Value.ref p0), (2, Value.int p1), (3, Value.int p2), (4, Value.int p3), (5, Value.int p4)]) hx hb dX5_settle_10 hl (by decide) rfl (fun ls hl => ?_)
  refine lv_iconst (v := 0) hx hb dX5_settle_12 (by decide) ?_
  refine lv_istore (lv' := [(7, Value.int 0), (6, Value.int r2), (0, Value.ref o), (1, Value.ref p0), (2, Value.int p1), (3, Value.int p2), (4, Value.int p3), (5, Value.int p4)]) hx hb dX5_settle_13 hl (by decide) rfl (fun ls hl => ?_)
  refine tl_loop (I := fun nn H locs ls => ∃ (v4 : Int32) (v5 : Int64) (v6 : Int64) (v7 : Int64) (v8 : Int64) (v9 : Int32), nn = (5 - v4.toInt).toNat ∧ iv v4 0 5 ∧ jv v5 (-10000000) 10000000 ∧ jv v6 1 1600 ∧ jv v7 (-10000000) 10000000 ∧ jv v8 0 1600 ∧ iv v9 0 1 ∧ (lowI (fun j => j < (v4).toNatClampNeg) (neT (fun b => cfr f_p0_a_brings (CT (R_p0_a_chances b)) p2.toNatClampNeg p0_v_signs.toNatClampNeg) p1.toNatClampNeg p3.toInt) (neM f_p0_a_costs p0_v_otherwise.toInt (felC p0_v_rates.toNatClampNeg f_p0_a_rate f_p0_a_mark p0_v_least).toInt p4.toInt p1.toNatClampNeg) 0 v5.toInt v6.toInt) ∧ (capI (fun j => j < (v4).toNatClampNeg) (neT (fun b => cfr f_p0_a_brings (CT (R_p0_a_chances b)) p2.toNatClampNeg p0_v_signs.toNatClampNeg) p1.toNatClampNeg p3.toInt) (neM f_p0_a_costs p0_v_otherwise.toInt (felC p0_v_rates.toNatClampNeg f_p0_a_rate f_p0_a_mark p0_v_least).toInt p4.toInt p1.toNatClampNeg) v7.toInt v8.toInt) ∧ (brI (fun j => j < (v4).toNatClampNeg) (neT (fun b => cfr f_p0_a_brings (CT (R_p0_a_chances b)) p2.toNatClampNeg p0_v_signs.toNatClampNeg) p1.toNatClampNeg p3.toInt) (neM f_p0_a_costs p0_v_otherwise.toInt (felC p0_v_rates.toNatClampNeg f_p0_a_rate f_p0_a_mark p0_v_least).toInt p4.toInt p1.toNatClampNeg) (v9.toInt = 1)) ∧ ((v4).toInt ≤ p0_v_works.toInt) ∧  va_P (dC, dI) vwCl ([(p0_a_costs, Sum.inl (k_p0_a_costs, 5, Sum.inl f_p0_a_costs)), (p0_a_rate, Sum.inl (k_p0_a_rate, 3, Sum.inl f_p0_a_rate)), (p0_a_mark, Sum.inl (k_p0_a_mark, 2, Sum.inl f_p0_a_mark)), (o, Sum.inr (5, [Value.long v5, Value.long v6, Value.long v7, Value.long v8, Value.int v9])), (p0, Sum.inr (3, [Value.int p0_v_signs, Value.int p0_v_works, Value.int p0_v_whole, Value.int p0_v_otherwise, Value.int p0_v_least, Value.int p0_v_rates, Value.ref p0_a_brings, Value.ref p0_a_costs, Value.ref p0_a_chances, Value.ref p0_a_rate, Value.ref p0_a_mark])), (p0_a_brings, Sum.inl (k_p0_a_brings, 4, Sum.inl f_p0_a_brings)), (p0_a_chances, Sum.inl (k_p0_a_chances, 5, Sum.inr (Sum.inr (Sum.inr (Sum.inr (rows_of 5 R_p0_a_chances))))))] ++ va_pl LP fp) H ∧ va_D A ([(p0_a_costs, Sum.inl (k_p0_a_costs, 5, Sum.inl f_p0_a_costs)), (p0_a_rate, Sum.inl (k_p0_a_rate, 3, Sum.inl f_p0_a_rate)), (p0_a_mark, Sum.inl (k_p0_a_mark, 2, Sum.inl f_p0_a_mark)), (o, Sum.inr (5, [Value.long v5, Value.long v6, Value.long v7, Value.long v8, Value.int v9])), (p0, Sum.inr (3, [Value.int p0_v_signs, Value.int p0_v_works, Value.int p0_v_whole, Value.int p0_v_otherwise, Value.int p0_v_least, Value.int p0_v_rates, Value.ref p0_a_brings, Value.ref p0_a_costs, Value.ref p0_a_chances, Value.ref p0_a_rate, Value.ref p0_a_mark])), (p0_a_brings, Sum.inl (k_p0_a_brings, 4, Sum.inl f_p0_a_brings)), (p0_a_chances, Sum.inl (k_p0_a_chances, 5, Sum.inr (Sum.inr (Sum.inr (Sum.inr (rows_of 5 R_p0_a_chances))))))] ++ va_pl LP fp) ∧ va_S A s.heap H locs ∧ lv_has ls 9 [(7, Value.int v4), (6, Value.int r2), (0, Value.ref o), (1, Value.ref p0), (2, Value.int p1), (3, Value.int p2), (4, Value.int p3), (5, Value.int p4)]) ?_ ⟨0, 0, 1, 0, 0, 0, rfl, (iv.m (by decide)), (jv.m (show (-10000000) ≤ (0 : Int64).toInt ∧ (0 : Int64).toInt ≤ 10000000 by decide)), (jv.m (show 1 ≤ (1 : Int64).toInt ∧ (1 : Int64).toInt ≤ 1600 by decide)), (jv.m (show (-10000000) ≤ (0 : Int64).toInt ∧ (0 : Int64).toInt ≤ 10000000 by decide)), (jv.m (show 0 ≤ (0 : Int64).toInt ∧ (0 : Int64).toInt ≤ 1600 by decide)), (iv.m (by decide)), (lowI_0 nlt_0), (capI_0 nlt_0), (brI_0 nlt_0 (by decide)), (by have hz9 : (0 : Int32).toInt = 0 := (by decide); omega), hP, hD, hS, lv_sub hl [0, 1, 2, 3, 4, 5, 6, 7] rfl⟩
  clear hP hD hS hl
  intro nn15 H locs ls hI ih15
  obtain ⟨v4, v5, v6, v7, v8, v9, hn15, hv4, hv5, hv6, hv7, hv8, hv9, hi15_0, hi15_1, hi15_2, hi15_3, hP, hD, hS, hl⟩ := hI
  have bv4 := hv4.u
  refine lv_iload hx hb dX5_settle_15 (lv_at hl 0 rfl) ?_
  refine lv_aload_n hx hb dX5_settle_17 rfl (lv_at hl 3 rfl) ?_
  refine va_get (D := (dC, dI)) (ci := 3) (v := Value.int p0_v_works) (C := RX3) (T := TX3) (N := 11) hx hb hts iw_X5_settle_X3 hown hK hP 4 rfl rfl 1 (by decide) (hts _ kk_X5_settle_0) (fun _ h9 => h9) rfl dX5_settle_18 ?_
  refine lv_icmp_ge (tgt := 75) hx hb dX5_settle_21 (by decide) (fun c10 => ?_) (fun c10 => ?_)
  · have c109 := i32_le c10 rfl rfl
    have hq15 : ∀ j : Nat, j < p0_v_works.toNatClampNeg ↔ j < (v4).toNatClampNeg := by have e8 := nn_eq p0_v_works; have e9 := nn_eq v4; intro j; omega
    refine lv_aload_n hx hb dX5_settle_75 rfl (lv_at hl 2 rfl) ?_
    have hPc := hP.sub (ws' := [(o, Sum.inr (5, [Value.long v5, Value.long v6, Value.long v7, Value.long v8, Value.int v9]))]) [3] rfl
    have hDc := hD.sub (ws' := [(o, Sum.inr (5, [Value.long v5, Value.long v6, Value.long v7, Value.long v8, Value.int v9]))]) [3] (by decide) rfl
    have hKc := hK.sub (tys' := []) [] rfl
    have hFc := va_free (wc := [(o, Sum.inr (5, [Value.long v5, Value.long v6, Value.long v7, Value.long v8, Value.int v9]))]) hD hS hA [3] rfl
    refine va_calli (va_runV (As := []) (rest := []) ⟨hx, hb, hml, hown, hts⟩ (ct_X5_isMet l dC dI o v5 v6 v7 v8 v9 hv5 hv6 hv7 hv8 hv9 H.size) (cwV 0 hts gX5_settle_X5_isMet rfl rfl rfl ⟨rfl, cn_X5.1, cn_X5.2, ds_25⟩ ⟨Nat.le_of_ble_eq_true rfl, Nat.le_of_ble_eq_true rfl⟩) ⟨fun a U g mk q => by obtain ⟨q0, q1, qP, qK, qD⟩ := q; exact ⟨q0, q1, qP, va_K.moved (u := U) (U := U.calling g mk a) (Vm.Alike.refl U.vm) qK, qD⟩, va_recv hKc hPc (ci := 5) (q0 := 0) rfl rfl, fun U hU hW => ⟨rfl, by rw [hU], by rw [hU]; exact hPc, va_K.moved hW.alike hKc, hDc.weaken (fun _ _ _ _ => trivial)⟩⟩ rfl rfl hl.1 rfl (lv_room (Nat.le_of_ble_eq_true rfl)) dX5_settle_76 ⟨Nat.le_of_ble_eq_true rfl, Nat.le_of_ble_eq_true rfl⟩) hS (fun q _ h => hFc q h) hFc (fun r11 u t H1 locs ht hvm hw hB hz1 hk1 hS => ?_)
    have hw : r11 = u := hw.symm
    subst hw
    obtain ⟨w12, hP1, hD1⟩ := hB
    rw [ht] at hP1
    obtain ⟨hP, hD⟩ := va_joinQ (X := [(p0_a_costs, Sum.inl (k_p0_a_costs, 5, Sum.inl f_p0_a_costs)), (p0_a_rate, Sum.inl (k_p0_a_rate, 3, Sum.inl f_p0_a_rate)), (p0_a_mark, Sum.inl (k_p0_a_mark, 2, Sum.inl f_p0_a_mark)), (o, Sum.inr (5, [Value.long v5, Value.long v6, Value.long v7, Value.long v8, Value.int v9])), (p0, Sum.inr (3, [Value.int p0_v_signs, Value.int p0_v_works, Value.int p0_v_whole, Value.int p0_v_otherwise, Value.int p0_v_least, Value.int p0_v_rates, Value.ref p0_a_brings, Value.ref p0_a_costs, Value.ref p0_a_chances, Value.ref p0_a_rate, Value.ref p0_a_mark])), (p0_a_brings, Sum.inl (k_p0_a_brings, 4, Sum.inl f_p0_a_brings)), (p0_a_chances, Sum.inl (k_p0_a_chances, 5, Sum.inr (Sum.inr (Sum.inr (Sum.inr (rows_of 5 R_p0_a_chances))))))]) (cx := [(o, Sum.inr (5, [Value.long v5, Value.long v6, Value.long v7, Value.long v8, Value.int v9]))]) (wr := [(p0_a_costs, Sum.inl (k_p0_a_costs, 5, Sum.inl f_p0_a_costs)), (p0_a_rate, Sum.inl (k_p0_a_rate, 3, Sum.inl f_p0_a_rate)), (p0_a_mark, Sum.inl (k_p0_a_mark, 2, Sum.inl f_p0_a_mark)), (p0, Sum.inr (3, [Value.int p0_v_signs, Value.int p0_v_works, Value.int p0_v_whole, Value.int p0_v_otherwise, Value.int p0_v_least, Value.int p0_v_rates, Value.ref p0_a_brings, Value.ref p0_a_costs, Value.ref p0_a_chances, Value.ref p0_a_rate, Value.ref p0_a_mark])), (p0_a_brings, Sum.inl (k_p0_a_brings, 4, Sum.inl f_p0_a_brings)), (p0_a_chances, Sum.inl (k_p0_a_chances, 5, Sum.inr (Sum.inr (Sum.inr (Sum.inr (rows_of 5 R_p0_a_chances))))))]) (w1 := [(o, Sum.inr (5, [Value.long v5, Value.long v6, Value.long v7, Value.long v8, Value.int v9]))]) hP hD [3] [0, 1, 2, 4, 5, 6] rfl rfl (by decide) (by decide) hk1 hFc hP1 hD1
    clear hPc hDc hKc hFc hP1 hD1 hk1 hz1
    generalize H1 = H at hP hS ⊢
    have hP : va_P (dC, dI) vwCl ([(p0_a_costs, Sum.inl (k_p0_a_costs, 5, Sum.inl f_p0_a_costs)), (p0_a_rate, Sum.inl (k_p0_a_rate, 3, Sum.inl f_p0_a_rate)), (p0_a_mark, Sum.inl (k_p0_a_mark, 2, Sum.inl f_p0_a_mark)), (p0, Sum.inr (3, [Value.int p0_v_signs, Value.int p0_v_works, Value.int p0_v_whole, Value.int p0_v_otherwise, Value.int p0_v_least, Value.int p0_v_rates, Value.ref p0_a_brings, Value.ref p0_a_costs, Value.ref p0_a_chances, Value.ref p0_a_rate, Value.ref p0_a_mark])), (p0_a_brings, Sum.inl (k_p0_a_brings, 4, Sum.inl f_p0_a_brings)), (p0_a_chances, Sum.inl (k_p0_a_chances, 5, Sum.inr (Sum.inr (Sum.inr (Sum.inr (rows_of 5 R_p0_a_chances)))))), (o, Sum.inr (5, [Value.long v5, Value.long v6, Value.long v7, Value.long v8, Value.int v9]))] ++ va_pl LP fp) H := hP
    have hD : va_D A ([(p0_a_costs, Sum.inl (k_p0_a_costs, 5, Sum.inl f_p0_a_costs)), (p0_a_rate, Sum.inl (k_p0_a_rate, 3, Sum.inl f_p0_a_rate)), (p0_a_mark, Sum.inl (k_p0_a_mark, 2, Sum.inl f_p0_a_mark)), (p0, Sum.inr (3, [Value.int p0_v_signs, Value.int p0_v_works, Value.int p0_v_whole, Value.int p0_v_otherwise, Value.int p0_v_least, Value.int p0_v_rates, Value.ref p0_a_brings, Value.ref p0_a_costs, Value.ref p0_a_chances, Value.ref p0_a_rate, Value.ref p0_a_mark])), (p0_a_brings, Sum.inl (k_p0_a_brings, 4, Sum.inl f_p0_a_brings)), (p0_a_chances, Sum.inl (k_p0_a_chances, 5, Sum.inr (Sum.inr (Sum.inr (Sum.inr (rows_of 5 R_p0_a_chances)))))), (o, Sum.inr (5, [Value.long v5, Value.long v6, Value.long v7, Value.long v8, Value.int v9]))] ++ va_pl LP fp) := hD
    refine W.widen (k := 0) (n := 0) (by decide) (by decide) ?_
    rcases w12 with ⟨hr9, w12_0_0⟩ | ⟨hr9, w12_1_0⟩
    · subst hr9
      have hP9 := hP.part (cx := [(o, Sum.inr (5, [Value.long v5, Value.long v6, Value.long v7, Value.long v8, Value.int v9])), (p0, Sum.inr (3, [Value.int p0_v_signs, Value.int p0_v_works, Value.int p0_v_whole, Value.int p0_v_otherwise, Value.int p0_v_least, Value.int p0_v_rates, Value.ref p0_a_brings, Value.ref p0_a_costs, Value.ref p0_a_chances, Value.ref p0_a_rate, Value.ref p0_a_mark])), (p0_a_brings, Sum.inl (k_p0_a_brings, 4, Sum.inl f_p0_a_brings)), (p0_a_costs, Sum.inl (k_p0_a_costs, 5, Sum.inl f_p0_a_costs)), (p0_a_chances, Sum.inl (k_p0_a_chances, 5, Sum.inr (Sum.inr (Sum.inr (Sum.inr (rows_of 5 R_p0_a_chances)))))), (p0_a_rate, Sum.inl (k_p0_a_rate, 3, Sum.inl f_p0_a_rate)), (p0_a_mark, Sum.inl (k_p0_a_mark, 2, Sum.inl f_p0_a_mark))]) [6, 3, 4, 0, 5, 1, 2] rfl
      have hD9 := hD.part (cx := [(o, Sum.inr (5, [Value.long v5, Value.long v6, Value.long v7, Value.long v8, Value.int v9])), (p0, Sum.inr (3, [Value.int p0_v_signs, Value.int p0_v_works, Value.int p0_v_whole, Value.int p0_v_otherwise, Value.int p0_v_least, Value.int p0_v_rates, Value.ref p0_a_brings, Value.ref p0_a_costs, Value.ref p0_a_chances, Value.ref p0_a_rate, Value.ref p0_a_mark])), (p0_a_brings, Sum.inl (k_p0_a_brings, 4, Sum.inl f_p0_a_brings)), (p0_a_costs, Sum.inl (k_p0_a_costs, 5, Sum.inl f_p0_a_costs)), (p0_a_chances, Sum.inl (k_p0_a_chances, 5, Sum.inr (Sum.inr (Sum.inr (Sum.inr (rows_of 5 R_p0_a_chances)))))), (p0_a_rate, Sum.inl (k_p0_a_rate, 3, Sum.inl f_p0_a_rate)), (p0_a_mark, Sum.inl (k_p0_a_mark, 2, Sum.inl f_p0_a_mark))]) [6, 3, 4, 0, 5, 1, 2] (by decide) rfl
      exact W.zret (v := 0) hx hb hr rfl (fun t ht hW => ⟨⟨0, 0, rfl, rfl, v5, v6, v7, v8, v9, hv5, hv6, hv7, hv8, hv9, (Or.inl ⟨rfl, (by exact fun z9 => w12_0_0 ((fea_iff (lowI_iff hi15_0 hq15) (capI_iff hi15_1 hq15) (brI_iff hi15_2 hq15)).mpr z9))⟩), by rw [ht]; exact hP9, hD9⟩, hS.F ht⟩) hS.2.2 dX5_settle_79
    · subst hr9
      have hP9 := hP.part (cx := [(o, Sum.inr (5, [Value.long v5, Value.long v6, Value.long v7, Value.long v8, Value.int v9])), (p0, Sum.inr (3, [Value.int p0_v_signs, Value.int p0_v_works, Value.int p0_v_whole, Value.int p0_v_otherwise, Value.int p0_v_least, Value.int p0_v_rates, Value.ref p0_a_brings, Value.ref p0_a_costs, Value.ref p0_a_chances, Value.ref p0_a_rate, Value.ref p0_a_mark])), (p0_a_brings, Sum.inl (k_p0_a_brings, 4, Sum.inl f_p0_a_brings)), (p0_a_costs, Sum.inl (k_p0_a_costs, 5, Sum.inl f_p0_a_costs)), (p0_a_chances, Sum.inl (k_p0_a_chances, 5, Sum.inr (Sum.inr (Sum.inr (Sum.inr (rows_of 5 R_p0_a_chances)))))), (p0_a_rate, Sum.inl (k_p0_a_rate, 3, Sum.inl f_p0_a_rate)), (p0_a_mark, Sum.inl (k_p0_a_mark, 2, Sum.inl f_p0_a_mark))]) [6, 3, 4, 0, 5, 1, 2] rfl
      have hD9 := hD.part (cx := [(o, Sum.inr (5, [Value.long v5, Value.long v6, Value.long v7, Value.long v8, Value.int v9])), (p0, Sum.inr (3, [Value.int p0_v_signs, Value.int p0_v_works, Value.int p0_v_whole, Value.int p0_v_otherwise, Value.int p0_v_least, Value.int p0_v_rates, Value.ref p0_a_brings, Value.ref p0_a_costs, Value.ref p0_a_chances, Value.ref p0_a_rate, Value.ref p0_a_mark])), (p0_a_brings, Sum.inl (k_p0_a_brings, 4, Sum.inl f_p0_a_brings)), (p0_a_costs, Sum.inl (k_p0_a_costs, 5, Sum.inl f_p0_a_costs)), (p0_a_chances, Sum.inl (k_p0_a_chances, 5, Sum.inr (Sum.inr (Sum.inr (Sum.inr (rows_of 5 R_p0_a_chances)))))), (p0_a_rate, Sum.inl (k_p0_a_rate, 3, Sum.inl f_p0_a_rate)), (p0_a_mark, Sum.inl (k_p0_a_mark, 2, Sum.inl f_p0_a_mark))]) [6, 3, 4, 0, 5, 1, 2] (by decide) rfl
      exact W.zret (v := 1) hx hb hr rfl (fun t ht hW => ⟨⟨1, 1, rfl, rfl, v5, v6, v7, v8, v9, hv5, hv6, hv7, hv8, hv9, (Or.inr (⟨rfl, (by exact (fea_iff (lowI_iff hi15_0 hq15) (capI_iff hi15_1 hq15) (brI_iff hi15_2 hq15)).mp w12_1_0), (by exact lowI_iff hi15_0 hq15)⟩)), by rw [ht]; exact hP9, hD9⟩, hS.F ht⟩) hS.2.2 dX5_settle_79
  · have c109 := i32_nle c10 rfl rfl
    refine lv_iload hx hb dX5_settle_24 (lv_at hl 1 rfl) ?_
    refine lv_iload hx hb dX5_settle_26 (lv_at hl 0 rfl) ?_
    refine lv_iload_n hx hb dX5_settle_28 rfl (lv_at hl 4 rfl) ?_
    refine lv_icmp_ne (tgt := 36) hx hb dX5_settle_29 (by decide) (fun c13 => ?_) (fun c13 => ?_)
    · have c139 := i32_ne c13 rfl rfl
      refine lv_aload_n hx hb dX5_settle_36 rfl (lv_at hl 3 rfl) ?_
      refine lv_iload hx hb dX5_settle_37 (lv_at hl 0 rfl) ?_
      refine lv_iload_n hx hb dX5_settle_39 rfl (lv_at hl 5 rfl) ?_
      have hPc := hP.part (cx := [(p0, Sum.inr (3, [Value.int p0_v_signs, Value.int p0_v_works, Value.int p0_v_whole, Value.int p0_v_otherwise, Value.int p0_v_least, Value.int p0_v_rates, Value.ref p0_a_brings, Value.ref p0_a_costs, Value.ref p0_a_chances, Value.ref p0_a_rate, Value.ref p0_a_mark])), (p0_a_brings, Sum.inl (k_p0_a_brings, 4, Sum.inl f_p0_a_brings)), (p0_a_chances, Sum.inl (k_p0_a_chances, 5, Sum.inr (Sum.inr (Sum.inr (Sum.inr (rows_of 5 R_p0_a_chances))))))]) [4, 5, 6] rfl
      have hDc := hD.part (cx := [(p0, Sum.inr (3, [Value.int p0_v_signs, Value.int p0_v_works, Value.int p0_v_whole, Value.int p0_v_otherwise, Value.int p0_v_least, Value.int p0_v_rates, Value.ref p0_a_brings, Value.ref p0_a_costs, Value.ref p0_a_chances, Value.ref p0_a_rate, Value.ref p0_a_mark])), (p0_a_brings, Sum.inl (k_p0_a_brings, 4, Sum.inl f_p0_a_brings)), (p0_a_chances, Sum.inl (k_p0_a_chances, 5, Sum.inr (Sum.inr (Sum.inr (Sum.inr (rows_of 5 R_p0_a_chances))))))]) [4, 5, 6] (by decide) rfl
      have hKc := hK.sub (tys' := [(k_p0_a_brings, FieldType.int), (k_p0_a_chances, (FieldType.array FieldType.int)), (cI, FieldType.int), (cJ, FieldType.long)]) [0, 2, 5, 6] rfl
      have hFc := va_freeP (cx := [(p0, Sum.inr (3, [Value.int p0_v_signs, Value.int p0_v_works, Value.int p0_v_whole, Value.int p0_v_otherwise, Value.int p0_v_least, Value.int p0_v_rates, Value.ref p0_a_brings, Value.ref p0_a_costs, Value.ref p0_a_chances, Value.ref p0_a_rate, Value.ref p0_a_mark])), (p0_a_brings, Sum.inl (k_p0_a_brings, 4, Sum.inl f_p0_a_brings)), (p0_a_chances, Sum.inl (k_p0_a_chances, 5, Sum.inr (Sum.inr (Sum.inr (Sum.inr (rows_of 5 R_p0_a_chances))))))]) hD hS hA [4, 5, 6] rfl
      refine va_calli (va_runV (As := [Value.int v4, Value.int p2]) (rest := [Value.int r2]) ⟨hx, hb, hml, hown, hts⟩ (ct_X3_chanceFrom l dC dI p0 v4 p2 p0_v_signs p0_v_works p0_v_whole p0_v_otherwise p0_v_least p0_v_rates p0_a_brings p0_a_costs p0_a_chances p0_a_rate p0_a_mark k_p0_a_brings f_p0_a_brings k_p0_a_chances R_p0_a_chances LP sh fp cI cJ CT (iv.m (by omega)) hp2 hp0_v_signs hf_p0_a_brings hfp hRR_p0_a_chances H.size) (cwV 2 hts gX5_settle_X3_chanceFrom rfl rfl rfl ⟨rfl, cn_X3.1, cn_X3.2, ds_9⟩ ⟨Nat.le_of_ble_eq_true rfl, Nat.le_of_ble_eq_true rfl⟩) ⟨fun a U g mk q => by obtain ⟨q0, q1, qP, qK, qD⟩ := q; exact ⟨q0, q1, qP, va_K.moved (u := U) (U := U.calling g mk a) (Vm.Alike.refl U.vm) qK, qD⟩, va_recv hKc hPc (ci := 3) (q0 := 0) rfl rfl, fun U hU hW => ⟨rfl, by rw [hU], by rw [hU]; exact hPc, va_K.moved hW.alike hKc, hDc.weaken (fun _ _ _ _ => trivial)⟩⟩ rfl rfl hl.1 rfl (lv_room (Nat.le_of_ble_eq_true rfl)) dX5_settle_40 ⟨Nat.le_of_ble_eq_true rfl, Nat.le_of_ble_eq_true rfl⟩) hS (fun q _ h => hFc q h) hFc (fun r14 u t H1 locs ht hvm hw hB hz1 hk1 hS => ?_)
      have hw : r14 = u := hw.symm
      subst hw
      obtain ⟨hr14, w15, hP1, hD1⟩ := hB
      rw [ht] at hP1
      obtain ⟨hP, hD⟩ := va_joinP (X := [(p0_a_costs, Sum.inl (k_p0_a_costs, 5, Sum.inl f_p0_a_costs)), (p0_a_rate, Sum.inl (k_p0_a_rate, 3, Sum.inl f_p0_a_rate)), (p0_a_mark, Sum.inl (k_p0_a_mark, 2, Sum.inl f_p0_a_mark)), (o, Sum.inr (5, [Value.long v5, Value.long v6, Value.long v7, Value.long v8, Value.int v9])), (p0, Sum.inr (3, [Value.int p0_v_signs, Value.int p0_v_works, Value.int p0_v_whole, Value.int p0_v_otherwise, Value.int p0_v_least, Value.int p0_v_rates, Value.ref p0_a_brings, Value.ref p0_a_costs, Value.ref p0_a_chances, Value.ref p0_a_rate, Value.ref p0_a_mark])), (p0_a_brings, Sum.inl (k_p0_a_brings, 4, Sum.inl f_p0_a_brings)), (p0_a_chances, Sum.inl (k_p0_a_chances, 5, Sum.inr (Sum.inr (Sum.inr (Sum.inr (rows_of 5 R_p0_a_chances))))))]) (cx := [(p0, Sum.inr (3, [Value.int p0_v_signs, Value.int p0_v_works, Value.int p0_v_whole, Value.int p0_v_otherwise, Value.int p0_v_least, Value.int p0_v_rates, Value.ref p0_a_brings, Value.ref p0_a_costs, Value.ref p0_a_chances, Value.ref p0_a_rate, Value.ref p0_a_mark])), (p0_a_brings, Sum.inl (k_p0_a_brings, 4, Sum.inl f_p0_a_brings)), (p0_a_chances, Sum.inl (k_p0_a_chances, 5, Sum.inr (Sum.inr (Sum.inr (Sum.inr (rows_of 5 R_p0_a_chances))))))]) (wr := [(p0_a_costs, Sum.inl (k_p0_a_costs, 5, Sum.inl f_p0_a_costs)), (p0_a_rate, Sum.inl (k_p0_a_rate, 3, Sum.inl f_p0_a_rate)), (p0_a_mark, Sum.inl (k_p0_a_mark, 2, Sum.inl f_p0_a_mark)), (o, Sum.inr (5, [Value.long v5, Value.long v6, Value.long v7, Value.long v8, Value.int v9]))]) (rx := [(p0, Sum.inr (3, [Value.int p0_v_signs, Value.int p0_v_works, Value.int p0_v_whole, Value.int p0_v_otherwise, Value.int p0_v_least, Value.int p0_v_rates, Value.ref p0_a_brings, Value.ref p0_a_costs, Value.ref p0_a_chances, Value.ref p0_a_rate, Value.ref p0_a_mark])), (p0_a_brings, Sum.inl (k_p0_a_brings, 4, Sum.inl f_p0_a_brings)), (p0_a_chances, Sum.inl (k_p0_a_chances, 5, Sum.inr (Sum.inr (Sum.inr (Sum.inr (rows_of 5 R_p0_a_chances))))))]) hP hD [4, 5, 6] [0, 1, 2, 3] rfl rfl (by decide) (by decide) hk1 hFc hP1 hD1
      clear hPc hDc hKc hFc hP1 hD1 hk1 hz1
      generalize H1 = H at hP hS ⊢
      have hP : va_P (dC, dI) vwCl ([(p0_a_costs, Sum.inl (k_p0_a_costs, 5, Sum.inl f_p0_a_costs)), (p0_a_rate, Sum.inl (k_p0_a_rate, 3, Sum.inl f_p0_a_rate)), (p0_a_mark, Sum.inl (k_p0_a_mark, 2, Sum.inl f_p0_a_mark)), (o, Sum.inr (5, [Value.long v5, Value.long v6, Value.long v7, Value.long v8, Value.int v9])), (p0, Sum.inr (3, [Value.int p0_v_signs, Value.int p0_v_works, Value.int p0_v_whole, Value.int p0_v_otherwise, Value.int p0_v_least, Value.int p0_v_rates, Value.ref p0_a_brings, Value.ref p0_a_costs, Value.ref p0_a_chances, Value.ref p0_a_rate, Value.ref p0_a_mark])), (p0_a_brings, Sum.inl (k_p0_a_brings, 4, Sum.inl f_p0_a_brings)), (p0_a_chances, Sum.inl (k_p0_a_chances, 5, Sum.inr (Sum.inr (Sum.inr (Sum.inr (rows_of 5 R_p0_a_chances))))))] ++ va_pl LP fp) H := hP
      have hD : va_D A ([(p0_a_costs, Sum.inl (k_p0_a_costs, 5, Sum.inl f_p0_a_costs)), (p0_a_rate, Sum.inl (k_p0_a_rate, 3, Sum.inl f_p0_a_rate)), (p0_a_mark, Sum.inl (k_p0_a_mark, 2, Sum.inl f_p0_a_mark)), (o, Sum.inr (5, [Value.long v5, Value.long v6, Value.long v7, Value.long v8, Value.int v9])), (p0, Sum.inr (3, [Value.int p0_v_signs, Value.int p0_v_works, Value.int p0_v_whole, Value.int p0_v_otherwise, Value.int p0_v_least, Value.int p0_v_rates, Value.ref p0_a_brings, Value.ref p0_a_costs, Value.ref p0_a_chances, Value.ref p0_a_rate, Value.ref p0_a_mark])), (p0_a_brings, Sum.inl (k_p0_a_brings, 4, Sum.inl f_p0_a_brings)), (p0_a_chances, Sum.inl (k_p0_a_chances, 5, Sum.inr (Sum.inr (Sum.inr (Sum.inr (rows_of 5 R_p0_a_chances))))))] ++ va_pl LP fp) := hD
      refine W.widen (k := 0) (n := 0) (by decide) (by decide) ?_
      have br14 := hr14.u
      refine lv_isub hx hb dX5_settle_43 ?_
      refine lv_topi (fun x16 ex16 => ?_)
      have tx16 := i32_sub ex16 rfl rfl (by omega) (by omega)
      refine lv_istore (lv' := [(8, Value.int x16), (7, Value.int v4), (6, Value.int r2), (0, Value.ref o), (1, Value.ref p0), (2, Value.int p1), (3, Value.int p2), (4, Value.int p3), (5, Value.int p4)]) hx hb dX5_settle_44 hl (by decide) rfl (fun ls hl => ?_)
      refine lv_aload_n hx hb dX5_settle_46 rfl (lv_at hl 3 rfl) ?_
      refine lv_iload hx hb dX5_settle_47 (lv_at hl 0 rfl) ?_
      refine lv_i2l (v := (x16).toInt64) hx hb dX5_settle_49 rfl ?_
      refine lv_iload hx hb dX5_settle_50 (lv_at hl 7 rfl) ?_
      refine lv_i2l (v := (p3).toInt64) hx hb dX5_settle_52 rfl ?_
      refine lv_lmul hx hb dX5_settle_53 ?_
      refine lv_topl (fun y17 ey17 => ?_)
      have hy17 : jv y17 (-1600) 1600 := jv.mula (B := 40) (D := 40) ey17 (jv.i (show iv x16 (-40) 40 from (iv.m (by omega)))) (jv.i (show iv p3 0 40 from hp3)) (by decide) (by decide) (by decide) (by decide) (by decide) (by decide)
      refine lv_iload hx hb dX5_settle_54 (lv_at hl 8 rfl) ?_
      refine lv_i2l (v := (p4).toInt64) hx hb dX5_settle_56 rfl ?_
      refine lv_aload_n hx hb dX5_settle_57 rfl (lv_at hl 4 rfl) ?_
      refine lv_iload_n hx hb dX5_settle_58 rfl (lv_at hl 5 rfl) ?_
      refine lv_iload hx hb dX5_settle_59 (lv_at hl 1 rfl) ?_
      have hPc := hP.sub (ws' := [(p0, Sum.inr (3, [Value.int p0_v_signs, Value.int p0_v_works, Value.int p0_v_whole, Value.int p0_v_otherwise, Value.int p0_v_least, Value.int p0_v_rates, Value.ref p0_a_brings, Value.ref p0_a_costs, Value.ref p0_a_chances, Value.ref p0_a_rate, Value.ref p0_a_mark])), (p0_a_costs, Sum.inl (k_p0_a_costs, 5, Sum.inl f_p0_a_costs)), (p0_a_rate, Sum.inl (k_p0_a_rate, 3, Sum.inl f_p0_a_rate)), (p0_a_mark, Sum.inl (k_p0_a_mark, 2, Sum.inl f_p0_a_mark))]) [4, 0, 1, 2] rfl
      have hDc := hD.sub (ws' := [(p0, Sum.inr (3, [Value.int p0_v_signs, Value.int p0_v_works, Value.int p0_v_whole, Value.int p0_v_otherwise, Value.int p0_v_least, Value.int p0_v_rates, Value.ref p0_a_brings, Value.ref p0_a_costs, Value.ref p0_a_chances, Value.ref p0_a_rate, Value.ref p0_a_mark])), (p0_a_costs, Sum.inl (k_p0_a_costs, 5, Sum.inl f_p0_a_costs)), (p0_a_rate, Sum.inl (k_p0_a_rate, 3, Sum.inl f_p0_a_rate)), (p0_a_mark, Sum.inl (k_p0_a_mark, 2, Sum.inl f_p0_a_mark))]) [4, 0, 1, 2] (by decide) rfl
      have hKc := hK.sub (tys' := [(k_p0_a_costs, FieldType.int), (k_p0_a_rate, FieldType.int), (k_p0_a_mark, FieldType.int)]) [1, 3, 4] rfl
      have hFc := va_free (wc := [(p0, Sum.inr (3, [Value.int p0_v_signs, Value.int p0_v_works, Value.int p0_v_whole, Value.int p0_v_otherwise, Value.int p0_v_least, Value.int p0_v_rates, Value.ref p0_a_brings, Value.ref p0_a_costs, Value.ref p0_a_chances, Value.ref p0_a_rate, Value.ref p0_a_mark])), (p0_a_costs, Sum.inl (k_p0_a_costs, 5, Sum.inl f_p0_a_costs)), (p0_a_rate, Sum.inl (k_p0_a_rate, 3, Sum.inl f_p0_a_rate)), (p0_a_mark, Sum.inl (k_p0_a_mark, 2, Sum.inl f_p0_a_mark))]) hD hS hA [4, 0, 1, 2] rfl
      refine va_calli (va_runV (As := [Value.int p1, Value.int v4]) (rest := [Value.long ((p4).toInt64), Value.long y17, Value.ref o]) ⟨hx, hb, hml, hown, hts⟩ (ct_X3_lackOf l dC dI p0 p1 v4 p0_v_signs p0_v_works p0_v_whole p0_v_otherwise p0_v_least p0_v_rates p0_a_brings p0_a_costs p0_a_chances p0_a_rate p0_a_mark k_p0_a_costs f_p0_a_costs k_p0_a_rate f_p0_a_rate k_p0_a_mark f_p0_a_mark hp1 (iv.m (by omega)) hp0_v_otherwise hp0_v_least hp0_v_rates hf_p0_a_costs hf_p0_a_rate hf_p0_a_mark hmr H.size) (cwV 2 hts gX5_settle_X3_lackOf rfl rfl rfl ⟨rfl, cn_X3.1, cn_X3.2, ds_9⟩ ⟨Nat.le_of_ble_eq_true rfl, Nat.le_of_ble_eq_true rfl⟩) ⟨fun a U g mk q => by obtain ⟨q0, q1, qP, qK, qD⟩ := q; exact ⟨q0, q1, qP, va_K.moved (u := U) (U := U.calling g mk a) (Vm.Alike.refl U.vm) qK, qD⟩, va_recv hKc hPc (ci := 3) (q0 := 0) rfl rfl, fun U hU hW => ⟨rfl, by rw [hU], by rw [hU]; exact hPc, va_K.moved hW.alike hKc, hDc.weaken (fun _ _ _ _ => trivial)⟩⟩ rfl rfl hl.1 rfl (lv_room (Nat.le_of_ble_eq_true rfl)) dX5_settle_61 ⟨Nat.le_of_ble_eq_true rfl, Nat.le_of_ble_eq_true rfl⟩) hS (fun q _ h => hFc q h) hFc (fun r18 u t H1 locs ht hvm hw hB hz1 hk1 hS => ?_)
      have hw : r18 = u := hw.symm
      subst hw
      obtain ⟨hr18, w19, hP1, hD1⟩ := hB
      rw [ht] at hP1
      obtain ⟨hP, hD⟩ := va_joinQ (X := [(p0_a_costs, Sum.inl (k_p0_a_costs, 5, Sum.inl f_p0_a_costs)), (p0_a_rate, Sum.inl (k_p0_a_rate, 3, Sum.inl f_p0_a_rate)), (p0_a_mark, Sum.inl (k_p0_a_mark, 2, Sum.inl f_p0_a_mark)), (o, Sum.inr (5, [Value.long v5, Value.long v6, Value.long v7, Value.long v8, Value.int v9])), (p0, Sum.inr (3, [Value.int p0_v_signs, Value.int p0_v_works, Value.int p0_v_whole, Value.int p0_v_otherwise, Value.int p0_v_least, Value.int p0_v_rates, Value.ref p0_a_brings, Value.ref p0_a_costs, Value.ref p0_a_chances, Value.ref p0_a_rate, Value.ref p0_a_mark])), (p0_a_brings, Sum.inl (k_p0_a_brings, 4, Sum.inl f_p0_a_brings)), (p0_a_chances, Sum.inl (k_p0_a_chances, 5, Sum.inr (Sum.inr (Sum.inr (Sum.inr (rows_of 5 R_p0_a_chances))))))]) (cx := [(p0, Sum.inr (3, [Value.int p0_v_signs, Value.int p0_v_works, Value.int p0_v_whole, Value.int p0_v_otherwise, Value.int p0_v_least, Value.int p0_v_rates, Value.ref p0_a_brings, Value.ref p0_a_costs, Value.ref p0_a_chances, Value.ref p0_a_rate, Value.ref p0_a_mark])), (p0_a_costs, Sum.inl (k_p0_a_costs, 5, Sum.inl f_p0_a_costs)), (p0_a_rate, Sum.inl (k_p0_a_rate, 3, Sum.inl f_p0_a_rate)), (p0_a_mark, Sum.inl (k_p0_a_mark, 2, Sum.inl f_p0_a_mark))]) (wr := [(o, Sum.inr (5, [Value.long v5, Value.long v6, Value.long v7, Value.long v8, Value.int v9])), (p0_a_brings, Sum.inl (k_p0_a_brings, 4, Sum.inl f_p0_a_brings)), (p0_a_chances, Sum.inl (k_p0_a_chances, 5, Sum.inr (Sum.inr (Sum.inr (Sum.inr (rows_of 5 R_p0_a_chances))))))]) (w1 := [(p0, Sum.inr (3, [Value.int p0_v_signs, Value.int p0_v_works, Value.int p0_v_whole, Value.int p0_v_otherwise, Value.int p0_v_least, Value.int p0_v_rates, Value.ref p0_a_brings, Value.ref p0_a_costs, Value.ref p0_a_chances, Value.ref p0_a_rate, Value.ref p0_a_mark])), (p0_a_costs, Sum.inl (k_p0_a_costs, 5, Sum.inl f_p0_a_costs)), (p0_a_rate, Sum.inl (k_p0_a_rate, 3, Sum.inl f_p0_a_rate)), (p0_a_mark, Sum.inl (k_p0_a_mark, 2, Sum.inl f_p0_a_mark))]) hP hD [4, 0, 1, 2] [3, 5, 6] rfl rfl (by decide) (by decide) hk1 hFc hP1 hD1
      clear hPc hDc hKc hFc hP1 hD1 hk1 hz1
      generalize H1 = H at hP hS ⊢
      have hP : va_P (dC, dI) vwCl ([(o, Sum.inr (5, [Value.long v5, Value.long v6, Value.long v7, Value.long v8, Value.int v9])), (p0_a_brings, Sum.inl (k_p0_a_brings, 4, Sum.inl f_p0_a_brings)), (p0_a_chances, Sum.inl (k_p0_a_chances, 5, Sum.inr (Sum.inr (Sum.inr (Sum.inr (rows_of 5 R_p0_a_chances)))))), (p0, Sum.inr (3, [Value.int p0_v_signs, Value.int p0_v_works, Value.int p0_v_whole, Value.int p0_v_otherwise, Value.int p0_v_least, Value.int p0_v_rates, Value.ref p0_a_brings, Value.ref p0_a_costs, Value.ref p0_a_chances, Value.ref p0_a_rate, Value.ref p0_a_mark])), (p0_a_costs, Sum.inl (k_p0_a_costs, 5, Sum.inl f_p0_a_costs)), (p0_a_rate, Sum.inl (k_p0_a_rate, 3, Sum.inl f_p0_a_rate)), (p0_a_mark, Sum.inl (k_p0_a_mark, 2, Sum.inl f_p0_a_mark))] ++ va_pl LP fp) H := hP
      have hD : va_D A ([(o, Sum.inr (5, [Value.long v5, Value.long v6, Value.long v7, Value.long v8, Value.int v9])), (p0_a_brings, Sum.inl (k_p0_a_brings, 4, Sum.inl f_p0_a_brings)), (p0_a_chances, Sum.inl (k_p0_a_chances, 5, Sum.inr (Sum.inr (Sum.inr (Sum.inr (rows_of 5 R_p0_a_chances)))))), (p0, Sum.inr (3, [Value.int p0_v_signs, Value.int p0_v_works, Value.int p0_v_whole, Value.int p0_v_otherwise, Value.int p0_v_least, Value.int p0_v_rates, Value.ref p0_a_brings, Value.ref p0_a_costs, Value.ref p0_a_chances, Value.ref p0_a_rate, Value.ref p0_a_mark])), (p0_a_costs, Sum.inl (k_p0_a_costs, 5, Sum.inl f_p0_a_costs)), (p0_a_rate, Sum.inl (k_p0_a_rate, 3, Sum.inl f_p0_a_rate)), (p0_a_mark, Sum.inl (k_p0_a_mark, 2, Sum.inl f_p0_a_mark))] ++ va_pl LP fp) := hD
      refine W.widen (k := 0) (n := 0) (by decide) (by decide) ?_
      have br18 := hr18.u
      refine lv_i2l (v := (r18).toInt64) hx hb dX5_settle_64 rfl ?_
      refine lv_lmul hx hb dX5_settle_65 ?_
      refine lv_topl (fun y20 ey20 => ?_)
      have hy20 : jv y20 (-49500) 49500 := jv.mula (B := 100) (D := 495) ey20 (jv.i (show iv p4 0 100 from hp4)) (jv.i (show iv r18 (-495) 198 from hr18)) (by decide) (by decide) (by decide) (by decide) (by decide) (by decide)
      have ty17 : y17.toInt = x16.toInt * p3.toInt := by rw [i64_ml ey17 (show jv ((x16).toInt64) (-10000000) 10000000 from ((jv.i (show iv x16 (-40) 40 from (iv.m (by omega)))).w (by decide) (by decide))).1 (show jv ((x16).toInt64) (-10000000) 10000000 from ((jv.i (show iv x16 (-40) 40 from (iv.m (by omega)))).w (by decide) (by decide))).2 (show jv ((p3).toInt64) (-10000000) 10000000 from ((jv.i (show iv p3 0 40 from hp3)).w (by decide) (by decide))).1 (show jv ((p3).toInt64) (-10000000) 10000000 from ((jv.i (show iv p3 0 40 from hp3)).w (by decide) (by decide))).2, l_i, l_i]
      have ty20 : y20.toInt = p4.toInt * r18.toInt := by rw [i64_ml ey20 (show jv ((p4).toInt64) (-10000000) 10000000 from ((jv.i (show iv p4 0 100 from hp4)).w (by decide) (by decide))).1 (show jv ((p4).toInt64) (-10000000) 10000000 from ((jv.i (show iv p4 0 100 from hp4)).w (by decide) (by decide))).2 (show jv ((r18).toInt64) (-10000000) 10000000 from ((jv.i (show iv r18 (-495) 198 from hr18)).w (by decide) (by decide))).1 (show jv ((r18).toInt64) (-10000000) 10000000 from ((jv.i (show iv r18 (-495) 198 from hr18)).w (by decide) (by decide))).2, l_i, l_i]
      have htq21 : y17.toInt = (neT (fun b => cfr f_p0_a_brings (CT (R_p0_a_chances b)) p2.toNatClampNeg p0_v_signs.toNatClampNeg) p1.toNatClampNeg p3.toInt) (v4).toNatClampNeg ∧ y20.toInt = (neM f_p0_a_costs p0_v_otherwise.toInt (felC p0_v_rates.toNatClampNeg f_p0_a_rate f_p0_a_mark p0_v_least).toInt p4.toInt p1.toNatClampNeg) (v4).toNatClampNeg := ⟨neT_at (g := r2.toInt) (q := r14.toInt) (d := x16.toInt) w3 (if_n (by omega) (by omega) (by omega) w15) (by omega) ty17, neM_at w19 ty20⟩
      have hPc := hP.sub (ws' := [(o, Sum.inr (5, [Value.long v5, Value.long v6, Value.long v7, Value.long v8, Value.int v9]))]) [0] rfl
      have hDc := hD.sub (ws' := [(o, Sum.inr (5, [Value.long v5, Value.long v6, Value.long v7, Value.long v8, Value.int v9]))]) [0] (by decide) rfl
      have hKc := hK.sub (tys' := []) [] rfl
      have hFc := va_free (wc := [(o, Sum.inr (5, [Value.long v5, Value.long v6, Value.long v7, Value.long v8, Value.int v9]))]) hD hS hA [0] rfl
      refine va_callv (va_runV (As := [Value.long y17, Value.long y20]) (rest := []) ⟨hx, hb, hml, hown, hts⟩ (ct_X5_need l dC dI o y17 y20 v5 v6 v7 v8 v9 hy17 (hy20.w (by decide) (by decide)) hv5 hv6 hv7 hv8 hv9 H.size) (cwV 2 hts gX5_settle_X5_need rfl rfl rfl ⟨rfl, cn_X5.1, cn_X5.2, ds_13⟩ ⟨Nat.le_of_ble_eq_true rfl, Nat.le_of_ble_eq_true rfl⟩) ⟨fun a U g mk q => by obtain ⟨q0, q1, qP, qK, qD⟩ := q; exact ⟨q0, q1, qP, va_K.moved (u := U) (U := U.calling g mk a) (Vm.Alike.refl U.vm) qK, qD⟩, va_recv hKc hPc (ci := 5) (q0 := 0) rfl rfl, fun U hU hW => ⟨rfl, by rw [hU], by rw [hU]; exact hPc, va_K.moved hW.alike hKc, hDc.weaken (fun _ _ _ _ => trivial)⟩⟩ rfl rfl hl.1 rfl (lv_room (Nat.le_of_ble_eq_true rfl)) dX5_settle_66 ⟨Nat.le_of_ble_eq_true rfl, Nat.le_of_ble_eq_true rfl⟩) hS (fun q _ h => hFc q h) hFc (fun u t H1 locs ht hvm hw hB hz1 hk1 hS => ?_)
      obtain ⟨y23, y24, y25, y26, v27, hy23, hy24, hy25, hy26, hv27, w28, w29, w30, hP1, hD1⟩ := hB
      rw [ht] at hP1
      obtain ⟨hP, hD⟩ := va_joinQ (X := [(o, Sum.inr (5, [Value.long v5, Value.long v6, Value.long v7, Value.long v8, Value.int v9])), (p0_a_brings, Sum.inl (k_p0_a_brings, 4, Sum.inl f_p0_a_brings)), (p0_a_chances, Sum.inl (k_p0_a_chances, 5, Sum.inr (Sum.inr (Sum.inr (Sum.inr (rows_of 5 R_p0_a_chances)))))), (p0, Sum.inr (3, [Value.int p0_v_signs, Value.int p0_v_works, Value.int p0_v_whole, Value.int p0_v_otherwise, Value.int p0_v_least, Value.int p0_v_rates, Value.ref p0_a_brings, Value.ref p0_a_costs, Value.ref p0_a_chances, Value.ref p0_a_rate, Value.ref p0_a_mark])), (p0_a_costs, Sum.inl (k_p0_a_costs, 5, Sum.inl f_p0_a_costs)), (p0_a_rate, Sum.inl (k_p0_a_rate, 3, Sum.inl f_p0_a_rate)), (p0_a_mark, Sum.inl (k_p0_a_mark, 2, Sum.inl f_p0_a_mark))]) (cx := [(o, Sum.inr (5, [Value.long v5, Value.long v6, Value.long v7, Value.long v8, Value.int v9]))]) (wr := [(p0_a_brings, Sum.inl (k_p0_a_brings, 4, Sum.inl f_p0_a_brings)), (p0_a_chances, Sum.inl (k_p0_a_chances, 5, Sum.inr (Sum.inr (Sum.inr (Sum.inr (rows_of 5 R_p0_a_chances)))))), (p0, Sum.inr (3, [Value.int p0_v_signs, Value.int p0_v_works, Value.int p0_v_whole, Value.int p0_v_otherwise, Value.int p0_v_least, Value.int p0_v_rates, Value.ref p0_a_brings, Value.ref p0_a_costs, Value.ref p0_a_chances, Value.ref p0_a_rate, Value.ref p0_a_mark])), (p0_a_costs, Sum.inl (k_p0_a_costs, 5, Sum.inl f_p0_a_costs)), (p0_a_rate, Sum.inl (k_p0_a_rate, 3, Sum.inl f_p0_a_rate)), (p0_a_mark, Sum.inl (k_p0_a_mark, 2, Sum.inl f_p0_a_mark))]) (w1 := [(o, Sum.inr (5, [Value.long y23, Value.long y24, Value.long y25, Value.long y26, Value.int v27]))]) hP hD [0] [1, 2, 3, 4, 5, 6] rfl rfl (by decide) (by decide) hk1 hFc hP1 hD1
      clear hPc hDc hKc hFc hP1 hD1 hk1 hz1
      generalize H1 = H at hP hS ⊢
      have hP : va_P (dC, dI) vwCl ([(p0_a_brings, Sum.inl (k_p0_a_brings, 4, Sum.inl f_p0_a_brings)), (p0_a_chances, Sum.inl (k_p0_a_chances, 5, Sum.inr (Sum.inr (Sum.inr (Sum.inr (rows_of 5 R_p0_a_chances)))))), (p0, Sum.inr (3, [Value.int p0_v_signs, Value.int p0_v_works, Value.int p0_v_whole, Value.int p0_v_otherwise, Value.int p0_v_least, Value.int p0_v_rates, Value.ref p0_a_brings, Value.ref p0_a_costs, Value.ref p0_a_chances, Value.ref p0_a_rate, Value.ref p0_a_mark])), (p0_a_costs, Sum.inl (k_p0_a_costs, 5, Sum.inl f_p0_a_costs)), (p0_a_rate, Sum.inl (k_p0_a_rate, 3, Sum.inl f_p0_a_rate)), (p0_a_mark, Sum.inl (k_p0_a_mark, 2, Sum.inl f_p0_a_mark)), (o, Sum.inr (5, [Value.long y23, Value.long y24, Value.long y25, Value.long y26, Value.int v27]))] ++ va_pl LP fp) H := hP
      have hD : va_D A ([(p0_a_brings, Sum.inl (k_p0_a_brings, 4, Sum.inl f_p0_a_brings)), (p0_a_chances, Sum.inl (k_p0_a_chances, 5, Sum.inr (Sum.inr (Sum.inr (Sum.inr (rows_of 5 R_p0_a_chances)))))), (p0, Sum.inr (3, [Value.int p0_v_signs, Value.int p0_v_works, Value.int p0_v_whole, Value.int p0_v_otherwise, Value.int p0_v_least, Value.int p0_v_rates, Value.ref p0_a_brings, Value.ref p0_a_costs, Value.ref p0_a_chances, Value.ref p0_a_rate, Value.ref p0_a_mark])), (p0_a_costs, Sum.inl (k_p0_a_costs, 5, Sum.inl f_p0_a_costs)), (p0_a_rate, Sum.inl (k_p0_a_rate, 3, Sum.inl f_p0_a_rate)), (p0_a_mark, Sum.inl (k_p0_a_mark, 2, Sum.inl f_p0_a_mark)), (o, Sum.inr (5, [Value.long y23, Value.long y24, Value.long y25, Value.long y26, Value.int v27]))] ++ va_pl LP fp) := hD
      refine W.widen (k := 0) (n := 0) (by decide) (by decide) ?_
      obtain ⟨x31, ex31⟩ : ∃ z : Int32, v4 + Int32.ofInt 1 = z := ⟨_, rfl⟩
      have tx31 := i32_inc ex31 rfl (by decide) (by omega) (by omega)
      refine lv_iinc (v := x31) (lv' := [(7, Value.int x31), (8, Value.int x16), (6, Value.int r2), (0, Value.ref o), (1, Value.ref p0), (2, Value.int p1), (3, Value.int p2), (4, Value.int p3), (5, Value.int p4)]) hx hb dX5_settle_69 hl (k := 1) rfl ex31 (by decide) rfl (fun ls hl => ?_)
      refine lv_goto (tgt := 15) hx hb dX5_settle_72 (by decide) ?_
      have bv27 := hv27.u
      have bv9 := hv9.u
      exact ih15 _ _ _ _ (ms_up hn15 tx31 (by decide) (by omega)) ⟨x31, y23, y24, y25, y26, v27, rfl, (iv.m (by omega)), hy23, hy24, hy25, hy26, hv27, (lowI_st (k := (v4).toNatClampNeg) hi15_0 (by rw [← htq21.1, ← htq21.2]; exact w28) (nlt_s tx31 (by omega))), (capI_st (k := (v4).toNatClampNeg) hi15_1 (by rw [← htq21.1, ← htq21.2]; exact w29) (nlt_s tx31 (by omega))), (brI_st (k := (v4).toNatClampNeg) hi15_2 (by rw [← htq21.1, ← htq21.2]; exact w30) (nlt_s tx31 (by omega))), (by omega), hP.part [3, 4, 5, 6, 2, 0, 1] rfl, hD.part [3, 4, 5, 6, 2, 0, 1] (by decide) rfl, hS, lv_sub hl [0, 2, 3, 4, 5, 6, 7, 8] rfl⟩
    · have c139 := i32_eq c13 rfl rfl
      refine lv_iconst (v := 0) hx hb dX5_settle_32 (by decide) ?_
      refine lv_goto (tgt := 43) hx hb dX5_settle_33 (by decide) ?_
      refine lv_isub hx hb dX5_settle_43 ?_
      refine lv_topi (fun x32 ex32 => ?_)
      have tx32 := i32_sub ex32 rfl (show (0 : Int32).toInt = 0 by decide) (by omega) (by omega)
      refine lv_istore (lv' := [(8, Value.int x32), (7, Value.int v4), (6, Value.int r2), (0, Value.ref o), (1, Value.ref p0), (2, Value.int p1), (3, Value.int p2), (4, Value.int p3), (5, Value.int p4)]) hx hb dX5_settle_44 hl (by decide) rfl (fun ls hl => ?_)
      refine lv_aload_n hx hb dX5_settle_46 rfl (lv_at hl 3 rfl) ?_
      refine lv_iload hx hb dX5_settle_47 (lv_at hl 0 rfl) ?_
      refine lv_i2l (v := (x32).toInt64) hx hb dX5_settle_49 rfl ?_
      refine lv_iload hx hb dX5_settle_50 (lv_at hl 7 rfl) ?_
      refine lv_i2l (v := (p3).toInt64) hx hb dX5_settle_52 rfl ?_
      refine lv_lmul hx hb dX5_settle_53 ?_
      refine lv_topl (fun y33 ey33 => ?_)
      have hy33 : jv y33 0 1600 := jv.mulp ey33 (jv.i (show iv x32 0 40 from (iv.m (by omega)))) (jv.i (show iv p3 0 40 from hp3)) (by decide) (by decide) (by decide) (by decide) (by decide)
      refine lv_iload hx hb dX5_settle_54 (lv_at hl 8 rfl) ?_
      refine lv_i2l (v := (p4).toInt64) hx hb dX5_settle_56 rfl ?_
      refine lv_aload_n hx hb dX5_settle_57 rfl (lv_at hl 4 rfl) ?_
      refine lv_iload_n hx hb dX5_settle_58 rfl (lv_at hl 5 rfl) ?_
      refine lv_iload hx hb dX5_settle_59 (lv_at hl 1 rfl) ?_
      have hPc := hP.sub (ws' := [(p0, Sum.inr (3, [Value.int p0_v_signs, Value.int p0_v_works, Value.int p0_v_whole, Value.int p0_v_otherwise, Value.int p0_v_least, Value.int p0_v_rates, Value.ref p0_a_brings, Value.ref p0_a_costs, Value.ref p0_a_chances, Value.ref p0_a_rate, Value.ref p0_a_mark])), (p0_a_costs, Sum.inl (k_p0_a_costs, 5, Sum.inl f_p0_a_costs)), (p0_a_rate, Sum.inl (k_p0_a_rate, 3, Sum.inl f_p0_a_rate)), (p0_a_mark, Sum.inl (k_p0_a_mark, 2, Sum.inl f_p0_a_mark))]) [4, 0, 1, 2] rfl
      have hDc := hD.sub (ws' := [(p0, Sum.inr (3, [Value.int p0_v_signs, Value.int p0_v_works, Value.int p0_v_whole, Value.int p0_v_otherwise, Value.int p0_v_least, Value.int p0_v_rates, Value.ref p0_a_brings, Value.ref p0_a_costs, Value.ref p0_a_chances, Value.ref p0_a_rate, Value.ref p0_a_mark])), (p0_a_costs, Sum.inl (k_p0_a_costs, 5, Sum.inl f_p0_a_costs)), (p0_a_rate, Sum.inl (k_p0_a_rate, 3, Sum.inl f_p0_a_rate)), (p0_a_mark, Sum.inl (k_p0_a_mark, 2, Sum.inl f_p0_a_mark))]) [4, 0, 1, 2] (by decide) rfl
      have hKc := hK.sub (tys' := [(k_p0_a_costs, FieldType.int), (k_p0_a_rate, FieldType.int), (k_p0_a_mark, FieldType.int)]) [1, 3, 4] rfl
      have hFc := va_free (wc := [(p0, Sum.inr (3, [Value.int p0_v_signs, Value.int p0_v_works, Value.int p0_v_whole, Value.int p0_v_otherwise, Value.int p0_v_least, Value.int p0_v_rates, Value.ref p0_a_brings, Value.ref p0_a_costs, Value.ref p0_a_chances, Value.ref p0_a_rate, Value.ref p0_a_mark])), (p0_a_costs, Sum.inl (k_p0_a_costs, 5, Sum.inl f_p0_a_costs)), (p0_a_rate, Sum.inl (k_p0_a_rate, 3, Sum.inl f_p0_a_rate)), (p0_a_mark, Sum.inl (k_p0_a_mark, 2, Sum.inl f_p0_a_mark))]) hD hS hA [4, 0, 1, 2] rfl
      refine va_calli (va_runV (As := [Value.int p1, Value.int v4]) (rest := [Value.long ((p4).toInt64), Value.long y33, Value.ref o]) ⟨hx, hb, hml, hown, hts⟩ (ct_X3_lackOf l dC dI p0 p1 v4 p0_v_signs p0_v_works p0_v_whole p0_v_otherwise p0_v_least p0_v_rates p0_a_brings p0_a_costs p0_a_chances p0_a_rate p0_a_mark k_p0_a_costs f_p0_a_costs k_p0_a_rate f_p0_a_rate k_p0_a_mark f_p0_a_mark hp1 (iv.m (by omega)) hp0_v_otherwise hp0_v_least hp0_v_rates hf_p0_a_costs hf_p0_a_rate hf_p0_a_mark hmr H.size) (cwV 2 hts gX5_settle_X3_lackOf rfl rfl rfl ⟨rfl, cn_X3.1, cn_X3.2, ds_9⟩ ⟨Nat.le_of_ble_eq_true rfl, Nat.le_of_ble_eq_true rfl⟩) ⟨fun a U g mk q => by obtain ⟨q0, q1, qP, qK, qD⟩ := q; exact ⟨q0, q1, qP, va_K.moved (u := U) (U := U.calling g mk a) (Vm.Alike.refl U.vm) qK, qD⟩, va_recv hKc hPc (ci := 3) (q0 := 0) rfl rfl, fun U hU hW => ⟨rfl, by rw [hU], by rw [hU]; exact hPc, va_K.moved hW.alike hKc, hDc.weaken (fun _ _ _ _ => trivial)⟩⟩ rfl rfl hl.1 rfl (lv_room (Nat.le_of_ble_eq_true rfl)) dX5_settle_61 ⟨Nat.le_of_ble_eq_true rfl, Nat.le_of_ble_eq_true rfl⟩) hS (fun q _ h => hFc q h) hFc (fun r34 u t H1 locs ht hvm hw hB hz1 hk1 hS => ?_)
      have hw : r34 = u := hw.symm
      subst hw
      obtain ⟨hr34, w35, hP1, hD1⟩ := hB
      rw [ht] at hP1
      obtain ⟨hP, hD⟩ := va_joinQ (X := [(p0_a_costs, Sum.inl (k_p0_a_costs, 5, Sum.inl f_p0_a_costs)), (p0_a_rate, Sum.inl (k_p0_a_rate, 3, Sum.inl f_p0_a_rate)), (p0_a_mark, Sum.inl (k_p0_a_mark, 2, Sum.inl f_p0_a_mark)), (o, Sum.inr (5, [Value.long v5, Value.long v6, Value.long v7, Value.long v8, Value.int v9])), (p0, Sum.inr (3, [Value.int p0_v_signs, Value.int p0_v_works, Value.int p0_v_whole, Value.int p0_v_otherwise, Value.int p0_v_least, Value.int p0_v_rates, Value.ref p0_a_brings, Value.ref p0_a_costs, Value.ref p0_a_chances, Value.ref p0_a_rate, Value.ref p0_a_mark])), (p0_a_brings, Sum.inl (k_p0_a_brings, 4, Sum.inl f_p0_a_brings)), (p0_a_chances, Sum.inl (k_p0_a_chances, 5, Sum.inr (Sum.inr (Sum.inr (Sum.inr (rows_of 5 R_p0_a_chances))))))]) (cx := [(p0, Sum.inr (3, [Value.int p0_v_signs, Value.int p0_v_works, Value.int p0_v_whole, Value.int p0_v_otherwise, Value.int p0_v_least, Value.int p0_v_rates, Value.ref p0_a_brings, Value.ref p0_a_costs, Value.ref p0_a_chances, Value.ref p0_a_rate, Value.ref p0_a_mark])), (p0_a_costs, Sum.inl (k_p0_a_costs, 5, Sum.inl f_p0_a_costs)), (p0_a_rate, Sum.inl (k_p0_a_rate, 3, Sum.inl f_p0_a_rate)), (p0_a_mark, Sum.inl (k_p0_a_mark, 2, Sum.inl f_p0_a_mark))]) (wr := [(o, Sum.inr (5, [Value.long v5, Value.long v6, Value.long v7, Value.long v8, Value.int v9])), (p0_a_brings, Sum.inl (k_p0_a_brings, 4, Sum.inl f_p0_a_brings)), (p0_a_chances, Sum.inl (k_p0_a_chances, 5, Sum.inr (Sum.inr (Sum.inr (Sum.inr (rows_of 5 R_p0_a_chances))))))]) (w1 := [(p0, Sum.inr (3, [Value.int p0_v_signs, Value.int p0_v_works, Value.int p0_v_whole, Value.int p0_v_otherwise, Value.int p0_v_least, Value.int p0_v_rates, Value.ref p0_a_brings, Value.ref p0_a_costs, Value.ref p0_a_chances, Value.ref p0_a_rate, Value.ref p0_a_mark])), (p0_a_costs, Sum.inl (k_p0_a_costs, 5, Sum.inl f_p0_a_costs)), (p0_a_rate, Sum.inl (k_p0_a_rate, 3, Sum.inl f_p0_a_rate)), (p0_a_mark, Sum.inl (k_p0_a_mark, 2, Sum.inl f_p0_a_mark))]) hP hD [4, 0, 1, 2] [3, 5, 6] rfl rfl (by decide) (by decide) hk1 hFc hP1 hD1
      clear hPc hDc hKc hFc hP1 hD1 hk1 hz1
      generalize H1 = H at hP hS ⊢
      have hP : va_P (dC, dI) vwCl ([(o, Sum.inr (5, [Value.long v5, Value.long v6, Value.long v7, Value.long v8, Value.int v9])), (p0_a_brings, Sum.inl (k_p0_a_brings, 4, Sum.inl f_p0_a_brings)), (p0_a_chances, Sum.inl (k_p0_a_chances, 5, Sum.inr (Sum.inr (Sum.inr (Sum.inr (rows_of 5 R_p0_a_chances)))))), (p0, Sum.inr (3, [Value.int p0_v_signs, Value.int p0_v_works, Value.int p0_v_whole, Value.int p0_v_otherwise, Value.int p0_v_least, Value.int p0_v_rates, Value.ref p0_a_brings, Value.ref p0_a_costs, Value.ref p0_a_chances, Value.ref p0_a_rate, Value.ref p0_a_mark])), (p0_a_costs, Sum.inl (k_p0_a_costs, 5, Sum.inl f_p0_a_costs)), (p0_a_rate, Sum.inl (k_p0_a_rate, 3, Sum.inl f_p0_a_rate)), (p0_a_mark, Sum.inl (k_p0_a_mark, 2, Sum.inl f_p0_a_mark))] ++ va_pl LP fp) H := hP
      have hD : va_D A ([(o, Sum.inr (5, [Value.long v5, Value.long v6, Value.long v7, Value.long v8, Value.int v9])), (p0_a_brings, Sum.inl (k_p0_a_brings, 4, Sum.inl f_p0_a_brings)), (p0_a_chances, Sum.inl (k_p0_a_chances, 5, Sum.inr (Sum.inr (Sum.inr (Sum.inr (rows_of 5 R_p0_a_chances)))))), (p0, Sum.inr (3, [Value.int p0_v_signs, Value.int p0_v_works, Value.int p0_v_whole, Value.int p0_v_otherwise, Value.int p0_v_least, Value.int p0_v_rates, Value.ref p0_a_brings, Value.ref p0_a_costs, Value.ref p0_a_chances, Value.ref p0_a_rate, Value.ref p0_a_mark])), (p0_a_costs, Sum.inl (k_p0_a_costs, 5, Sum.inl f_p0_a_costs)), (p0_a_rate, Sum.inl (k_p0_a_rate, 3, Sum.inl f_p0_a_rate)), (p0_a_mark, Sum.inl (k_p0_a_mark, 2, Sum.inl f_p0_a_mark))] ++ va_pl LP fp) := hD
      refine W.widen (k := 0) (n := 0) (by decide) (by decide) ?_
      have br34 := hr34.u
      refine lv_i2l (v := (r34).toInt64) hx hb dX5_settle_64 rfl ?_
      refine lv_lmul hx hb dX5_settle_65 ?_
      refine lv_topl (fun y36 ey36 => ?_)
      have hy36 : jv y36 (-49500) 49500 := jv.mula (B := 100) (D := 495) ey36 (jv.i (show iv p4 0 100 from hp4)) (jv.i (show iv r34 (-495) 198 from hr34)) (by decide) (by decide) (by decide) (by decide) (by decide) (by decide)
      have ty33 : y33.toInt = x32.toInt * p3.toInt := by rw [i64_ml ey33 (show jv ((x32).toInt64) (-10000000) 10000000 from ((jv.i (show iv x32 0 40 from (iv.m (by omega)))).w (by decide) (by decide))).1 (show jv ((x32).toInt64) (-10000000) 10000000 from ((jv.i (show iv x32 0 40 from (iv.m (by omega)))).w (by decide) (by decide))).2 (show jv ((p3).toInt64) (-10000000) 10000000 from ((jv.i (show iv p3 0 40 from hp3)).w (by decide) (by decide))).1 (show jv ((p3).toInt64) (-10000000) 10000000 from ((jv.i (show iv p3 0 40 from hp3)).w (by decide) (by decide))).2, l_i, l_i]
      have ty36 : y36.toInt = p4.toInt * r34.toInt := by rw [i64_ml ey36 (show jv ((p4).toInt64) (-10000000) 10000000 from ((jv.i (show iv p4 0 100 from hp4)).w (by decide) (by decide))).1 (show jv ((p4).toInt64) (-10000000) 10000000 from ((jv.i (show iv p4 0 100 from hp4)).w (by decide) (by decide))).2 (show jv ((r34).toInt64) (-10000000) 10000000 from ((jv.i (show iv r34 (-495) 198 from hr34)).w (by decide) (by decide))).1 (show jv ((r34).toInt64) (-10000000) 10000000 from ((jv.i (show iv r34 (-495) 198 from hr34)).w (by decide) (by decide))).2, l_i, l_i]
      have htq37 : y33.toInt = (neT (fun b => cfr f_p0_a_brings (CT (R_p0_a_chances b)) p2.toNatClampNeg p0_v_signs.toNatClampNeg) p1.toNatClampNeg p3.toInt) (v4).toNatClampNeg ∧ y36.toInt = (neM f_p0_a_costs p0_v_otherwise.toInt (felC p0_v_rates.toNatClampNeg f_p0_a_rate f_p0_a_mark p0_v_least).toInt p4.toInt p1.toNatClampNeg) (v4).toNatClampNeg := ⟨neT_at (g := r2.toInt) (q := 0) (d := x32.toInt) w3 (if_y (by omega)) (by omega) ty33, neM_at w35 ty36⟩
      have hPc := hP.sub (ws' := [(o, Sum.inr (5, [Value.long v5, Value.long v6, Value.long v7, Value.long v8, Value.int v9]))]) [0] rfl
      have hDc := hD.sub (ws' := [(o, Sum.inr (5, [Value.long v5, Value.long v6, Value.long v7, Value.long v8, Value.int v9]))]) [0] (by decide) rfl
      have hKc := hK.sub (tys' := []) [] rfl
      have hFc := va_free (wc := [(o, Sum.inr (5, [Value.long v5, Value.long v6, Value.long v7, Value.long v8, Value.int v9]))]) hD hS hA [0] rfl
      refine va_callv (va_runV (As := [Value.long y33, Value.long y36]) (rest := []) ⟨hx, hb, hml, hown, hts⟩ (ct_X5_need l dC dI o y33 y36 v5 v6 v7 v8 v9 (hy33.w (by decide) (by decide)) (hy36.w (by decide) (by decide)) hv5 hv6 hv7 hv8 hv9 H.size) (cwV 2 hts gX5_settle_X5_need rfl rfl rfl ⟨rfl, cn_X5.1, cn_X5.2, ds_13⟩ ⟨Nat.le_of_ble_eq_true rfl, Nat.le_of_ble_eq_true rfl⟩) ⟨fun a U g mk q => by obtain ⟨q0, q1, qP, qK, qD⟩ := q; exact ⟨q0, q1, qP, va_K.moved (u := U) (U := U.calling g mk a) (Vm.Alike.refl U.vm) qK, qD⟩, va_recv hKc hPc (ci := 5) (q0 := 0) rfl rfl, fun U hU hW => ⟨rfl, by rw [hU], by rw [hU]; exact hPc, va_K.moved hW.alike hKc, hDc.weaken (fun _ _ _ _ => trivial)⟩⟩ rfl rfl hl.1 rfl (lv_room (Nat.le_of_ble_eq_true rfl)) dX5_settle_66 ⟨Nat.le_of_ble_eq_true rfl, Nat.le_of_ble_eq_true rfl⟩) hS (fun q _ h => hFc q h) hFc (fun u t H1 locs ht hvm hw hB hz1 hk1 hS => ?_)
      obtain ⟨y39, y40, y41, y42, v43, hy39, hy40, hy41, hy42, hv43, w44, w45, w46, hP1, hD1⟩ := hB
      rw [ht] at hP1
      obtain ⟨hP, hD⟩ := va_joinQ (X := [(o, Sum.inr (5, [Value.long v5, Value.long v6, Value.long v7, Value.long v8, Value.int v9])), (p0_a_brings, Sum.inl (k_p0_a_brings, 4, Sum.inl f_p0_a_brings)), (p0_a_chances, Sum.inl (k_p0_a_chances, 5, Sum.inr (Sum.inr (Sum.inr (Sum.inr (rows_of 5 R_p0_a_chances)))))), (p0, Sum.inr (3, [Value.int p0_v_signs, Value.int p0_v_works, Value.int p0_v_whole, Value.int p0_v_otherwise, Value.int p0_v_least, Value.int p0_v_rates, Value.ref p0_a_brings, Value.ref p0_a_costs, Value.ref p0_a_chances, Value.ref p0_a_rate, Value.ref p0_a_mark])), (p0_a_costs, Sum.inl (k_p0_a_costs, 5, Sum.inl f_p0_a_costs)), (p0_a_rate, Sum.inl (k_p0_a_rate, 3, Sum.inl f_p0_a_rate)), (p0_a_mark, Sum.inl (k_p0_a_mark, 2, Sum.inl f_p0_a_mark))]) (cx := [(o, Sum.inr (5, [Value.long v5, Value.long v6, Value.long v7, Value.long v8, Value.int v9]))]) (wr := [(p0_a_brings, Sum.inl (k_p0_a_brings, 4, Sum.inl f_p0_a_brings)), (p0_a_chances, Sum.inl (k_p0_a_chances, 5, Sum.inr (Sum.inr (Sum.inr (Sum.inr (rows_of 5 R_p0_a_chances)))))), (p0, Sum.inr (3, [Value.int p0_v_signs, Value.int p0_v_works, Value.int p0_v_whole, Value.int p0_v_otherwise, Value.int p0_v_least, Value.int p0_v_rates, Value.ref p0_a_brings, Value.ref p0_a_costs, Value.ref p0_a_chances, Value.ref p0_a_rate, Value.ref p0_a_mark])), (p0_a_costs, Sum.inl (k_p0_a_costs, 5, Sum.inl f_p0_a_costs)), (p0_a_rate, Sum.inl (k_p0_a_rate, 3, Sum.inl f_p0_a_rate)), (p0_a_mark, Sum.inl (k_p0_a_mark, 2, Sum.inl f_p0_a_mark))]) (w1 := [(o, Sum.inr (5, [Value.long y39, Value.long y40, Value.long y41, Value.long y42, Value.int v43]))]) hP hD [0] [1, 2, 3, 4, 5, 6] rfl rfl (by decide) (by decide) hk1 hFc hP1 hD1
      clear hPc hDc hKc hFc hP1 hD1 hk1 hz1
      generalize H1 = H at hP hS ⊢
      have hP : va_P (dC, dI) vwCl ([(p0_a_brings, Sum.inl (k_p0_a_brings, 4, Sum.inl f_p0_a_brings)), (p0_a_chances, Sum.inl (k_p0_a_chances, 5, Sum.inr (Sum.inr (Sum.inr (Sum.inr (rows_of 5 R_p0_a_chances)))))), (p0, Sum.inr (3, [Value.int p0_v_signs, Value.int p0_v_works, Value.int p0_v_whole, Value.int p0_v_otherwise, Value.int p0_v_least, Value.int p0_v_rates, Value.ref p0_a_brings, Value.ref p0_a_costs, Value.ref p0_a_chances, Value.ref p0_a_rate, Value.ref p0_a_mark])), (p0_a_costs, Sum.inl (k_p0_a_costs, 5, Sum.inl f_p0_a_costs)), (p0_a_rate, Sum.inl (k_p0_a_rate, 3, Sum.inl f_p0_a_rate)), (p0_a_mark, Sum.inl (k_p0_a_mark, 2, Sum.inl f_p0_a_mark)), (o, Sum.inr (5, [Value.long y39, Value.long y40, Value.long y41, Value.long y42, Value.int v43]))] ++ va_pl LP fp) H := hP
      have hD : va_D A ([(p0_a_brings, Sum.inl (k_p0_a_brings, 4, Sum.inl f_p0_a_brings)), (p0_a_chances, Sum.inl (k_p0_a_chances, 5, Sum.inr (Sum.inr (Sum.inr (Sum.inr (rows_of 5 R_p0_a_chances)))))), (p0, Sum.inr (3, [Value.int p0_v_signs, Value.int p0_v_works, Value.int p0_v_whole, Value.int p0_v_otherwise, Value.int p0_v_least, Value.int p0_v_rates, Value.ref p0_a_brings, Value.ref p0_a_costs, Value.ref p0_a_chances, Value.ref p0_a_rate, Value.ref p0_a_mark])), (p0_a_costs, Sum.inl (k_p0_a_costs, 5, Sum.inl f_p0_a_costs)), (p0_a_rate, Sum.inl (k_p0_a_rate, 3, Sum.inl f_p0_a_rate)), (p0_a_mark, Sum.inl (k_p0_a_mark, 2, Sum.inl f_p0_a_mark)), (o, Sum.inr (5, [Value.long y39, Value.long y40, Value.long y41, Value.long y42, Value.int v43]))] ++ va_pl LP fp) := hD
      refine W.widen (k := 0) (n := 0) (by decide) (by decide) ?_
      obtain ⟨x47, ex47⟩ : ∃ z : Int32, v4 + Int32.ofInt 1 = z := ⟨_, rfl⟩
      have tx47 := i32_inc ex47 rfl (by decide) (by omega) (by omega)
      refine lv_iinc (v := x47) (lv' := [(7, Value.int x47), (8, Value.int x32), (6, Value.int r2), (0, Value.ref o), (1, Value.ref p0), (2, Value.int p1), (3, Value.int p2), (4, Value.int p3), (5, Value.int p4)]) hx hb dX5_settle_69 hl (k := 1) rfl ex47 (by decide) rfl (fun ls hl => ?_)
      refine lv_goto (tgt := 15) hx hb dX5_settle_72 (by decide) ?_
      have bv43 := hv43.u
      have bv9 := hv9.u
      exact ih15 _ _ _ _ (ms_up hn15 tx47 (by decide) (by omega)) ⟨x47, y39, y40, y41, y42, v43, rfl, (iv.m (by omega)), hy39, hy40, hy41, hy42, hv43, (lowI_st (k := (v4).toNatClampNeg) hi15_0 (by rw [← htq37.1, ← htq37.2]; exact w44) (nlt_s tx47 (by omega))), (capI_st (k := (v4).toNatClampNeg) hi15_1 (by rw [← htq37.1, ← htq37.2]; exact w45) (nlt_s tx47 (by omega))), (brI_st (k := (v4).toNatClampNeg) hi15_2 (by rw [← htq37.1, ← htq37.2]; exact w46) (nlt_s tx47 (by omega))), (by omega), hP.part [3, 4, 5, 6, 2, 0, 1] rfl, hD.part [3, 4, 5, 6, 2, 0, 1] (by decide) rfl, hS, lv_sub hl [0, 2, 3, 4, 5, 6, 7, 8] rfl⟩

