set_option maxHeartbeats 4000000 in
set_option maxRecDepth 100000 in
theorem ct_X4_wageInto (l : Launch) (dC : Nat → ClassId) (dI : Nat → Nat → Nat) (o : Nat) (p0 : Nat) (p1 : Int32) (a_above : Nat) (v_aboveLower : Int64) (o_table : Nat) (a_columnSign : Nat) (a_columnRate : Nat) (a_columnRoom : Nat) (v_columns : Int32) (v_rooms : Int32) (o_hire : Nat) (v_work : Int32) (v_keptSign : Int32) (v_joinedSign : Int32) (k_a_above : ClassId) (f_a_above : Nat → Int64) (hire_v_signs : Int32) (hire_v_works : Int32) (hire_v_whole : Int32) (hire_v_otherwise : Int32) (hire_v_least : Int32) (hire_v_rates : Int32) (hire_a_brings : Nat) (hire_a_costs : Nat) (hire_a_chances : Nat) (hire_a_rate : Nat) (hire_a_mark : Nat) (p0_v_upper : Int64) (p0_v_lower : Int64) (hp1 : iv p1 0 3) (sz : Nat) : Met l yX4_wageInto wsX4_wageInto ({ frames := 2, cells := 0, slots := 0, locals := 56 }) (va_Pc [Value.ref o, Value.ref p0, Value.int p1] (fun U => U.heap.size = sz ∧ va_P (dC, dI) vwCl [(o, Sum.inr (4, [Value.ref a_above, Value.long v_aboveLower, Value.ref o_table, Value.ref a_columnSign, Value.ref a_columnRate, Value.ref a_columnRoom, Value.int v_columns, Value.int v_rooms, Value.ref o_hire, Value.int v_work, Value.int v_keptSign, Value.int v_joinedSign])), (a_above, Sum.inl (k_a_above, 4, Sum.inr (Sum.inl f_a_above))), (o_hire, Sum.inr (3, [Value.int hire_v_signs, Value.int hire_v_works, Value.int hire_v_whole, Value.int hire_v_otherwise, Value.int hire_v_least, Value.int hire_v_rates, Value.ref hire_a_brings, Value.ref hire_a_costs, Value.ref hire_a_chances, Value.ref hire_a_rate, Value.ref hire_a_mark])), (p0, Sum.inr (2, [Value.long p0_v_upper, Value.long p0_v_lower]))] U.heap ∧ va_K (dC, dI) vwCl [(k_a_above, FieldType.long)] U ∧ va_D (fun _ => True) [(o, Sum.inr (4, [Value.ref a_above, Value.long v_aboveLower, Value.ref o_table, Value.ref a_columnSign, Value.ref a_columnRate, Value.ref a_columnRoom, Value.int v_columns, Value.int v_rooms, Value.ref o_hire, Value.int v_work, Value.int v_keptSign, Value.int v_joinedSign])), (a_above, Sum.inl (k_a_above, 4, Sum.inr (Sum.inl f_a_above))), (o_hire, Sum.inr (3, [Value.int hire_v_signs, Value.int hire_v_works, Value.int hire_v_whole, Value.int hire_v_otherwise, Value.int hire_v_least, Value.int hire_v_rates, Value.ref hire_a_brings, Value.ref hire_a_costs, Value.ref hire_a_chances, Value.ref hire_a_rate, Value.ref hire_a_mark])), (p0, Sum.inr (2, [Value.long p0_v_upper, Value.long p0_v_lower]))])) (va_Qv (fun _ : Unit => True) (fun _ t => ∃ (e_p0_v_upper : Int64) (e_p0_v_lower : Int64), va_P (dC, dI) vwCl [(o, Sum.inr (4, [Value.ref a_above, Value.long v_aboveLower, Value.ref o_table, Value.ref a_columnSign, Value.ref a_columnRate, Value.ref a_columnRoom, Value.int v_columns, Value.int v_rooms, Value.ref o_hire, Value.int v_work, Value.int v_keptSign, Value.int v_joinedSign])), (a_above, Sum.inl (k_a_above, 4, Sum.inr (Sum.inl f_a_above))), (o_hire, Sum.inr (3, [Value.int hire_v_signs, Value.int hire_v_works, Value.int hire_v_whole, Value.int hire_v_otherwise, Value.int hire_v_least, Value.int hire_v_rates, Value.ref hire_a_brings, Value.ref hire_a_costs, Value.ref hire_a_chances, Value.ref hire_a_rate, Value.ref hire_a_mark])), (p0, Sum.inr (2, [Value.long e_p0_v_upper, Value.long e_p0_v_lower]))] t.heap ∧ va_D (va_A [(o, Sum.inr (4, [Value.ref a_above, Value.long v_aboveLower, Value.ref o_table, Value.ref a_columnSign, Value.ref a_columnRate, Value.ref a_columnRoom, Value.int v_columns, Value.int v_rooms, Value.ref o_hire, Value.int v_work, Value.int v_keptSign, Value.int v_joinedSign])), (a_above, Sum.inl (k_a_above, 4, Sum.inr (Sum.inl f_a_above))), (o_hire, Sum.inr (3, [Value.int hire_v_signs, Value.int hire_v_works, Value.int hire_v_whole, Value.int hire_v_otherwise, Value.int hire_v_least, Value.int hire_v_rates, Value.ref hire_a_brings, Value.ref hire_a_costs, Value.ref hire_a_chances, Value.ref hire_a_rate, Value.ref hire_a_mark])), (p0, Sum.inr (2, [Value.long p0_v_upper, Value.long p0_v_lower]))] sz) [(o, Sum.inr (4, [Value.ref a_above, Value.long v_aboveLower, Value.ref o_table, Value.ref a_columnSign, Value.ref a_columnRate, Value.ref a_columnRoom, Value.int v_columns, Value.int v_rooms, Value.ref o_hire, Value.int v_work, Value.int v_keptSign, Value.int v_joinedSign])), (a_above, Sum.inl (k_a_above, 4, Sum.inr (Sum.inl f_a_above))), (o_hire, Sum.inr (3, [Value.int hire_v_signs, Value.int hire_v_works, Value.int hire_v_whole, Value.int hire_v_otherwise, Value.int hire_v_least, Value.int hire_v_rates, Value.ref hire_a_brings, Value.ref hire_a_costs, Value.ref hire_a_chances, Value.ref hire_a_rate, Value.ref hire_a_mark])), (p0, Sum.inr (2, [Value.long e_p0_v_upper, Value.long e_p0_v_lower]))]) (va_A [(o, Sum.inr (4, [Value.ref a_above, Value.long v_aboveLower, Value.ref o_table, Value.ref a_columnSign, Value.ref a_columnRate, Value.ref a_columnRoom, Value.int v_columns, Value.int v_rooms, Value.ref o_hire, Value.int v_work, Value.int v_keptSign, Value.int v_joinedSign])), (a_above, Sum.inl (k_a_above, 4, Sum.inr (Sum.inl f_a_above))), (o_hire, Sum.inr (3, [Value.int hire_v_signs, Value.int hire_v_works, Value.int hire_v_whole, Value.int hire_v_otherwise, Value.int hire_v_least, Value.int hire_v_rates, Value.ref hire_a_brings, Value.ref hire_a_costs, Value.ref hire_a_chances, Value.ref hire_a_rate, Value.ref hire_a_mark])), (p0, Sum.inr (2, [Value.long p0_v_upper, Value.long p0_v_lower]))] sz)) 0 0 (va_A [(o, Sum.inr (4, [Value.ref a_above, Value.long v_aboveLower, Value.ref o_table, Value.ref a_columnSign, Value.ref a_columnRate, Value.ref a_columnRoom, Value.int v_columns, Value.int v_rooms, Value.ref o_hire, Value.int v_work, Value.int v_keptSign, Value.int v_joinedSign])), (a_above, Sum.inl (k_a_above, 4, Sum.inr (Sum.inl f_a_above))), (o_hire, Sum.inr (3, [Value.int hire_v_signs, Value.int hire_v_works, Value.int hire_v_whole, Value.int hire_v_otherwise, Value.int hire_v_least, Value.int hire_v_rates, Value.ref hire_a_brings, Value.ref hire_a_costs, Value.ref hire_a_chances, Value.ref hire_a_rate, Value.ref hire_a_mark])), (p0, Sum.inr (2, [Value.long p0_v_upper, Value.long p0_v_lower]))] sz) := by
  refine Met.ofW (cc := cX4_wageInto) (maxL := 3) (ret := none) pn_X4 rfl ?_
  intro p e s m args below meth c s₁ B hml hv
  obtain ⟨rfl, hsz, hP, hK, hD0⟩ := hv
  have hx := B.exec
  have hb := B.bytes
  have hr := B.returns
  have hts := atoms_spec (ws := wsX4_wageInto) B.pre
  have hown : s.vm.findClass RX4 = some m.cls := findClass_of_methodNamed B.named
  have hlocks := B.notSynchronized
  subst hsz
  have hD := hD0.self (sz := s.heap.size)
  generalize hAe : va_A [(o, Sum.inr (4, [Value.ref a_above, Value.long v_aboveLower, Value.ref o_table, Value.ref a_columnSign, Value.ref a_columnRate, Value.ref a_columnRoom, Value.int v_columns, Value.int v_rooms, Value.ref o_hire, Value.int v_work, Value.int v_keptSign, Value.int v_joinedSign])), (a_above, Sum.inl (k_a_above, 4, Sum.inr (Sum.inl f_a_above))), (o_hire, Sum.inr (3, [Value.int hire_v_signs, Value.int hire_v_works, Value.int hire_v_whole, Value.int hire_v_otherwise, Value.int hire_v_least, Value.int hire_v_rates, Value.ref hire_a_brings, Value.ref hire_a_costs, Value.ref hire_a_chances, Value.ref hire_a_rate, Value.ref hire_a_mark])), (p0, Sum.inr (2, [Value.long p0_v_upper, Value.long p0_v_lower]))] s.heap.size = A at hD ⊢
  have hA : ∀ q : Nat, s.heap.size ≤ q → A q := fun q h => by rw [← hAe]; exact Or.inr h
  have hS : va_S A s.heap s.heap [] := va_S.rf
  have hP : va_P (dC, dI) vwCl [(o, Sum.inr (4, [Value.ref a_above, Value.long v_aboveLower, Value.ref o_table, Value.ref a_columnSign, Value.ref a_columnRate, Value.ref a_columnRoom, Value.int v_columns, Value.int v_rooms, Value.ref o_hire, Value.int v_work, Value.int v_keptSign, Value.int v_joinedSign])), (a_above, Sum.inl (k_a_above, 4, Sum.inr (Sum.inl f_a_above))), (o_hire, Sum.inr (3, [Value.int hire_v_signs, Value.int hire_v_works, Value.int hire_v_whole, Value.int hire_v_otherwise, Value.int hire_v_least, Value.int hire_v_rates, Value.ref hire_a_brings, Value.ref hire_a_costs, Value.ref hire_a_chances, Value.ref hire_a_rate, Value.ref hire_a_mark])), (p0, Sum.inr (2, [Value.long p0_v_upper, Value.long p0_v_lower]))] s.heap := hP
  have hl := lv_entry ([Value.ref o, Value.ref p0, Value.int p1]) (n := 3) (Nat.le_of_ble_eq_true rfl)
  rw [lg_entry_eq]
  generalize (lg_sl ([Value.ref o, Value.ref p0, Value.int p1]) ++ List.replicate (3 - (lg_sl ([Value.ref o, Value.ref p0, Value.int p1])).length) Slot.unset).toArray = ls at hl ⊢
  have hl : lv_has ls 3 [(0, Value.ref o), (1, Value.ref p0), (2, Value.int p1)] := hl
  refine lv_aload_n hx hb dX4_wageInto_0 rfl (lv_at hl 1 rfl) ?_
  refine lv_aload_n hx hb dX4_wageInto_1 rfl (lv_at hl 0 rfl) ?_
  refine va_get (D := (dC, dI)) (ci := 4) (v := Value.ref o_hire) (C := RX4) (T := TX4) (N := 12) hx hb hts iw_X4_wageInto_X4 hown hK hP 0 rfl rfl 8 (by decide) (hts _ kk_X4_wageInto_0) (fun _ h9 => h9) rfl dX4_wageInto_2 ?_
  refine va_get (D := (dC, dI)) (ci := 3) (v := Value.int hire_v_least) (C := RX3) (T := TX3) (N := 11) hx hb hts iw_X4_wageInto_X3 hown hK hP 2 rfl rfl 4 (by decide) (hts _ kk_X4_wageInto_1) (fun _ h9 => h9) rfl dX4_wageInto_5 ?_
  refine lv_i2l (v := (hire_v_least).toInt64) hx hb dX4_wageInto_8 rfl ?_
  refine lv_aload_n hx hb dX4_wageInto_9 rfl (lv_at hl 0 rfl) ?_
  refine va_get (D := (dC, dI)) (ci := 4) (v := Value.long v_aboveLower) (C := RX4) (T := TX4) (N := 12) hx hb hts iw_X4_wageInto_X4 hown hK hP 0 rfl rfl 1 (by decide) (hts _ kk_X4_wageInto_2) (fun _ h9 => h9) rfl dX4_wageInto_10 ?_
  refine lv_lmul hx hb dX4_wageInto_13 ?_
  refine lv_topl (fun y1 ey1 => ?_)
  refine lv_aload_n hx hb dX4_wageInto_14 rfl (lv_at hl 0 rfl) ?_
  refine va_get (D := (dC, dI)) (ci := 4) (v := Value.ref a_above) (C := RX4) (T := TX4) (N := 12) hx hb hts iw_X4_wageInto_X4 hown hK hP 0 rfl rfl 0 (by decide) (hts _ kk_X4_wageInto_3) (fun _ h9 => h9) rfl dX4_wageInto_15 ?_
  refine lv_iload_n hx hb dX4_wageInto_18 rfl (lv_at hl 2 rfl) ?_
  have bp1 := hp1.u
  refine va_lald hx hb hK hP 1 0 rfl rfl (vq_in p1 4 (by omega)) dX4_wageInto_19 ?_
  refine lv_topl (fun y2 ey2 => ?_)
  refine lv_ladd hx hb dX4_wageInto_20 ?_
  refine lv_topl (fun y3 ey3 => ?_)
  refine lv_aload_n hx hb dX4_wageInto_21 rfl (lv_at hl 0 rfl) ?_
  refine va_get (D := (dC, dI)) (ci := 4) (v := Value.long v_aboveLower) (C := RX4) (T := TX4) (N := 12) hx hb hts iw_X4_wageInto_X4 hown hK hP 0 rfl rfl 1 (by decide) (hts _ kk_X4_wageInto_2) (fun _ h9 => h9) rfl dX4_wageInto_22 ?_
  have hPc := hP.sub (ws' := [(p0, Sum.inr (2, [Value.long p0_v_upper, Value.long p0_v_lower]))]) [3] rfl
  have hDc := hD.sub (ws' := [(p0, Sum.inr (2, [Value.long p0_v_upper, Value.long p0_v_lower]))]) [3] (by decide) rfl
  have hKc := hK.sub (tys' := []) [] rfl
  have hFc := va_free (wc := [(p0, Sum.inr (2, [Value.long p0_v_upper, Value.long p0_v_lower]))]) hD hS hA [3] rfl
  refine va_callv (va_runV (As := [Value.long y3, Value.long v_aboveLower]) (rest := []) ⟨hx, hb, hml, hown, hts⟩ (ct_X2_become l dC dI p0 y3 v_aboveLower p0_v_upper p0_v_lower s.heap.size) (cwV 2 hts gX4_wageInto_X2_become rfl rfl rfl ⟨rfl, cn_X2.1, cn_X2.2, ds_13⟩ ⟨Nat.le_of_ble_eq_true rfl, Nat.le_of_ble_eq_true rfl⟩) ⟨fun a U g mk q => by obtain ⟨q0, q1, qP, qK, qD⟩ := q; exact ⟨q0, q1, qP, va_K.moved (u := U) (U := U.calling g mk a) (Vm.Alike.refl U.vm) qK, qD⟩, va_recv hKc hPc (ci := 2) (q0 := 0) rfl rfl, fun U hU hW => ⟨rfl, by rw [hU], by rw [hU]; exact hPc, va_K.moved hW.alike hKc, hDc.weaken (fun _ _ _ _ => trivial)⟩⟩ rfl rfl hl.1 rfl (lv_room (Nat.le_of_ble_eq_true rfl)) dX4_wageInto_25 ⟨Nat.le_of_ble_eq_true rfl, Nat.le_of_ble_eq_true rfl⟩) hS (fun q _ h => hFc q h) hFc (fun u t H1 locs ht hvm hw hB hz1 hk1 hS => ?_)
  obtain ⟨y5, y6, hP1, hD1⟩ := hB
  rw [ht] at hP1
  obtain ⟨hP, hD⟩ := va_join (wr := [(o, Sum.inr (4, [Value.ref a_above, Value.long v_aboveLower, Value.ref o_table, Value.ref a_columnSign, Value.ref a_columnRate, Value.ref a_columnRoom, Value.int v_columns, Value.int v_rooms, Value.ref o_hire, Value.int v_work, Value.int v_keptSign, Value.int v_joinedSign])), (a_above, Sum.inl (k_a_above, 4, Sum.inr (Sum.inl f_a_above))), (o_hire, Sum.inr (3, [Value.int hire_v_signs, Value.int hire_v_works, Value.int hire_v_whole, Value.int hire_v_otherwise, Value.int hire_v_least, Value.int hire_v_rates, Value.ref hire_a_brings, Value.ref hire_a_costs, Value.ref hire_a_chances, Value.ref hire_a_rate, Value.ref hire_a_mark]))]) (w1 := [(p0, Sum.inr (2, [Value.long y5, Value.long y6]))]) hP hD [3] [0, 1, 2] rfl rfl (by decide) (by decide) hk1 hFc hP1 hD1
  clear hPc hDc hKc hFc hP1 hD1 hk1 hz1
  generalize H1 = H at hP hS ⊢
  have hP : va_P (dC, dI) vwCl [(o, Sum.inr (4, [Value.ref a_above, Value.long v_aboveLower, Value.ref o_table, Value.ref a_columnSign, Value.ref a_columnRate, Value.ref a_columnRoom, Value.int v_columns, Value.int v_rooms, Value.ref o_hire, Value.int v_work, Value.int v_keptSign, Value.int v_joinedSign])), (a_above, Sum.inl (k_a_above, 4, Sum.inr (Sum.inl f_a_above))), (o_hire, Sum.inr (3, [Value.int hire_v_signs, Value.int hire_v_works, Value.int hire_v_whole, Value.int hire_v_otherwise, Value.int hire_v_least, Value.int hire_v_rates, Value.ref hire_a_brings, Value.ref hire_a_costs, Value.ref hire_a_chances, Value.ref hire_a_rate, Value.ref hire_a_mark])), (p0, Sum.inr (2, [Value.long y5, Value.long y6]))] H := hP
  have hD : va_D A [(o, Sum.inr (4, [Value.ref a_above, Value.long v_aboveLower, Value.ref o_table, Value.ref a_columnSign, Value.ref a_columnRate, Value.ref a_columnRoom, Value.int v_columns, Value.int v_rooms, Value.ref o_hire, Value.int v_work, Value.int v_keptSign, Value.int v_joinedSign])), (a_above, Sum.inl (k_a_above, 4, Sum.inr (Sum.inl f_a_above))), (o_hire, Sum.inr (3, [Value.int hire_v_signs, Value.int hire_v_works, Value.int hire_v_whole, Value.int hire_v_otherwise, Value.int hire_v_least, Value.int hire_v_rates, Value.ref hire_a_brings, Value.ref hire_a_costs, Value.ref hire_a_chances, Value.ref hire_a_rate, Value.ref hire_a_mark])), (p0, Sum.inr (2, [Value.long y5, Value.long y6]))] := hD
  refine W.widen (k := 0) (n := 0) (by decide) (by decide) ?_
  have hP9 := hP.sub (ws' := [(o, Sum.inr (4, [Value.ref a_above, Value.long v_aboveLower, Value.ref o_table, Value.ref a_columnSign, Value.ref a_columnRate, Value.ref a_columnRoom, Value.int v_columns, Value.int v_rooms, Value.ref o_hire, Value.int v_work, Value.int v_keptSign, Value.int v_joinedSign])), (a_above, Sum.inl (k_a_above, 4, Sum.inr (Sum.inl f_a_above))), (o_hire, Sum.inr (3, [Value.int hire_v_signs, Value.int hire_v_works, Value.int hire_v_whole, Value.int hire_v_otherwise, Value.int hire_v_least, Value.int hire_v_rates, Value.ref hire_a_brings, Value.ref hire_a_costs, Value.ref hire_a_chances, Value.ref hire_a_rate, Value.ref hire_a_mark])), (p0, Sum.inr (2, [Value.long y5, Value.long y6]))]) [0, 1, 2, 3] rfl
  have hD9 := hD.sub (ws' := [(o, Sum.inr (4, [Value.ref a_above, Value.long v_aboveLower, Value.ref o_table, Value.ref a_columnSign, Value.ref a_columnRate, Value.ref a_columnRoom, Value.int v_columns, Value.int v_rooms, Value.ref o_hire, Value.int v_work, Value.int v_keptSign, Value.int v_joinedSign])), (a_above, Sum.inl (k_a_above, 4, Sum.inr (Sum.inl f_a_above))), (o_hire, Sum.inr (3, [Value.int hire_v_signs, Value.int hire_v_works, Value.int hire_v_whole, Value.int hire_v_otherwise, Value.int hire_v_least, Value.int hire_v_rates, Value.ref hire_a_brings, Value.ref hire_a_costs, Value.ref hire_a_chances, Value.ref hire_a_rate, Value.ref hire_a_mark])), (p0, Sum.inr (2, [Value.long y5, Value.long y6]))]) [0, 1, 2, 3] (by decide) rfl
  exact W.vret hx hb hr (fun t ht hW => ⟨⟨(), rfl, trivial, y5, y6, by rw [ht]; exact hP9, hD9⟩, hS.F ht⟩) hS.2.2 dX4_wageInto_28

set_option maxHeartbeats 4000000 in
set_option maxRecDepth 100000 in
theorem ct_X5_start (l : Launch) (dC : Nat → ClassId) (dI : Nat → Nat → Nat) (o : Nat) (v_lowUpper : Int64) (v_lowLower : Int64) (v_capUpper : Int64) (v_capLower : Int64) (v_isBroken : Int32) (sz : Nat) : Met l yX5_start wsX5_start ({ frames := 0, cells := 0, slots := 0, locals := 0 }) (va_Pc [Value.ref o] (fun U => U.heap.size = sz ∧ va_P (dC, dI) vwCl [(o, Sum.inr (5, [Value.long v_lowUpper, Value.long v_lowLower, Value.long v_capUpper, Value.long v_capLower, Value.int v_isBroken]))] U.heap ∧ va_K (dC, dI) vwCl [] U ∧ va_D (fun _ => True) [(o, Sum.inr (5, [Value.long v_lowUpper, Value.long v_lowLower, Value.long v_capUpper, Value.long v_capLower, Value.int v_isBroken]))])) (va_Qv (fun _ : Unit => True) (fun _ t => va_P (dC, dI) vwCl [(o, Sum.inr (5, [Value.long 0, Value.long 1, Value.long 0, Value.long 0, Value.int 0]))] t.heap ∧ va_D (va_A [(o, Sum.inr (5, [Value.long v_lowUpper, Value.long v_lowLower, Value.long v_capUpper, Value.long v_capLower, Value.int v_isBroken]))] sz) [(o, Sum.inr (5, [Value.long 0, Value.long 1, Value.long 0, Value.long 0, Value.int 0]))]) (va_A [(o, Sum.inr (5, [Value.long v_lowUpper, Value.long v_lowLower, Value.long v_capUpper, Value.long v_capLower, Value.int v_isBroken]))] sz)) 0 0 (va_A [(o, Sum.inr (5, [Value.long v_lowUpper, Value.long v_lowLower, Value.long v_capUpper, Value.long v_capLower, Value.int v_isBroken]))] sz) := by
  refine Met.ofW (cc := cX5_start) (maxL := 1) (ret := none) pn_X5 rfl ?_
  intro p e s m args below meth c s₁ B hml hv
  obtain ⟨rfl, hsz, hP, hK, hD0⟩ := hv
  have hx := B.exec
  have hb := B.bytes
  have hr := B.returns
  have hts := atoms_spec (ws := wsX5_start) B.pre
  have hown : s.vm.findClass RX5 = some m.cls := findClass_of_methodNamed B.named
  have hlocks := B.notSynchronized
  subst hsz
  have hD := hD0.self (sz := s.heap.size)
  generalize hAe : va_A [(o, Sum.inr (5, [Value.long v_lowUpper, Value.long v_lowLower, Value.long v_capUpper, Value.long v_capLower, Value.int v_isBroken]))] s.heap.size = A at hD ⊢
  have hA : ∀ q : Nat, s.heap.size ≤ q → A q := fun q h => by rw [← hAe]; exact Or.inr h
  have hS : va_S A s.heap s.heap [] := va_S.rf
  have hP : va_P (dC, dI) vwCl [(o, Sum.inr (5, [Value.long v_lowUpper, Value.long v_lowLower, Value.long v_capUpper, Value.long v_capLower, Value.int v_isBroken]))] s.heap := hP
  have hl := lv_entry ([Value.ref o]) (n := 1) (Nat.le_of_ble_eq_true rfl)
  rw [lg_entry_eq]
  generalize (lg_sl ([Value.ref o]) ++ List.replicate (1 - (lg_sl ([Value.ref o])).length) Slot.unset).toArray = ls at hl ⊢
  have hl : lv_has ls 1 [(0, Value.ref o)] := hl
  refine lv_aload_n hx hb dX5_start_0 rfl (lv_at hl 0 rfl) ?_
  refine lv_lconst (v := 0) hx hb dX5_start_1 (by decide) ?_
  refine va_put (D := (dC, dI)) (ci := 5) (v := Value.long 0) (ty := FieldType.long) (C := RX5) (T := TX5) (N := 5) hx hb hts iw_X5_start_X5 tyX5 tyX5_ok nmX5 hown hK hP hD hS 0 rfl rfl 0 (by decide) (hts _ kk_X5_start_0) (fun _ h9 => h9) rfl (by decide +kernel) rfl rfl (Nat.le_of_ble_eq_true rfl) dX5_start_2 (fun H locs hP hD hS => ?_)
  have hP : va_P (dC, dI) vwCl [(o, Sum.inr (5, [Value.long 0, Value.long v_lowLower, Value.long v_capUpper, Value.long v_capLower, Value.int v_isBroken]))] H := hP
  have hD : va_D A [(o, Sum.inr (5, [Value.long 0, Value.long v_lowLower, Value.long v_capUpper, Value.long v_capLower, Value.int v_isBroken]))] := hD
  refine lv_aload_n hx hb dX5_start_5 rfl (lv_at hl 0 rfl) ?_
  refine lv_lconst (v := 1) hx hb dX5_start_6 (by decide) ?_
  refine va_put (D := (dC, dI)) (ci := 5) (v := Value.long 1) (ty := FieldType.long) (C := RX5) (T := TX5) (N := 5) hx hb hts iw_X5_start_X5 tyX5 tyX5_ok nmX5 hown hK hP hD hS 0 rfl rfl 1 (by decide) (hts _ kk_X5_start_1) (fun _ h9 => h9) rfl (by decide +kernel) rfl rfl (Nat.le_of_ble_eq_true rfl) dX5_start_7 (fun H locs hP hD hS => ?_)
  have hP : va_P (dC, dI) vwCl [(o, Sum.inr (5, [Value.long 0, Value.long 1, Value.long v_capUpper, Value.long v_capLower, Value.int v_isBroken]))] H := hP
  have hD : va_D A [(o, Sum.inr (5, [Value.long 0, Value.long 1, Value.long v_capUpper, Value.long v_capLower, Value.int v_isBroken]))] := hD
  refine lv_aload_n hx hb dX5_start_10 rfl (lv_at hl 0 rfl) ?_
  refine lv_lconst (v := 0) hx hb dX5_start_11 (by decide) ?_
  refine va_put (D := (dC, dI)) (ci := 5) (v := Value.long 0) (ty := FieldType.long) (C := RX5) (T := TX5) (N := 5) hx hb hts iw_X5_start_X5 tyX5 tyX5_ok nmX5 hown hK hP hD hS 0 rfl rfl 2 (by decide) (hts _ kk_X5_start_2) (fun _ h9 => h9) rfl (by decide +kernel) rfl rfl (Nat.le_of_ble_eq_true rfl) dX5_start_12 (fun H locs hP hD hS => ?_)
  have hP : va_P (dC, dI) vwCl [(o, Sum.inr (5, [Value.long 0, Value.long 1, Value.long 0, Value.long v_capLower, Value.int v_isBroken]))] H := hP
  have hD : va_D A [(o, Sum.inr (5, [Value.long 0, Value.long 1, Value.long 0, Value.long v_capLower, Value.int v_isBroken]))] := hD
  refine lv_aload_n hx hb dX5_start_15 rfl (lv_at hl 0 rfl) ?_
  refine lv_lconst (v := 0) hx hb dX5_start_16 (by decide) ?_
  refine va_put (D := (dC, dI)) (ci := 5) (v := Value.long 0) (ty := FieldType.long) (C := RX5) (T := TX5) (N := 5) hx hb hts iw_X5_start_X5 tyX5 tyX5_ok nmX5 hown hK hP hD hS 0 rfl rfl 3 (by decide) (hts _ kk_X5_start_3) (fun _ h9 => h9) rfl (by decide +kernel) rfl rfl (Nat.le_of_ble_eq_true rfl) dX5_start_17 (fun H locs hP hD hS => ?_)
  have hP : va_P (dC, dI) vwCl [(o, Sum.inr (5, [Value.long 0, Value.long 1, Value.long 0, Value.long 0, Value.int v_isBroken]))] H := hP
  have hD : va_D A [(o, Sum.inr (5, [Value.long 0, Value.long 1, Value.long 0, Value.long 0, Value.int v_isBroken]))] := hD
  refine lv_aload_n hx hb dX5_start_20 rfl (lv_at hl 0 rfl) ?_
  refine lv_iconst (v := 0) hx hb dX5_start_21 (by decide) ?_
  refine va_put (D := (dC, dI)) (ci := 5) (v := Value.int 0) (ty := FieldType.boolean) (C := RX5) (T := TX5) (N := 5) hx hb hts iw_X5_start_X5 tyX5 tyX5_ok nmX5 hown hK hP hD hS 0 rfl rfl 4 (by decide) (hts _ kk_X5_start_4) (fun _ h9 => h9) rfl (by decide +kernel) rfl rfl (Nat.le_of_ble_eq_true rfl) dX5_start_22 (fun H locs hP hD hS => ?_)
  have hP : va_P (dC, dI) vwCl [(o, Sum.inr (5, [Value.long 0, Value.long 1, Value.long 0, Value.long 0, Value.int 0]))] H := hP
  have hD : va_D A [(o, Sum.inr (5, [Value.long 0, Value.long 1, Value.long 0, Value.long 0, Value.int 0]))] := hD
  have hP9 := hP.sub (ws' := [(o, Sum.inr (5, [Value.long 0, Value.long 1, Value.long 0, Value.long 0, Value.int 0]))]) [0] rfl
  have hD9 := hD.sub (ws' := [(o, Sum.inr (5, [Value.long 0, Value.long 1, Value.long 0, Value.long 0, Value.int 0]))]) [0] (by decide) rfl
  exact W.vret hx hb hr (fun t ht hW => ⟨⟨(), rfl, trivial, by rw [ht]; exact hP9, hD9⟩, hS.F ht⟩) hS.2.2 dX5_start_25

set_option maxHeartbeats 4000000 in
set_option maxRecDepth 100000 in
theorem ct_X5_isMet (l : Launch) (dC : Nat → ClassId) (dI : Nat → Nat → Nat) (o : Nat) (v_lowUpper : Int64) (v_lowLower : Int64) (v_capUpper : Int64) (v_capLower : Int64) (v_isBroken : Int32) (hv_isBroken : iv v_isBroken 0 1) (sz : Nat) : Met l yX5_isMet wsX5_isMet ({ frames := 0, cells := 0, slots := 0, locals := 0 }) (va_Pc [Value.ref o] (fun U => U.heap.size = sz ∧ va_P (dC, dI) vwCl [(o, Sum.inr (5, [Value.long v_lowUpper, Value.long v_lowLower, Value.long v_capUpper, Value.long v_capLower, Value.int v_isBroken]))] U.heap ∧ va_K (dC, dI) vwCl [] U ∧ va_D (fun _ => True) [(o, Sum.inr (5, [Value.long v_lowUpper, Value.long v_lowLower, Value.long v_capUpper, Value.long v_capLower, Value.int v_isBroken]))])) (va_Qi (fun (r u : Int32) => u = r) (fun (r : Int32) t => ((r = 0) ∨ (r = 1)) ∧ va_P (dC, dI) vwCl [(o, Sum.inr (5, [Value.long v_lowUpper, Value.long v_lowLower, Value.long v_capUpper, Value.long v_capLower, Value.int v_isBroken]))] t.heap ∧ va_D (va_A [(o, Sum.inr (5, [Value.long v_lowUpper, Value.long v_lowLower, Value.long v_capUpper, Value.long v_capLower, Value.int v_isBroken]))] sz) [(o, Sum.inr (5, [Value.long v_lowUpper, Value.long v_lowLower, Value.long v_capUpper, Value.long v_capLower, Value.int v_isBroken]))]) (va_A [(o, Sum.inr (5, [Value.long v_lowUpper, Value.long v_lowLower, Value.long v_capUpper, Value.long v_capLower, Value.int v_isBroken]))] sz)) 0 0 (va_A [(o, Sum.inr (5, [Value.long v_lowUpper, Value.long v_lowLower, Value.long v_capUpper, Value.long v_capLower, Value.int v_isBroken]))] sz) := by
  refine Met.ofW (cc := cX5_isMet) (maxL := 2) (ret := (some .boolean)) pn_X5 rfl ?_
  intro p e s m args below meth c s₁ B hml hv
  obtain ⟨rfl, hsz, hP, hK, hD0⟩ := hv
  have hx := B.exec
  have hb := B.bytes
  have hr := B.returns
  have hts := atoms_spec (ws := wsX5_isMet) B.pre
  have hown : s.vm.findClass RX5 = some m.cls := findClass_of_methodNamed B.named
  have hlocks := B.notSynchronized
  subst hsz
  have hD := hD0.self (sz := s.heap.size)
  generalize hAe : va_A [(o, Sum.inr (5, [Value.long v_lowUpper, Value.long v_lowLower, Value.long v_capUpper, Value.long v_capLower, Value.int v_isBroken]))] s.heap.size = A at hD ⊢
  have hA : ∀ q : Nat, s.heap.size ≤ q → A q := fun q h => by rw [← hAe]; exact Or.inr h
  have hS : va_S A s.heap s.heap [] := va_S.rf
  have hP : va_P (dC, dI) vwCl [(o, Sum.inr (5, [Value.long v_lowUpper, Value.long v_lowLower, Value.long v_capUpper, Value.long v_capLower, Value.int v_isBroken]))] s.heap := hP
  have hl := lv_entry ([Value.ref o]) (n := 2) (Nat.le_of_ble_eq_true rfl)
  rw [lg_entry_eq]
  generalize (lg_sl ([Value.ref o]) ++ List.replicate (2 - (lg_sl ([Value.ref o])).length) Slot.unset).toArray = ls at hl ⊢
  have hl : lv_has ls 2 [(0, Value.ref o)] := hl
  refine lv_aload_n hx hb dX5_isMet_0 rfl (lv_at hl 0 rfl) ?_
  refine va_get (D := (dC, dI)) (ci := 5) (v := Value.long v_capLower) (C := RX5) (T := TX5) (N := 5) hx hb hts iw_X5_isMet_X5 hown hK hP 0 rfl rfl 3 (by decide) (hts _ kk_X5_isMet_0) (fun _ h9 => h9) rfl dX5_isMet_1 ?_
  refine lv_lconst (v := 0) hx hb dX5_isMet_4 (by decide) ?_
  refine W.lcmp hx hb dX5_isMet_5 ?_
  refine lv_if_eq (tgt := 31) hx hb dX5_isMet_6 (by decide) (fun c1 => ?_) (fun c1 => ?_)
  · skip
    have c19 := lc_eq c1
    refine lv_iconst (v := 1) hx hb dX5_isMet_31 (by decide) ?_
    refine lv_goto (tgt := 36) hx hb dX5_isMet_32 (by decide) ?_
    refine lv_istore_n (lv' := [(1, Value.int 1), (0, Value.ref o)]) hx hb dX5_isMet_36 rfl hl (by decide) rfl (fun ls hl => ?_)
    refine lv_aload_n hx hb dX5_isMet_37 rfl (lv_at hl 1 rfl) ?_
    refine va_get (D := (dC, dI)) (ci := 5) (v := Value.int v_isBroken) (C := RX5) (T := TX5) (N := 5) hx hb hts iw_X5_isMet_X5 hown hK hP 0 rfl rfl 4 (by decide) (hts _ kk_X5_isMet_1) (fun _ h9 => h9) rfl dX5_isMet_38 ?_
    have bv_isBroken := hv_isBroken.u
    refine lv_if_ne (tgt := 52) hx hb dX5_isMet_41 (by decide) (fun c2 => ?_) (fun c2 => ?_)
    · have c29 := i32_ne c2 rfl (show (0 : Int32).toInt = 0 by decide)
      refine lv_iconst (v := 0) hx hb dX5_isMet_52 (by decide) ?_
      have hP9 := hP.sub (ws' := [(o, Sum.inr (5, [Value.long v_lowUpper, Value.long v_lowLower, Value.long v_capUpper, Value.long v_capLower, Value.int v_isBroken]))]) [0] rfl
      have hD9 := hD.sub (ws' := [(o, Sum.inr (5, [Value.long v_lowUpper, Value.long v_lowLower, Value.long v_capUpper, Value.long v_capLower, Value.int v_isBroken]))]) [0] (by decide) rfl
      exact W.zret (v := 0) hx hb hr rfl (fun t ht hW => ⟨⟨0, 0, rfl, rfl, (Or.inl rfl), by rw [ht]; exact hP9, hD9⟩, hS.F ht⟩) hS.2.2 dX5_isMet_53
    · have c29 := i32_eq c2 rfl (show (0 : Int32).toInt = 0 by decide)
      refine lv_iload_n hx hb dX5_isMet_44 rfl (lv_at hl 0 rfl) ?_
      refine lv_if_eq (tgt := 52) hx hb dX5_isMet_45 (by decide) (fun cz => absurd cz (by decide)) (fun _ => ?_)
      refine lv_iconst (v := 1) hx hb dX5_isMet_48 (by decide) ?_
      refine lv_goto (tgt := 53) hx hb dX5_isMet_49 (by decide) ?_
      have hP9 := hP.sub (ws' := [(o, Sum.inr (5, [Value.long v_lowUpper, Value.long v_lowLower, Value.long v_capUpper, Value.long v_capLower, Value.int v_isBroken]))]) [0] rfl
      have hD9 := hD.sub (ws' := [(o, Sum.inr (5, [Value.long v_lowUpper, Value.long v_lowLower, Value.long v_capUpper, Value.long v_capLower, Value.int v_isBroken]))]) [0] (by decide) rfl
      exact W.zret (v := 1) hx hb hr rfl (fun t ht hW => ⟨⟨1, 1, rfl, rfl, (Or.inr (rfl)), by rw [ht]; exact hP9, hD9⟩, hS.F ht⟩) hS.2.2 dX5_isMet_53
  · skip
    have c19 := lc_ne c1
    refine lv_aload_n hx hb dX5_isMet_9 rfl (lv_at hl 0 rfl) ?_
    refine va_get (D := (dC, dI)) (ci := 5) (v := Value.long v_lowUpper) (C := RX5) (T := TX5) (N := 5) hx hb hts iw_X5_isMet_X5 hown hK hP 0 rfl rfl 0 (by decide) (hts _ kk_X5_isMet_2) (fun _ h9 => h9) rfl dX5_isMet_10 ?_
    refine lv_aload_n hx hb dX5_isMet_13 rfl (lv_at hl 0 rfl) ?_
    refine va_get (D := (dC, dI)) (ci := 5) (v := Value.long v_capLower) (C := RX5) (T := TX5) (N := 5) hx hb hts iw_X5_isMet_X5 hown hK hP 0 rfl rfl 3 (by decide) (hts _ kk_X5_isMet_0) (fun _ h9 => h9) rfl dX5_isMet_14 ?_
    refine lv_lmul hx hb dX5_isMet_17 ?_
    refine lv_topl (fun y3 ey3 => ?_)
    refine lv_aload_n hx hb dX5_isMet_18 rfl (lv_at hl 0 rfl) ?_
    refine va_get (D := (dC, dI)) (ci := 5) (v := Value.long v_capUpper) (C := RX5) (T := TX5) (N := 5) hx hb hts iw_X5_isMet_X5 hown hK hP 0 rfl rfl 2 (by decide) (hts _ kk_X5_isMet_3) (fun _ h9 => h9) rfl dX5_isMet_19 ?_
    refine lv_aload_n hx hb dX5_isMet_22 rfl (lv_at hl 0 rfl) ?_
    refine va_get (D := (dC, dI)) (ci := 5) (v := Value.long v_lowLower) (C := RX5) (T := TX5) (N := 5) hx hb hts iw_X5_isMet_X5 hown hK hP 0 rfl rfl 1 (by decide) (hts _ kk_X5_isMet_4) (fun _ h9 => h9) rfl dX5_isMet_23 ?_
    refine lv_lmul hx hb dX5_isMet_26 ?_
    refine lv_topl (fun y4 ey4 => ?_)
    refine W.lcmp hx hb dX5_isMet_27 ?_
    refine lv_if_gt (tgt := 35) hx hb dX5_isMet_28 (by decide) (fun c5 => ?_) (fun c5 => ?_)
    · skip
      have c59 := lc_gt c5
      refine lv_iconst (v := 0) hx hb dX5_isMet_35 (by decide) ?_
      refine lv_istore_n (lv' := [(1, Value.int 0), (0, Value.ref o)]) hx hb dX5_isMet_36 rfl hl (by decide) rfl (fun ls hl => ?_)
      refine lv_aload_n hx hb dX5_isMet_37 rfl (lv_at hl 1 rfl) ?_
      refine va_get (D := (dC, dI)) (ci := 5) (v := Value.int v_isBroken) (C := RX5) (T := TX5) (N := 5) hx hb hts iw_X5_isMet_X5 hown hK hP 0 rfl rfl 4 (by decide) (hts _ kk_X5_isMet_1) (fun _ h9 => h9) rfl dX5_isMet_38 ?_
      have bv_isBroken := hv_isBroken.u
      refine lv_if_ne (tgt := 52) hx hb dX5_isMet_41 (by decide) (fun c6 => ?_) (fun c6 => ?_)
      · have c69 := i32_ne c6 rfl (show (0 : Int32).toInt = 0 by decide)
        refine lv_iconst (v := 0) hx hb dX5_isMet_52 (by decide) ?_
        have hP9 := hP.sub (ws' := [(o, Sum.inr (5, [Value.long v_lowUpper, Value.long v_lowLower, Value.long v_capUpper, Value.long v_capLower, Value.int v_isBroken]))]) [0] rfl
        have hD9 := hD.sub (ws' := [(o, Sum.inr (5, [Value.long v_lowUpper, Value.long v_lowLower, Value.long v_capUpper, Value.long v_capLower, Value.int v_isBroken]))]) [0] (by decide) rfl
        exact W.zret (v := 0) hx hb hr rfl (fun t ht hW => ⟨⟨0, 0, rfl, rfl, (Or.inl rfl), by rw [ht]; exact hP9, hD9⟩, hS.F ht⟩) hS.2.2 dX5_isMet_53
      · have c69 := i32_eq c6 rfl (show (0 : Int32).toInt = 0 by decide)
        refine lv_iload_n hx hb dX5_isMet_44 rfl (lv_at hl 0 rfl) ?_
        refine lv_if_eq (tgt := 52) hx hb dX5_isMet_45 (by decide) (fun _ => ?_) (fun cz => absurd cz (by decide))
        refine lv_iconst (v := 0) hx hb dX5_isMet_52 (by decide) ?_
        have hP9 := hP.sub (ws' := [(o, Sum.inr (5, [Value.long v_lowUpper, Value.long v_lowLower, Value.long v_capUpper, Value.long v_capLower, Value.int v_isBroken]))]) [0] rfl
        have hD9 := hD.sub (ws' := [(o, Sum.inr (5, [Value.long v_lowUpper, Value.long v_lowLower, Value.long v_capUpper, Value.long v_capLower, Value.int v_isBroken]))]) [0] (by decide) rfl
        exact W.zret (v := 0) hx hb hr rfl (fun t ht hW => ⟨⟨0, 0, rfl, rfl, (Or.inl rfl), by rw [ht]; exact hP9, hD9⟩, hS.F ht⟩) hS.2.2 dX5_isMet_53
    · skip
      have c59 := lc_ngt c5
      refine lv_iconst (v := 1) hx hb dX5_isMet_31 (by decide) ?_
      refine lv_goto (tgt := 36) hx hb dX5_isMet_32 (by decide) ?_
      refine lv_istore_n (lv' := [(1, Value.int 1), (0, Value.ref o)]) hx hb dX5_isMet_36 rfl hl (by decide) rfl (fun ls hl => ?_)
      refine lv_aload_n hx hb dX5_isMet_37 rfl (lv_at hl 1 rfl) ?_
      refine va_get (D := (dC, dI)) (ci := 5) (v := Value.int v_isBroken) (C := RX5) (T := TX5) (N := 5) hx hb hts iw_X5_isMet_X5 hown hK hP 0 rfl rfl 4 (by decide) (hts _ kk_X5_isMet_1) (fun _ h9 => h9) rfl dX5_isMet_38 ?_
      have bv_isBroken := hv_isBroken.u
      refine lv_if_ne (tgt := 52) hx hb dX5_isMet_41 (by decide) (fun c7 => ?_) (fun c7 => ?_)
      · have c79 := i32_ne c7 rfl (show (0 : Int32).toInt = 0 by decide)
        refine lv_iconst (v := 0) hx hb dX5_isMet_52 (by decide) ?_
        have hP9 := hP.sub (ws' := [(o, Sum.inr (5, [Value.long v_lowUpper, Value.long v_lowLower, Value.long v_capUpper, Value.long v_capLower, Value.int v_isBroken]))]) [0] rfl
        have hD9 := hD.sub (ws' := [(o, Sum.inr (5, [Value.long v_lowUpper, Value.long v_lowLower, Value.long v_capUpper, Value.long v_capLower, Value.int v_isBroken]))]) [0] (by decide) rfl
        exact W.zret (v := 0) hx hb hr rfl (fun t ht hW => ⟨⟨0, 0, rfl, rfl, (Or.inl rfl), by rw [ht]; exact hP9, hD9⟩, hS.F ht⟩) hS.2.2 dX5_isMet_53
      · have c79 := i32_eq c7 rfl (show (0 : Int32).toInt = 0 by decide)
        refine lv_iload_n hx hb dX5_isMet_44 rfl (lv_at hl 0 rfl) ?_
        refine lv_if_eq (tgt := 52) hx hb dX5_isMet_45 (by decide) (fun cz => absurd cz (by decide)) (fun _ => ?_)
        refine lv_iconst (v := 1) hx hb dX5_isMet_48 (by decide) ?_
        refine lv_goto (tgt := 53) hx hb dX5_isMet_49 (by decide) ?_
        have hP9 := hP.sub (ws' := [(o, Sum.inr (5, [Value.long v_lowUpper, Value.long v_lowLower, Value.long v_capUpper, Value.long v_capLower, Value.int v_isBroken]))]) [0] rfl
        have hD9 := hD.sub (ws' := [(o, Sum.inr (5, [Value.long v_lowUpper, Value.long v_lowLower, Value.long v_capUpper, Value.long v_capLower, Value.int v_isBroken]))]) [0] (by decide) rfl
        exact W.zret (v := 1) hx hb hr rfl (fun t ht hW => ⟨⟨1, 1, rfl, rfl, (Or.inr (rfl)), by rw [ht]; exact hP9, hD9⟩, hS.F ht⟩) hS.2.2 dX5_isMet_53

set_option maxHeartbeats 4000000 in
set_option maxRecDepth 100000 in
theorem ct_X5_need (l : Launch) (dC : Nat → ClassId) (dI : Nat → Nat → Nat) (o : Nat) (p0 : Int64) (p1 : Int64) (v_lowUpper : Int64) (v_lowLower : Int64) (v_capUpper : Int64) (v_capLower : Int64) (v_isBroken : Int32) (hv_isBroken : iv v_isBroken 0 1) (sz : Nat) : Met l yX5_need wsX5_need ({ frames := 0, cells := 0, slots := 0, locals := 0 }) (va_Pc [Value.ref o, Value.long p0, Value.long p1] (fun U => U.heap.size = sz ∧ va_P (dC, dI) vwCl [(o, Sum.inr (5, [Value.long v_lowUpper, Value.long v_lowLower, Value.long v_capUpper, Value.long v_capLower, Value.int v_isBroken]))] U.heap ∧ va_K (dC, dI) vwCl [] U ∧ va_D (fun _ => True) [(o, Sum.inr (5, [Value.long v_lowUpper, Value.long v_lowLower, Value.long v_capUpper, Value.long v_capLower, Value.int v_isBroken]))])) (va_Qv (fun _ : Unit => True) (fun _ t => ∃ (e_v_lowUpper : Int64) (e_v_lowLower : Int64) (e_v_capUpper : Int64) (e_v_capLower : Int64) (e_v_isBroken : Int32), iv e_v_isBroken 0 1 ∧ va_P (dC, dI) vwCl [(o, Sum.inr (5, [Value.long e_v_lowUpper, Value.long e_v_lowLower, Value.long e_v_capUpper, Value.long e_v_capLower, Value.int e_v_isBroken]))] t.heap ∧ va_D (va_A [(o, Sum.inr (5, [Value.long v_lowUpper, Value.long v_lowLower, Value.long v_capUpper, Value.long v_capLower, Value.int v_isBroken]))] sz) [(o, Sum.inr (5, [Value.long e_v_lowUpper, Value.long e_v_lowLower, Value.long e_v_capUpper, Value.long e_v_capLower, Value.int e_v_isBroken]))]) (va_A [(o, Sum.inr (5, [Value.long v_lowUpper, Value.long v_lowLower, Value.long v_capUpper, Value.long v_capLower, Value.int v_isBroken]))] sz)) 0 0 (va_A [(o, Sum.inr (5, [Value.long v_lowUpper, Value.long v_lowLower, Value.long v_capUpper, Value.long v_capLower, Value.int v_isBroken]))] sz) := by
  refine Met.ofW (cc := cX5_need) (maxL := 5) (ret := none) pn_X5 rfl ?_
  intro p e s m args below meth c s₁ B hml hv
  obtain ⟨rfl, hsz, hP, hK, hD0⟩ := hv
  have hx := B.exec
  have hb := B.bytes
  have hr := B.returns
  have hts := atoms_spec (ws := wsX5_need) B.pre
  have hown : s.vm.findClass RX5 = some m.cls := findClass_of_methodNamed B.named
  have hlocks := B.notSynchronized
  subst hsz
  have hD := hD0.self (sz := s.heap.size)
  generalize hAe : va_A [(o, Sum.inr (5, [Value.long v_lowUpper, Value.long v_lowLower, Value.long v_capUpper, Value.long v_capLower, Value.int v_isBroken]))] s.heap.size = A at hD ⊢
  have hA : ∀ q : Nat, s.heap.size ≤ q → A q := fun q h => by rw [← hAe]; exact Or.inr h
  have hS : va_S A s.heap s.heap [] := va_S.rf
  have hP : va_P (dC, dI) vwCl [(o, Sum.inr (5, [Value.long v_lowUpper, Value.long v_lowLower, Value.long v_capUpper, Value.long v_capLower, Value.int v_isBroken]))] s.heap := hP
  have hl := lv_entry ([Value.ref o, Value.long p0, Value.long p1]) (n := 5) (Nat.le_of_ble_eq_true rfl)
  rw [lg_entry_eq]
  generalize (lg_sl ([Value.ref o, Value.long p0, Value.long p1]) ++ List.replicate (5 - (lg_sl ([Value.ref o, Value.long p0, Value.long p1])).length) Slot.unset).toArray = ls at hl ⊢
  have hl : lv_has ls 5 [(0, Value.ref o), (1, Value.long p0), (3, Value.long p1)] := hl
  refine lv_lload_n hx hb dX5_need_0 rfl (lv_at hl 1 rfl) ?_
  refine lv_lconst (v := 0) hx hb dX5_need_1 (by decide) ?_
  refine W.lcmp hx hb dX5_need_2 ?_
  refine lv_if_le (tgt := 32) hx hb dX5_need_3 (by decide) (fun c1 => ?_) (fun c1 => ?_)
  · skip
    have c19 := lc_le c1
    have bp0 : (-9223372036854775808 : Int) ≤ p0.toInt ∧ p0.toInt ≤ 9223372036854775807 := ⟨i64_min _, i64_max _⟩
    have dp0 := i64_le c19 rfl (show (0 : Int64).toInt = 0 by decide)
    have hp0 : jv p0 (-9223372036854775808) 0 := jv.m (by omega)
    refine lv_lload_n hx hb dX5_need_32 rfl (lv_at hl 1 rfl) ?_
    refine lv_lconst (v := 0) hx hb dX5_need_33 (by decide) ?_
    refine W.lcmp hx hb dX5_need_34 ?_
    refine lv_if_ne (tgt := 49) hx hb dX5_need_35 (by decide) (fun c2 => ?_) (fun c2 => ?_)
    · skip
      have c29 := lc_ne c2
      refine lv_lload_n hx hb dX5_need_49 rfl (lv_at hl 1 rfl) ?_
      refine lv_lconst (v := 0) hx hb dX5_need_50 (by decide) ?_
      refine W.lcmp hx hb dX5_need_51 ?_
      refine lv_if_ge (tgt := 92) hx hb dX5_need_52 (by decide) (fun c3 => ?_) (fun c3 => ?_)
      · skip
        have c39 := lc_ge c3
        have bp0 := hp0.u
        have dp0 := i64_le c39 (show (0 : Int64).toInt = 0 by decide) rfl
        have hp0 : jv p0 0 0 := jv.m (by omega)
        have hP9 := hP.sub (ws' := [(o, Sum.inr (5, [Value.long v_lowUpper, Value.long v_lowLower, Value.long v_capUpper, Value.long v_capLower, Value.int v_isBroken]))]) [0] rfl
        have hD9 := hD.sub (ws' := [(o, Sum.inr (5, [Value.long v_lowUpper, Value.long v_lowLower, Value.long v_capUpper, Value.long v_capLower, Value.int v_isBroken]))]) [0] (by decide) rfl
        exact W.vret hx hb hr (fun t ht hW => ⟨⟨(), rfl, trivial, v_lowUpper, v_lowLower, v_capUpper, v_capLower, v_isBroken, hv_isBroken, by rw [ht]; exact hP9, hD9⟩, hS.F ht⟩) hS.2.2 dX5_need_92
      · skip
        have c39 := lc_nge c3
        have bp0 := hp0.u
        have dp0 := i64_lt c39 rfl (show (0 : Int64).toInt = 0 by decide)
        have hp0 : jv p0 (-9223372036854775808) (-1) := jv.m (by omega)
        refine lv_aload_n hx hb dX5_need_55 rfl (lv_at hl 0 rfl) ?_
        refine va_get (D := (dC, dI)) (ci := 5) (v := Value.long v_capLower) (C := RX5) (T := TX5) (N := 5) hx hb hts iw_X5_need_X5 hown hK hP 0 rfl rfl 3 (by decide) (hts _ kk_X5_need_0) (fun _ h9 => h9) rfl dX5_need_56 ?_
        refine lv_lconst (v := 0) hx hb dX5_need_59 (by decide) ?_
        refine W.lcmp hx hb dX5_need_60 ?_
        refine lv_if_eq (tgt := 80) hx hb dX5_need_61 (by decide) (fun c4 => ?_) (fun c4 => ?_)
        · skip
          have c49 := lc_eq c4
          refine lv_aload_n hx hb dX5_need_80 rfl (lv_at hl 0 rfl) ?_
          refine lv_lload_n hx hb dX5_need_81 rfl (lv_at hl 2 rfl) ?_
          refine lv_lneg hx hb dX5_need_82 ?_
          refine lv_topl (fun y5 ey5 => ?_)
          refine va_put (D := (dC, dI)) (ci := 5) (v := Value.long y5) (ty := FieldType.long) (C := RX5) (T := TX5) (N := 5) hx hb hts iw_X5_need_X5 tyX5 tyX5_ok nmX5 hown hK hP hD hS 0 rfl rfl 2 (by decide) (hts _ kk_X5_need_1) (fun _ h9 => h9) rfl (by decide +kernel) rfl rfl (Nat.le_of_ble_eq_true rfl) dX5_need_83 (fun H locs hP hD hS => ?_)
          have hP : va_P (dC, dI) vwCl [(o, Sum.inr (5, [Value.long v_lowUpper, Value.long v_lowLower, Value.long y5, Value.long v_capLower, Value.int v_isBroken]))] H := hP
          have hD : va_D A [(o, Sum.inr (5, [Value.long v_lowUpper, Value.long v_lowLower, Value.long y5, Value.long v_capLower, Value.int v_isBroken]))] := hD
          refine lv_aload_n hx hb dX5_need_86 rfl (lv_at hl 0 rfl) ?_
          refine lv_lload_n hx hb dX5_need_87 rfl (lv_at hl 1 rfl) ?_
          refine lv_lneg hx hb dX5_need_88 ?_
          refine lv_topl (fun y6 ey6 => ?_)
          refine va_put (D := (dC, dI)) (ci := 5) (v := Value.long y6) (ty := FieldType.long) (C := RX5) (T := TX5) (N := 5) hx hb hts iw_X5_need_X5 tyX5 tyX5_ok nmX5 hown hK hP hD hS 0 rfl rfl 3 (by decide) (hts _ kk_X5_need_0) (fun _ h9 => h9) rfl (by decide +kernel) rfl rfl (Nat.le_of_ble_eq_true rfl) dX5_need_89 (fun H locs hP hD hS => ?_)
          have hP : va_P (dC, dI) vwCl [(o, Sum.inr (5, [Value.long v_lowUpper, Value.long v_lowLower, Value.long y5, Value.long y6, Value.int v_isBroken]))] H := hP
          have hD : va_D A [(o, Sum.inr (5, [Value.long v_lowUpper, Value.long v_lowLower, Value.long y5, Value.long y6, Value.int v_isBroken]))] := hD
          have hP9 := hP.sub (ws' := [(o, Sum.inr (5, [Value.long v_lowUpper, Value.long v_lowLower, Value.long y5, Value.long y6, Value.int v_isBroken]))]) [0] rfl
          have hD9 := hD.sub (ws' := [(o, Sum.inr (5, [Value.long v_lowUpper, Value.long v_lowLower, Value.long y5, Value.long y6, Value.int v_isBroken]))]) [0] (by decide) rfl
          exact W.vret hx hb hr (fun t ht hW => ⟨⟨(), rfl, trivial, v_lowUpper, v_lowLower, y5, y6, v_isBroken, hv_isBroken, by rw [ht]; exact hP9, hD9⟩, hS.F ht⟩) hS.2.2 dX5_need_92
        · skip
          have c49 := lc_ne c4
          refine lv_lload_n hx hb dX5_need_64 rfl (lv_at hl 2 rfl) ?_
          refine lv_aload_n hx hb dX5_need_65 rfl (lv_at hl 0 rfl) ?_
          refine va_get (D := (dC, dI)) (ci := 5) (v := Value.long v_capLower) (C := RX5) (T := TX5) (N := 5) hx hb hts iw_X5_need_X5 hown hK hP 0 rfl rfl 3 (by decide) (hts _ kk_X5_need_0) (fun _ h9 => h9) rfl dX5_need_66 ?_
          refine lv_lmul hx hb dX5_need_69 ?_
          refine lv_topl (fun y7 ey7 => ?_)
          refine lv_aload_n hx hb dX5_need_70 rfl (lv_at hl 0 rfl) ?_
          refine va_get (D := (dC, dI)) (ci := 5) (v := Value.long v_capUpper) (C := RX5) (T := TX5) (N := 5) hx hb hts iw_X5_need_X5 hown hK hP 0 rfl rfl 2 (by decide) (hts _ kk_X5_need_1) (fun _ h9 => h9) rfl dX5_need_71 ?_
          refine lv_lload_n hx hb dX5_need_74 rfl (lv_at hl 1 rfl) ?_
          refine lv_lmul hx hb dX5_need_75 ?_
          refine lv_topl (fun y8 ey8 => ?_)
          refine W.lcmp hx hb dX5_need_76 ?_
          refine lv_if_le (tgt := 92) hx hb dX5_need_77 (by decide) (fun c9 => ?_) (fun c9 => ?_)
          · skip
            have c99 := lc_le c9
            have hP9 := hP.sub (ws' := [(o, Sum.inr (5, [Value.long v_lowUpper, Value.long v_lowLower, Value.long v_capUpper, Value.long v_capLower, Value.int v_isBroken]))]) [0] rfl
            have hD9 := hD.sub (ws' := [(o, Sum.inr (5, [Value.long v_lowUpper, Value.long v_lowLower, Value.long v_capUpper, Value.long v_capLower, Value.int v_isBroken]))]) [0] (by decide) rfl
            exact W.vret hx hb hr (fun t ht hW => ⟨⟨(), rfl, trivial, v_lowUpper, v_lowLower, v_capUpper, v_capLower, v_isBroken, hv_isBroken, by rw [ht]; exact hP9, hD9⟩, hS.F ht⟩) hS.2.2 dX5_need_92
          · skip
            have c99 := lc_nle c9
            refine lv_aload_n hx hb dX5_need_80 rfl (lv_at hl 0 rfl) ?_
            refine lv_lload_n hx hb dX5_need_81 rfl (lv_at hl 2 rfl) ?_
            refine lv_lneg hx hb dX5_need_82 ?_
            refine lv_topl (fun y10 ey10 => ?_)
            refine va_put (D := (dC, dI)) (ci := 5) (v := Value.long y10) (ty := FieldType.long) (C := RX5) (T := TX5) (N := 5) hx hb hts iw_X5_need_X5 tyX5 tyX5_ok nmX5 hown hK hP hD hS 0 rfl rfl 2 (by decide) (hts _ kk_X5_need_1) (fun _ h9 => h9) rfl (by decide +kernel) rfl rfl (Nat.le_of_ble_eq_true rfl) dX5_need_83 (fun H locs hP hD hS => ?_)
            have hP : va_P (dC, dI) vwCl [(o, Sum.inr (5, [Value.long v_lowUpper, Value.long v_lowLower, Value.long y10, Value.long v_capLower, Value.int v_isBroken]))] H := hP
            have hD : va_D A [(o, Sum.inr (5, [Value.long v_lowUpper, Value.long v_lowLower, Value.long y10, Value.long v_capLower, Value.int v_isBroken]))] := hD
            refine lv_aload_n hx hb dX5_need_86 rfl (lv_at hl 0 rfl) ?_
            refine lv_lload_n hx hb dX5_need_87 rfl (lv_at hl 1 rfl) ?_
            refine lv_lneg hx hb dX5_need_88 ?_
            refine lv_topl (fun y11 ey11 => ?_)
            refine va_put (D := (dC, dI)) (ci := 5) (v := Value.long y11) (ty := FieldType.long) (C := RX5) (T := TX5) (N := 5) hx hb hts iw_X5_need_X5 tyX5 tyX5_ok nmX5 hown hK hP hD hS 0 rfl rfl 3 (by decide) (hts _ kk_X5_need_0) (fun _ h9 => h9) rfl (by decide +kernel) rfl rfl (Nat.le_of_ble_eq_true rfl) dX5_need_89 (fun H locs hP hD hS => ?_)
            have hP : va_P (dC, dI) vwCl [(o, Sum.inr (5, [Value.long v_lowUpper, Value.long v_lowLower, Value.long y10, Value.long y11, Value.int v_isBroken]))] H := hP
            have hD : va_D A [(o, Sum.inr (5, [Value.long v_lowUpper, Value.long v_lowLower, Value.long y10, Value.long y11, Value.int v_isBroken]))] := hD
            have hP9 := hP.sub (ws' := [(o, Sum.inr (5, [Value.long v_lowUpper, Value.long v_lowLower, Value.long y10, Value.long y11, Value.int v_isBroken]))]) [0] rfl
            have hD9 := hD.sub (ws' := [(o, Sum.inr (5, [Value.long v_lowUpper, Value.long v_lowLower, Value.long y10, Value.long y11, Value.int v_isBroken]))]) [0] (by decide) rfl
            exact W.vret hx hb hr (fun t ht hW => ⟨⟨(), rfl, trivial, v_lowUpper, v_lowLower, y10, y11, v_isBroken, hv_isBroken, by rw [ht]; exact hP9, hD9⟩, hS.F ht⟩) hS.2.2 dX5_need_92
    · skip
      have c29 := lc_eq c2
      refine lv_lload_n hx hb dX5_need_38 rfl (lv_at hl 2 rfl) ?_
      refine lv_lconst (v := 0) hx hb dX5_need_39 (by decide) ?_
      refine W.lcmp hx hb dX5_need_40 ?_
      refine lv_if_le (tgt := 49) hx hb dX5_need_41 (by decide) (fun c12 => ?_) (fun c12 => ?_)
      · skip
        have c129 := lc_le c12
        have bp1 : (-9223372036854775808 : Int) ≤ p1.toInt ∧ p1.toInt ≤ 9223372036854775807 := ⟨i64_min _, i64_max _⟩
        have dp1 := i64_le c129 rfl (show (0 : Int64).toInt = 0 by decide)
        have hp1 : jv p1 (-9223372036854775808) 0 := jv.m (by omega)
        refine lv_lload_n hx hb dX5_need_49 rfl (lv_at hl 1 rfl) ?_
        refine lv_lconst (v := 0) hx hb dX5_need_50 (by decide) ?_
        refine W.lcmp hx hb dX5_need_51 ?_
        refine lv_if_ge (tgt := 92) hx hb dX5_need_52 (by decide) (fun c13 => ?_) (fun c13 => ?_)
        · skip
          have c139 := lc_ge c13
          have bp0 := hp0.u
          have dp0 := i64_le c139 (show (0 : Int64).toInt = 0 by decide) rfl
          have hp0 : jv p0 0 0 := jv.m (by omega)
          have hP9 := hP.sub (ws' := [(o, Sum.inr (5, [Value.long v_lowUpper, Value.long v_lowLower, Value.long v_capUpper, Value.long v_capLower, Value.int v_isBroken]))]) [0] rfl
          have hD9 := hD.sub (ws' := [(o, Sum.inr (5, [Value.long v_lowUpper, Value.long v_lowLower, Value.long v_capUpper, Value.long v_capLower, Value.int v_isBroken]))]) [0] (by decide) rfl
          exact W.vret hx hb hr (fun t ht hW => ⟨⟨(), rfl, trivial, v_lowUpper, v_lowLower, v_capUpper, v_capLower, v_isBroken, hv_isBroken, by rw [ht]; exact hP9, hD9⟩, hS.F ht⟩) hS.2.2 dX5_need_92
        · skip
          have c139 := lc_nge c13
          have bp0 := hp0.u
          have dp0 := i64_lt c139 rfl (show (0 : Int64).toInt = 0 by decide)
          have hp0 : jv p0 (-9223372036854775808) (-1) := jv.m (by omega)
          refine lv_aload_n hx hb dX5_need_55 rfl (lv_at hl 0 rfl) ?_
          refine va_get (D := (dC, dI)) (ci := 5) (v := Value.long v_capLower) (C := RX5) (T := TX5) (N := 5) hx hb hts iw_X5_need_X5 hown hK hP 0 rfl rfl 3 (by decide) (hts _ kk_X5_need_0) (fun _ h9 => h9) rfl dX5_need_56 ?_
          refine lv_lconst (v := 0) hx hb dX5_need_59 (by decide) ?_
          refine W.lcmp hx hb dX5_need_60 ?_
          refine lv_if_eq (tgt := 80) hx hb dX5_need_61 (by decide) (fun c14 => ?_) (fun c14 => ?_)
          · skip
            have c149 := lc_eq c14
            refine lv_aload_n hx hb dX5_need_80 rfl (lv_at hl 0 rfl) ?_
            refine lv_lload_n hx hb dX5_need_81 rfl (lv_at hl 2 rfl) ?_
            refine lv_lneg hx hb dX5_need_82 ?_
            refine lv_topl (fun y15 ey15 => ?_)
            refine va_put (D := (dC, dI)) (ci := 5) (v := Value.long y15) (ty := FieldType.long) (C := RX5) (T := TX5) (N := 5) hx hb hts iw_X5_need_X5 tyX5 tyX5_ok nmX5 hown hK hP hD hS 0 rfl rfl 2 (by decide) (hts _ kk_X5_need_1) (fun _ h9 => h9) rfl (by decide +kernel) rfl rfl (Nat.le_of_ble_eq_true rfl) dX5_need_83 (fun H locs hP hD hS => ?_)
            have hP : va_P (dC, dI) vwCl [(o, Sum.inr (5, [Value.long v_lowUpper, Value.long v_lowLower, Value.long y15, Value.long v_capLower, Value.int v_isBroken]))] H := hP
            have hD : va_D A [(o, Sum.inr (5, [Value.long v_lowUpper, Value.long v_lowLower, Value.long y15, Value.long v_capLower, Value.int v_isBroken]))] := hD
            refine lv_aload_n hx hb dX5_need_86 rfl (lv_at hl 0 rfl) ?_
            refine lv_lload_n hx hb dX5_need_87 rfl (lv_at hl 1 rfl) ?_
            refine lv_lneg hx hb dX5_need_88 ?_
            refine lv_topl (fun y16 ey16 => ?_)
            refine va_put (D := (dC, dI)) (ci := 5) (v := Value.long y16) (ty := FieldType.long) (C := RX5) (T := TX5) (N := 5) hx hb hts iw_X5_need_X5 tyX5 tyX5_ok nmX5 hown hK hP hD hS 0 rfl rfl 3 (by decide) (hts _ kk_X5_need_0) (fun _ h9 => h9) rfl (by decide +kernel) rfl rfl (Nat.le_of_ble_eq_true rfl) dX5_need_89 (fun H locs hP hD hS => ?_)
            have hP : va_P (dC, dI) vwCl [(o, Sum.inr (5, [Value.long v_lowUpper, Value.long v_lowLower, Value.long y15, Value.long y16, Value.int v_isBroken]))] H := hP
            have hD : va_D A [(o, Sum.inr (5, [Value.long v_lowUpper, Value.long v_lowLower, Value.long y15, Value.long y16, Value.int v_isBroken]))] := hD
            have hP9 := hP.sub (ws' := [(o, Sum.inr (5, [Value.long v_lowUpper, Value.long v_lowLower, Value.long y15, Value.long y16, Value.int v_isBroken]))]) [0] rfl
            have hD9 := hD.sub (ws' := [(o, Sum.inr (5, [Value.long v_lowUpper, Value.long v_lowLower, Value.long y15, Value.long y16, Value.int v_isBroken]))]) [0] (by decide) rfl
            exact W.vret hx hb hr (fun t ht hW => ⟨⟨(), rfl, trivial, v_lowUpper, v_lowLower, y15, y16, v_isBroken, hv_isBroken, by rw [ht]; exact hP9, hD9⟩, hS.F ht⟩) hS.2.2 dX5_need_92
          · skip
            have c149 := lc_ne c14
            refine lv_lload_n hx hb dX5_need_64 rfl (lv_at hl 2 rfl) ?_
            refine lv_aload_n hx hb dX5_need_65 rfl (lv_at hl 0 rfl) ?_
            refine va_get (D := (dC, dI)) (ci := 5) (v := Value.long v_capLower) (C := RX5) (T := TX5) (N := 5) hx hb hts iw_X5_need_X5 hown hK hP 0 rfl rfl 3 (by decide) (hts _ kk_X5_need_0) (fun _ h9 => h9) rfl dX5_need_66 ?_
            refine lv_lmul hx hb dX5_need_69 ?_
            refine lv_topl (fun y17 ey17 => ?_)
            refine lv_aload_n hx hb dX5_need_70 rfl (lv_at hl 0 rfl) ?_
            refine va_get (D := (dC, dI)) (ci := 5) (v := Value.long v_capUpper) (C := RX5) (T := TX5) (N := 5) hx hb hts iw_X5_need_X5 hown hK hP 0 rfl rfl 2 (by decide) (hts _ kk_X5_need_1) (fun _ h9 => h9) rfl dX5_need_71 ?_
            refine lv_lload_n hx hb dX5_need_74 rfl (lv_at hl 1 rfl) ?_
            refine lv_lmul hx hb dX5_need_75 ?_
            refine lv_topl (fun y18 ey18 => ?_)
            refine W.lcmp hx hb dX5_need_76 ?_
            refine lv_if_le (tgt := 92) hx hb dX5_need_77 (by decide) (fun c19 => ?_) (fun c19 => ?_)
            · skip
              have c199 := lc_le c19
              have hP9 := hP.sub (ws' := [(o, Sum.inr (5, [Value.long v_lowUpper, Value.long v_lowLower, Value.long v_capUpper, Value.long v_capLower, Value.int v_isBroken]))]) [0] rfl
              have hD9 := hD.sub (ws' := [(o, Sum.inr (5, [Value.long v_lowUpper, Value.long v_lowLower, Value.long v_capUpper, Value.long v_capLower, Value.int v_isBroken]))]) [0] (by decide) rfl
              exact W.vret hx hb hr (fun t ht hW => ⟨⟨(), rfl, trivial, v_lowUpper, v_lowLower, v_capUpper, v_capLower, v_isBroken, hv_isBroken, by rw [ht]; exact hP9, hD9⟩, hS.F ht⟩) hS.2.2 dX5_need_92
            · skip
              have c199 := lc_nle c19
              refine lv_aload_n hx hb dX5_need_80 rfl (lv_at hl 0 rfl) ?_
              refine lv_lload_n hx hb dX5_need_81 rfl (lv_at hl 2 rfl) ?_
              refine lv_lneg hx hb dX5_need_82 ?_
              refine lv_topl (fun y20 ey20 => ?_)
              refine va_put (D := (dC, dI)) (ci := 5) (v := Value.long y20) (ty := FieldType.long) (C := RX5) (T := TX5) (N := 5) hx hb hts iw_X5_need_X5 tyX5 tyX5_ok nmX5 hown hK hP hD hS 0 rfl rfl 2 (by decide) (hts _ kk_X5_need_1) (fun _ h9 => h9) rfl (by decide +kernel) rfl rfl (Nat.le_of_ble_eq_true rfl) dX5_need_83 (fun H locs hP hD hS => ?_)
              have hP : va_P (dC, dI) vwCl [(o, Sum.inr (5, [Value.long v_lowUpper, Value.long v_lowLower, Value.long y20, Value.long v_capLower, Value.int v_isBroken]))] H := hP
              have hD : va_D A [(o, Sum.inr (5, [Value.long v_lowUpper, Value.long v_lowLower, Value.long y20, Value.long v_capLower, Value.int v_isBroken]))] := hD
              refine lv_aload_n hx hb dX5_need_86 rfl (lv_at hl 0 rfl) ?_
              refine lv_lload_n hx hb dX5_need_87 rfl (lv_at hl 1 rfl) ?_
              refine lv_lneg hx hb dX5_need_88 ?_
              refine lv_topl (fun y21 ey21 => ?_)
              refine va_put (D := (dC, dI)) (ci := 5) (v := Value.long y21) (ty := FieldType.long) (C := RX5) (T := TX5) (N := 5) hx hb hts iw_X5_need_X5 tyX5 tyX5_ok nmX5 hown hK hP hD hS 0 rfl rfl 3 (by decide) (hts _ kk_X5_need_0) (fun _ h9 => h9) rfl (by decide +kernel) rfl rfl (Nat.le_of_ble_eq_true rfl) dX5_need_89 (fun H locs hP hD hS => ?_)
              have hP : va_P (dC, dI) vwCl [(o, Sum.inr (5, [Value.long v_lowUpper, Value.long v_lowLower, Value.long y20, Value.long y21, Value.int v_isBroken]))] H := hP
              have hD : va_D A [(o, Sum.inr (5, [Value.long v_lowUpper, Value.long v_lowLower, Value.long y20, Value.long y21, Value.int v_isBroken]))] := hD
              have hP9 := hP.sub (ws' := [(o, Sum.inr (5, [Value.long v_lowUpper, Value.long v_lowLower, Value.long y20, Value.long y21, Value.int v_isBroken]))]) [0] rfl
              have hD9 := hD.sub (ws' := [(o, Sum.inr (5, [Value.long v_lowUpper, Value.long v_lowLower, Value.long y20, Value.long y21, Value.int v_isBroken]))]) [0] (by decide) rfl
              exact W.vret hx hb hr (fun t ht hW => ⟨⟨(), rfl, trivial, v_lowUpper, v_lowLower, y20, y21, v_isBroken, hv_isBroken, by rw [ht]; exact hP9, hD9⟩, hS.F ht⟩) hS.2.2 dX5_need_92
      · skip
        have c129 := lc_nle c12
        have bp1 : (-9223372036854775808 : Int) ≤ p1.toInt ∧ p1.toInt ≤ 9223372036854775807 := ⟨i64_min _, i64_max _⟩
        have dp1 := i64_lt c129 (show (0 : Int64).toInt = 0 by decide) rfl
        have hp1 : jv p1 1 9223372036854775807 := jv.m (by omega)
        refine lv_aload_n hx hb dX5_need_44 rfl (lv_at hl 0 rfl) ?_
        refine lv_iconst (v := 1) hx hb dX5_need_45 (by decide) ?_
        refine va_put (D := (dC, dI)) (ci := 5) (v := Value.int 1) (ty := FieldType.boolean) (C := RX5) (T := TX5) (N := 5) hx hb hts iw_X5_need_X5 tyX5 tyX5_ok nmX5 hown hK hP hD hS 0 rfl rfl 4 (by decide) (hts _ kk_X5_need_2) (fun _ h9 => h9) rfl (by decide +kernel) rfl rfl (Nat.le_of_ble_eq_true rfl) dX5_need_46 (fun H locs hP hD hS => ?_)
        have hP : va_P (dC, dI) vwCl [(o, Sum.inr (5, [Value.long v_lowUpper, Value.long v_lowLower, Value.long v_capUpper, Value.long v_capLower, Value.int 1]))] H := hP
        have hD : va_D A [(o, Sum.inr (5, [Value.long v_lowUpper, Value.long v_lowLower, Value.long v_capUpper, Value.long v_capLower, Value.int 1]))] := hD
        refine lv_lload_n hx hb dX5_need_49 rfl (lv_at hl 1 rfl) ?_
        refine lv_lconst (v := 0) hx hb dX5_need_50 (by decide) ?_
        refine W.lcmp hx hb dX5_need_51 ?_
        refine lv_if_ge (tgt := 92) hx hb dX5_need_52 (by decide) (fun c22 => ?_) (fun c22 => ?_)
        · skip
          have c229 := lc_ge c22
          have bp0 := hp0.u
          have dp0 := i64_le c229 (show (0 : Int64).toInt = 0 by decide) rfl
          have hp0 : jv p0 0 0 := jv.m (by omega)
          have hP9 := hP.sub (ws' := [(o, Sum.inr (5, [Value.long v_lowUpper, Value.long v_lowLower, Value.long v_capUpper, Value.long v_capLower, Value.int 1]))]) [0] rfl
          have hD9 := hD.sub (ws' := [(o, Sum.inr (5, [Value.long v_lowUpper, Value.long v_lowLower, Value.long v_capUpper, Value.long v_capLower, Value.int 1]))]) [0] (by decide) rfl
          exact W.vret hx hb hr (fun t ht hW => ⟨⟨(), rfl, trivial, v_lowUpper, v_lowLower, v_capUpper, v_capLower, 1, (iv.m (by decide)), by rw [ht]; exact hP9, hD9⟩, hS.F ht⟩) hS.2.2 dX5_need_92
        · skip
          have c229 := lc_nge c22
          have bp0 := hp0.u
          have dp0 := i64_lt c229 rfl (show (0 : Int64).toInt = 0 by decide)
          have hp0 : jv p0 (-9223372036854775808) (-1) := jv.m (by omega)
          refine lv_aload_n hx hb dX5_need_55 rfl (lv_at hl 0 rfl) ?_
          refine va_get (D := (dC, dI)) (ci := 5) (v := Value.long v_capLower) (C := RX5) (T := TX5) (N := 5) hx hb hts iw_X5_need_X5 hown hK hP 0 rfl rfl 3 (by decide) (hts _ kk_X5_need_0) (fun _ h9 => h9) rfl dX5_need_56 ?_
          refine lv_lconst (v := 0) hx hb dX5_need_59 (by decide) ?_
          refine W.lcmp hx hb dX5_need_60 ?_
          refine lv_if_eq (tgt := 80) hx hb dX5_need_61 (by decide) (fun c23 => ?_) (fun c23 => ?_)
          · skip
            have c239 := lc_eq c23
            refine lv_aload_n hx hb dX5_need_80 rfl (lv_at hl 0 rfl) ?_
            refine lv_lload_n hx hb dX5_need_81 rfl (lv_at hl 2 rfl) ?_
            refine lv_lneg hx hb dX5_need_82 ?_
            refine lv_topl (fun y24 ey24 => ?_)
            have hy24 : jv y24 (-9223372036854775807) (-1) := jv.neg ey24 hp1 (by decide) (by decide) (by decide) (by decide)
            refine va_put (D := (dC, dI)) (ci := 5) (v := Value.long y24) (ty := FieldType.long) (C := RX5) (T := TX5) (N := 5) hx hb hts iw_X5_need_X5 tyX5 tyX5_ok nmX5 hown hK hP hD hS 0 rfl rfl 2 (by decide) (hts _ kk_X5_need_1) (fun _ h9 => h9) rfl (by decide +kernel) rfl rfl (Nat.le_of_ble_eq_true rfl) dX5_need_83 (fun H locs hP hD hS => ?_)
            have hP : va_P (dC, dI) vwCl [(o, Sum.inr (5, [Value.long v_lowUpper, Value.long v_lowLower, Value.long y24, Value.long v_capLower, Value.int 1]))] H := hP
            have hD : va_D A [(o, Sum.inr (5, [Value.long v_lowUpper, Value.long v_lowLower, Value.long y24, Value.long v_capLower, Value.int 1]))] := hD
            refine lv_aload_n hx hb dX5_need_86 rfl (lv_at hl 0 rfl) ?_
            refine lv_lload_n hx hb dX5_need_87 rfl (lv_at hl 1 rfl) ?_
            refine lv_lneg hx hb dX5_need_88 ?_
            refine lv_topl (fun y25 ey25 => ?_)
            refine va_put (D := (dC, dI)) (ci := 5) (v := Value.long y25) (ty := FieldType.long) (C := RX5) (T := TX5) (N := 5) hx hb hts iw_X5_need_X5 tyX5 tyX5_ok nmX5 hown hK hP hD hS 0 rfl rfl 3 (by decide) (hts _ kk_X5_need_0) (fun _ h9 => h9) rfl (by decide +kernel) rfl rfl (Nat.le_of_ble_eq_true rfl) dX5_need_89 (fun H locs hP hD hS => ?_)
            have hP : va_P (dC, dI) vwCl [(o, Sum.inr (5, [Value.long v_lowUpper, Value.long v_lowLower, Value.long y24, Value.long y25, Value.int 1]))] H := hP
            have hD : va_D A [(o, Sum.inr (5, [Value.long v_lowUpper, Value.long v_lowLower, Value.long y24, Value.long y25, Value.int 1]))] := hD
            have hP9 := hP.sub (ws' := [(o, Sum.inr (5, [Value.long v_lowUpper, Value.long v_lowLower, Value.long y24, Value.long y25, Value.int 1]))]) [0] rfl
            have hD9 := hD.sub (ws' := [(o, Sum.inr (5, [Value.long v_lowUpper, Value.long v_lowLower, Value.long y24, Value.long y25, Value.int 1]))]) [0] (by decide) rfl
            exact W.vret hx hb hr (fun t ht hW => ⟨⟨(), rfl, trivial, v_lowUpper, v_lowLower, y24, y25, 1, (iv.m (by decide)), by rw [ht]; exact hP9, hD9⟩, hS.F ht⟩) hS.2.2 dX5_need_92
          · skip
            have c239 := lc_ne c23
            refine lv_lload_n hx hb dX5_need_64 rfl (lv_at hl 2 rfl) ?_
            refine lv_aload_n hx hb dX5_need_65 rfl (lv_at hl 0 rfl) ?_
            refine va_get (D := (dC, dI)) (ci := 5) (v := Value.long v_capLower) (C := RX5) (T := TX5) (N := 5) hx hb hts iw_X5_need_X5 hown hK hP 0 rfl rfl 3 (by decide) (hts _ kk_X5_need_0) (fun _ h9 => h9) rfl dX5_need_66 ?_
            refine lv_lmul hx hb dX5_need_69 ?_
            refine lv_topl (fun y26 ey26 => ?_)
            refine lv_aload_n hx hb dX5_need_70 rfl (lv_at hl 0 rfl) ?_
            refine va_get (D := (dC, dI)) (ci := 5) (v := Value.long v_capUpper) (C := RX5) (T := TX5) (N := 5) hx hb hts iw_X5_need_X5 hown hK hP 0 rfl rfl 2 (by decide) (hts _ kk_X5_need_1) (fun _ h9 => h9) rfl dX5_need_71 ?_
            refine lv_lload_n hx hb dX5_need_74 rfl (lv_at hl 1 rfl) ?_
            refine lv_lmul hx hb dX5_need_75 ?_
            refine lv_topl (fun y27 ey27 => ?_)
            refine W.lcmp hx hb dX5_need_76 ?_
            refine lv_if_le (tgt := 92) hx hb dX5_need_77 (by decide) (fun c28 => ?_) (fun c28 => ?_)
            · skip
              have c289 := lc_le c28
              have hP9 := hP.sub (ws' := [(o, Sum.inr (5, [Value.long v_lowUpper, Value.long v_lowLower, Value.long v_capUpper, Value.long v_capLower, Value.int 1]))]) [0] rfl
              have hD9 := hD.sub (ws' := [(o, Sum.inr (5, [Value.long v_lowUpper, Value.long v_lowLower, Value.long v_capUpper, Value.long v_capLower, Value.int 1]))]) [0] (by decide) rfl
              exact W.vret hx hb hr (fun t ht hW => ⟨⟨(), rfl, trivial, v_lowUpper, v_lowLower, v_capUpper, v_capLower, 1, (iv.m (by decide)), by rw [ht]; exact hP9, hD9⟩, hS.F ht⟩) hS.2.2 dX5_need_92
            · skip
              have c289 := lc_nle c28
              refine lv_aload_n hx hb dX5_need_80 rfl (lv_at hl 0 rfl) ?_
              refine lv_lload_n hx hb dX5_need_81 rfl (lv_at hl 2 rfl) ?_
              refine lv_lneg hx hb dX5_need_82 ?_
              refine lv_topl (fun y29 ey29 => ?_)
              have hy29 : jv y29 (-9223372036854775807) (-1) := jv.neg ey29 hp1 (by decide) (by decide) (by decide) (by decide)
              refine va_put (D := (dC, dI)) (ci := 5) (v := Value.long y29) (ty := FieldType.long) (C := RX5) (T := TX5) (N := 5) hx hb hts iw_X5_need_X5 tyX5 tyX5_ok nmX5 hown hK hP hD hS 0 rfl rfl 2 (by decide) (hts _ kk_X5_need_1) (fun _ h9 => h9) rfl (by decide +kernel) rfl rfl (Nat.le_of_ble_eq_true rfl) dX5_need_83 (fun H locs hP hD hS => ?_)
              have hP : va_P (dC, dI) vwCl [(o, Sum.inr (5, [Value.long v_lowUpper, Value.long v_lowLower, Value.long y29, Value.long v_capLower, Value.int 1]))] H := hP
              have hD : va_D A [(o, Sum.inr (5, [Value.long v_lowUpper, Value.long v_lowLower, Value.long y29, Value.long v_capLower, Value.int 1]))] := hD
              refine lv_aload_n hx hb dX5_need_86 rfl (lv_at hl 0 rfl) ?_
              refine lv_lload_n hx hb dX5_need_87 rfl (lv_at hl 1 rfl) ?_
              refine lv_lneg hx hb dX5_need_88 ?_
              refine lv_topl (fun y30 ey30 => ?_)
              refine va_put (D := (dC, dI)) (ci := 5) (v := Value.long y30) (ty := FieldType.long) (C := RX5) (T := TX5) (N := 5) hx hb hts iw_X5_need_X5 tyX5 tyX5_ok nmX5 hown hK hP hD hS 0 rfl rfl 3 (by decide) (hts _ kk_X5_need_0) (fun _ h9 => h9) rfl (by decide +kernel) rfl rfl (Nat.le_of_ble_eq_true rfl) dX5_need_89 (fun H locs hP hD hS => ?_)
              have hP : va_P (dC, dI) vwCl [(o, Sum.inr (5, [Value.long v_lowUpper, Value.long v_lowLower, Value.long y29, Value.long y30, Value.int 1]))] H := hP
              have hD : va_D A [(o, Sum.inr (5, [Value.long v_lowUpper, Value.long v_lowLower, Value.long y29, Value.long y30, Value.int 1]))] := hD
              have hP9 := hP.sub (ws' := [(o, Sum.inr (5, [Value.long v_lowUpper, Value.long v_lowLower, Value.long y29, Value.long y30, Value.int 1]))]) [0] rfl
              have hD9 := hD.sub (ws' := [(o, Sum.inr (5, [Value.long v_lowUpper, Value.long v_lowLower, Value.long y29, Value.long y30, Value.int 1]))]) [0] (by decide) rfl
              exact W.vret hx hb hr (fun t ht hW => ⟨⟨(), rfl, trivial, v_lowUpper, v_lowLower, y29, y30, 1, (iv.m (by decide)), by rw [ht]; exact hP9, hD9⟩, hS.F ht⟩) hS.2.2 dX5_need_92
  · skip
    have c19 := lc_nle c1
    have bp0 : (-9223372036854775808 : Int) ≤ p0.toInt ∧ p0.toInt ≤ 9223372036854775807 := ⟨i64_min _, i64_max _⟩
    have dp0 := i64_lt c19 (show (0 : Int64).toInt = 0 by decide) rfl
    have hp0 : jv p0 1 9223372036854775807 := jv.m (by omega)
    refine lv_lload_n hx hb dX5_need_6 rfl (lv_at hl 2 rfl) ?_
    refine lv_aload_n hx hb dX5_need_7 rfl (lv_at hl 0 rfl) ?_
    refine va_get (D := (dC, dI)) (ci := 5) (v := Value.long v_lowLower) (C := RX5) (T := TX5) (N := 5) hx hb hts iw_X5_need_X5 hown hK hP 0 rfl rfl 1 (by decide) (hts _ kk_X5_need_3) (fun _ h9 => h9) rfl dX5_need_8 ?_
    refine lv_lmul hx hb dX5_need_11 ?_
    refine lv_topl (fun y31 ey31 => ?_)
    refine lv_aload_n hx hb dX5_need_12 rfl (lv_at hl 0 rfl) ?_
    refine va_get (D := (dC, dI)) (ci := 5) (v := Value.long v_lowUpper) (C := RX5) (T := TX5) (N := 5) hx hb hts iw_X5_need_X5 hown hK hP 0 rfl rfl 0 (by decide) (hts _ kk_X5_need_4) (fun _ h9 => h9) rfl dX5_need_13 ?_
    refine lv_lload_n hx hb dX5_need_16 rfl (lv_at hl 1 rfl) ?_
    refine lv_lmul hx hb dX5_need_17 ?_
    refine lv_topl (fun y32 ey32 => ?_)
    refine W.lcmp hx hb dX5_need_18 ?_
    refine lv_if_le (tgt := 32) hx hb dX5_need_19 (by decide) (fun c33 => ?_) (fun c33 => ?_)
    · skip
      have c339 := lc_le c33
      refine lv_lload_n hx hb dX5_need_32 rfl (lv_at hl 1 rfl) ?_
      refine lv_lconst (v := 0) hx hb dX5_need_33 (by decide) ?_
      refine W.lcmp hx hb dX5_need_34 ?_
      refine lv_if_ne (tgt := 49) hx hb dX5_need_35 (by decide) (fun c34 => ?_) (fun c34 => ?_)
      · skip
        have c349 := lc_ne c34
        refine lv_lload_n hx hb dX5_need_49 rfl (lv_at hl 1 rfl) ?_
        refine lv_lconst (v := 0) hx hb dX5_need_50 (by decide) ?_
        refine W.lcmp hx hb dX5_need_51 ?_
        refine lv_if_ge (tgt := 92) hx hb dX5_need_52 (by decide) (fun c35 => ?_) (fun c35 => ?_)
        · skip
          have c359 := lc_ge c35
          have hP9 := hP.sub (ws' := [(o, Sum.inr (5, [Value.long v_lowUpper, Value.long v_lowLower, Value.long v_capUpper, Value.long v_capLower, Value.int v_isBroken]))]) [0] rfl
          have hD9 := hD.sub (ws' := [(o, Sum.inr (5, [Value.long v_lowUpper, Value.long v_lowLower, Value.long v_capUpper, Value.long v_capLower, Value.int v_isBroken]))]) [0] (by decide) rfl
          exact W.vret hx hb hr (fun t ht hW => ⟨⟨(), rfl, trivial, v_lowUpper, v_lowLower, v_capUpper, v_capLower, v_isBroken, hv_isBroken, by rw [ht]; exact hP9, hD9⟩, hS.F ht⟩) hS.2.2 dX5_need_92
        · skip
          have c359 := lc_nge c35
          have bp0 := hp0.u
          have dp0 := i64_lt c359 rfl (show (0 : Int64).toInt = 0 by decide)
          have hp0 : jv p0 1 (-1) := jv.m (by omega)
          refine lv_aload_n hx hb dX5_need_55 rfl (lv_at hl 0 rfl) ?_
          refine va_get (D := (dC, dI)) (ci := 5) (v := Value.long v_capLower) (C := RX5) (T := TX5) (N := 5) hx hb hts iw_X5_need_X5 hown hK hP 0 rfl rfl 3 (by decide) (hts _ kk_X5_need_0) (fun _ h9 => h9) rfl dX5_need_56 ?_
          refine lv_lconst (v := 0) hx hb dX5_need_59 (by decide) ?_
          refine W.lcmp hx hb dX5_need_60 ?_
          refine lv_if_eq (tgt := 80) hx hb dX5_need_61 (by decide) (fun c36 => ?_) (fun c36 => ?_)
          · skip
            have c369 := lc_eq c36
            refine lv_aload_n hx hb dX5_need_80 rfl (lv_at hl 0 rfl) ?_
            refine lv_lload_n hx hb dX5_need_81 rfl (lv_at hl 2 rfl) ?_
            refine lv_lneg hx hb dX5_need_82 ?_
            refine lv_topl (fun y37 ey37 => ?_)
            refine va_put (D := (dC, dI)) (ci := 5) (v := Value.long y37) (ty := FieldType.long) (C := RX5) (T := TX5) (N := 5) hx hb hts iw_X5_need_X5 tyX5 tyX5_ok nmX5 hown hK hP hD hS 0 rfl rfl 2 (by decide) (hts _ kk_X5_need_1) (fun _ h9 => h9) rfl (by decide +kernel) rfl rfl (Nat.le_of_ble_eq_true rfl) dX5_need_83 (fun H locs hP hD hS => ?_)
            have hP : va_P (dC, dI) vwCl [(o, Sum.inr (5, [Value.long v_lowUpper, Value.long v_lowLower, Value.long y37, Value.long v_capLower, Value.int v_isBroken]))] H := hP
            have hD : va_D A [(o, Sum.inr (5, [Value.long v_lowUpper, Value.long v_lowLower, Value.long y37, Value.long v_capLower, Value.int v_isBroken]))] := hD
            refine lv_aload_n hx hb dX5_need_86 rfl (lv_at hl 0 rfl) ?_
            refine lv_lload_n hx hb dX5_need_87 rfl (lv_at hl 1 rfl) ?_
            refine lv_lneg hx hb dX5_need_88 ?_
            refine lv_topl (fun y38 ey38 => ?_)
            have hy38 : jv y38 1 (-1) := jv.neg ey38 hp0 (by decide) (by decide) (by decide) (by decide)
            refine va_put (D := (dC, dI)) (ci := 5) (v := Value.long y38) (ty := FieldType.long) (C := RX5) (T := TX5) (N := 5) hx hb hts iw_X5_need_X5 tyX5 tyX5_ok nmX5 hown hK hP hD hS 0 rfl rfl 3 (by decide) (hts _ kk_X5_need_0) (fun _ h9 => h9) rfl (by decide +kernel) rfl rfl (Nat.le_of_ble_eq_true rfl) dX5_need_89 (fun H locs hP hD hS => ?_)
            have hP : va_P (dC, dI) vwCl [(o, Sum.inr (5, [Value.long v_lowUpper, Value.long v_lowLower, Value.long y37, Value.long y38, Value.int v_isBroken]))] H := hP
            have hD : va_D A [(o, Sum.inr (5, [Value.long v_lowUpper, Value.long v_lowLower, Value.long y37, Value.long y38, Value.int v_isBroken]))] := hD
            have hP9 := hP.sub (ws' := [(o, Sum.inr (5, [Value.long v_lowUpper, Value.long v_lowLower, Value.long y37, Value.long y38, Value.int v_isBroken]))]) [0] rfl
            have hD9 := hD.sub (ws' := [(o, Sum.inr (5, [Value.long v_lowUpper, Value.long v_lowLower, Value.long y37, Value.long y38, Value.int v_isBroken]))]) [0] (by decide) rfl
            exact W.vret hx hb hr (fun t ht hW => ⟨⟨(), rfl, trivial, v_lowUpper, v_lowLower, y37, y38, v_isBroken, hv_isBroken, by rw [ht]; exact hP9, hD9⟩, hS.F ht⟩) hS.2.2 dX5_need_92
          · skip
            have c369 := lc_ne c36
            refine lv_lload_n hx hb dX5_need_64 rfl (lv_at hl 2 rfl) ?_
            refine lv_aload_n hx hb dX5_need_65 rfl (lv_at hl 0 rfl) ?_
            refine va_get (D := (dC, dI)) (ci := 5) (v := Value.long v_capLower) (C := RX5) (T := TX5) (N := 5) hx hb hts iw_X5_need_X5 hown hK hP 0 rfl rfl 3 (by decide) (hts _ kk_X5_need_0) (fun _ h9 => h9) rfl dX5_need_66 ?_
            refine lv_lmul hx hb dX5_need_69 ?_
            refine lv_topl (fun y39 ey39 => ?_)
            refine lv_aload_n hx hb dX5_need_70 rfl (lv_at hl 0 rfl) ?_
            refine va_get (D := (dC, dI)) (ci := 5) (v := Value.long v_capUpper) (C := RX5) (T := TX5) (N := 5) hx hb hts iw_X5_need_X5 hown hK hP 0 rfl rfl 2 (by decide) (hts _ kk_X5_need_1) (fun _ h9 => h9) rfl dX5_need_71 ?_
            refine lv_lload_n hx hb dX5_need_74 rfl (lv_at hl 1 rfl) ?_
            refine lv_lmul hx hb dX5_need_75 ?_
            refine lv_topl (fun y40 ey40 => ?_)
            refine W.lcmp hx hb dX5_need_76 ?_
            refine lv_if_le (tgt := 92) hx hb dX5_need_77 (by decide) (fun c41 => ?_) (fun c41 => ?_)
            · skip
              have c419 := lc_le c41
              have hP9 := hP.sub (ws' := [(o, Sum.inr (5, [Value.long v_lowUpper, Value.long v_lowLower, Value.long v_capUpper, Value.long v_capLower, Value.int v_isBroken]))]) [0] rfl
              have hD9 := hD.sub (ws' := [(o, Sum.inr (5, [Value.long v_lowUpper, Value.long v_lowLower, Value.long v_capUpper, Value.long v_capLower, Value.int v_isBroken]))]) [0] (by decide) rfl
              exact W.vret hx hb hr (fun t ht hW => ⟨⟨(), rfl, trivial, v_lowUpper, v_lowLower, v_capUpper, v_capLower, v_isBroken, hv_isBroken, by rw [ht]; exact hP9, hD9⟩, hS.F ht⟩) hS.2.2 dX5_need_92
            · skip
              have c419 := lc_nle c41
              refine lv_aload_n hx hb dX5_need_80 rfl (lv_at hl 0 rfl) ?_
              refine lv_lload_n hx hb dX5_need_81 rfl (lv_at hl 2 rfl) ?_
              refine lv_lneg hx hb dX5_need_82 ?_
              refine lv_topl (fun y42 ey42 => ?_)
              refine va_put (D := (dC, dI)) (ci := 5) (v := Value.long y42) (ty := FieldType.long) (C := RX5) (T := TX5) (N := 5) hx hb hts iw_X5_need_X5 tyX5 tyX5_ok nmX5 hown hK hP hD hS 0 rfl rfl 2 (by decide) (hts _ kk_X5_need_1) (fun _ h9 => h9) rfl (by decide +kernel) rfl rfl (Nat.le_of_ble_eq_true rfl) dX5_need_83 (fun H locs hP hD hS => ?_)
              have hP : va_P (dC, dI) vwCl [(o, Sum.inr (5, [Value.long v_lowUpper, Value.long v_lowLower, Value.long y42, Value.long v_capLower, Value.int v_isBroken]))] H := hP
              have hD : va_D A [(o, Sum.inr (5, [Value.long v_lowUpper, Value.long v_lowLower, Value.long y42, Value.long v_capLower, Value.int v_isBroken]))] := hD
              refine lv_aload_n hx hb dX5_need_86 rfl (lv_at hl 0 rfl) ?_
              refine lv_lload_n hx hb dX5_need_87 rfl (lv_at hl 1 rfl) ?_
              refine lv_lneg hx hb dX5_need_88 ?_
              refine lv_topl (fun y43 ey43 => ?_)
              have hy43 : jv y43 1 (-1) := jv.neg ey43 hp0 (by decide) (by decide) (by decide) (by decide)
              refine va_put (D := (dC, dI)) (ci := 5) (v := Value.long y43) (ty := FieldType.long) (C := RX5) (T := TX5) (N := 5) hx hb hts iw_X5_need_X5 tyX5 tyX5_ok nmX5 hown hK hP hD hS 0 rfl rfl 3 (by decide) (hts _ kk_X5_need_0) (fun _ h9 => h9) rfl (by decide +kernel) rfl rfl (Nat.le_of_ble_eq_true rfl) dX5_need_89 (fun H locs hP hD hS => ?_)
              have hP : va_P (dC, dI) vwCl [(o, Sum.inr (5, [Value.long v_lowUpper, Value.long v_lowLower, Value.long y42, Value.long y43, Value.int v_isBroken]))] H := hP
              have hD : va_D A [(o, Sum.inr (5, [Value.long v_lowUpper, Value.long v_lowLower, Value.long y42, Value.long y43, Value.int v_isBroken]))] := hD
              have hP9 := hP.sub (ws' := [(o, Sum.inr (5, [Value.long v_lowUpper, Value.long v_lowLower, Value.long y42, Value.long y43, Value.int v_isBroken]))]) [0] rfl
              have hD9 := hD.sub (ws' := [(o, Sum.inr (5, [Value.long v_lowUpper, Value.long v_lowLower, Value.long y42, Value.long y43, Value.int v_isBroken]))]) [0] (by decide) rfl
              exact W.vret hx hb hr (fun t ht hW => ⟨⟨(), rfl, trivial, v_lowUpper, v_lowLower, y42, y43, v_isBroken, hv_isBroken, by rw [ht]; exact hP9, hD9⟩, hS.F ht⟩) hS.2.2 dX5_need_92
      · skip
        have c349 := lc_eq c34
        refine lv_lload_n hx hb dX5_need_38 rfl (lv_at hl 2 rfl) ?_
        refine lv_lconst (v := 0) hx hb dX5_need_39 (by decide) ?_
        refine W.lcmp hx hb dX5_need_40 ?_
        refine lv_if_le (tgt := 49) hx hb dX5_need_41 (by decide) (fun c44 => ?_) (fun c44 => ?_)
        · skip
          have c449 := lc_le c44
          have bp1 : (-9223372036854775808 : Int) ≤ p1.toInt ∧ p1.toInt ≤ 9223372036854775807 := ⟨i64_min _, i64_max _⟩
          have dp1 := i64_le c449 rfl (show (0 : Int64).toInt = 0 by decide)
          have hp1 : jv p1 (-9223372036854775808) 0 := jv.m (by omega)
          refine lv_lload_n hx hb dX5_need_49 rfl (lv_at hl 1 rfl) ?_
          refine lv_lconst (v := 0) hx hb dX5_need_50 (by decide) ?_
          refine W.lcmp hx hb dX5_need_51 ?_
          refine lv_if_ge (tgt := 92) hx hb dX5_need_52 (by decide) (fun c45 => ?_) (fun c45 => ?_)
          · skip
            have c459 := lc_ge c45
            have hP9 := hP.sub (ws' := [(o, Sum.inr (5, [Value.long v_lowUpper, Value.long v_lowLower, Value.long v_capUpper, Value.long v_capLower, Value.int v_isBroken]))]) [0] rfl
            have hD9 := hD.sub (ws' := [(o, Sum.inr (5, [Value.long v_lowUpper, Value.long v_lowLower, Value.long v_capUpper, Value.long v_capLower, Value.int v_isBroken]))]) [0] (by decide) rfl
            exact W.vret hx hb hr (fun t ht hW => ⟨⟨(), rfl, trivial, v_lowUpper, v_lowLower, v_capUpper, v_capLower, v_isBroken, hv_isBroken, by rw [ht]; exact hP9, hD9⟩, hS.F ht⟩) hS.2.2 dX5_need_92
          · skip
            have c459 := lc_nge c45
            have bp0 := hp0.u
            have dp0 := i64_lt c459 rfl (show (0 : Int64).toInt = 0 by decide)
            have hp0 : jv p0 1 (-1) := jv.m (by omega)
            refine lv_aload_n hx hb dX5_need_55 rfl (lv_at hl 0 rfl) ?_
            refine va_get (D := (dC, dI)) (ci := 5) (v := Value.long v_capLower) (C := RX5) (T := TX5) (N := 5) hx hb hts iw_X5_need_X5 hown hK hP 0 rfl rfl 3 (by decide) (hts _ kk_X5_need_0) (fun _ h9 => h9) rfl dX5_need_56 ?_
            refine lv_lconst (v := 0) hx hb dX5_need_59 (by decide) ?_
            refine W.lcmp hx hb dX5_need_60 ?_
            refine lv_if_eq (tgt := 80) hx hb dX5_need_61 (by decide) (fun c46 => ?_) (fun c46 => ?_)
            · skip
              have c469 := lc_eq c46
              refine lv_aload_n hx hb dX5_need_80 rfl (lv_at hl 0 rfl) ?_
              refine lv_lload_n hx hb dX5_need_81 rfl (lv_at hl 2 rfl) ?_
              refine lv_lneg hx hb dX5_need_82 ?_
              refine lv_topl (fun y47 ey47 => ?_)
              refine va_put (D := (dC, dI)) (ci := 5) (v := Value.long y47) (ty := FieldType.long) (C := RX5) (T := TX5) (N := 5) hx hb hts iw_X5_need_X5 tyX5 tyX5_ok nmX5 hown hK hP hD hS 0 rfl rfl 2 (by decide) (hts _ kk_X5_need_1) (fun _ h9 => h9) rfl (by decide +kernel) rfl rfl (Nat.le_of_ble_eq_true rfl) dX5_need_83 (fun H locs hP hD hS => ?_)
              have hP : va_P (dC, dI) vwCl [(o, Sum.inr (5, [Value.long v_lowUpper, Value.long v_lowLower, Value.long y47, Value.long v_capLower, Value.int v_isBroken]))] H := hP
              have hD : va_D A [(o, Sum.inr (5, [Value.long v_lowUpper, Value.long v_lowLower, Value.long y47, Value.long v_capLower, Value.int v_isBroken]))] := hD
              refine lv_aload_n hx hb dX5_need_86 rfl (lv_at hl 0 rfl) ?_
              refine lv_lload_n hx hb dX5_need_87 rfl (lv_at hl 1 rfl) ?_
              refine lv_lneg hx hb dX5_need_88 ?_
              refine lv_topl (fun y48 ey48 => ?_)
              have hy48 : jv y48 1 (-1) := jv.neg ey48 hp0 (by decide) (by decide) (by decide) (by decide)
              refine va_put (D := (dC, dI)) (ci := 5) (v := Value.long y48) (ty := FieldType.long) (C := RX5) (T := TX5) (N := 5) hx hb hts iw_X5_need_X5 tyX5 tyX5_ok nmX5 hown hK hP hD hS 0 rfl rfl 3 (by decide) (hts _ kk_X5_need_0) (fun _ h9 => h9) rfl (by decide +kernel) rfl rfl (Nat.le_of_ble_eq_true rfl) dX5_need_89 (fun H locs hP hD hS => ?_)
              have hP : va_P (dC, dI) vwCl [(o, Sum.inr (5, [Value.long v_lowUpper, Value.long v_lowLower, Value.long y47, Value.long y48, Value.int v_isBroken]))] H := hP
              have hD : va_D A [(o, Sum.inr (5, [Value.long v_lowUpper, Value.long v_lowLower, Value.long y47, Value.long y48, Value.int v_isBroken]))] := hD
              have hP9 := hP.sub (ws' := [(o, Sum.inr (5, [Value.long v_lowUpper, Value.long v_lowLower, Value.long y47, Value.long y48, Value.int v_isBroken]))]) [0] rfl
              have hD9 := hD.sub (ws' := [(o, Sum.inr (5, [Value.long v_lowUpper, Value.long v_lowLower, Value.long y47, Value.long y48, Value.int v_isBroken]))]) [0] (by decide) rfl
              exact W.vret hx hb hr (fun t ht hW => ⟨⟨(), rfl, trivial, v_lowUpper, v_lowLower, y47, y48, v_isBroken, hv_isBroken, by rw [ht]; exact hP9, hD9⟩, hS.F ht⟩) hS.2.2 dX5_need_92
            · skip
              have c469 := lc_ne c46
              refine lv_lload_n hx hb dX5_need_64 rfl (lv_at hl 2 rfl) ?_
              refine lv_aload_n hx hb dX5_need_65 rfl (lv_at hl 0 rfl) ?_
              refine va_get (D := (dC, dI)) (ci := 5) (v := Value.long v_capLower) (C := RX5) (T := TX5) (N := 5) hx hb hts iw_X5_need_X5 hown hK hP 0 rfl rfl 3 (by decide) (hts _ kk_X5_need_0) (fun _ h9 => h9) rfl dX5_need_66 ?_
              refine lv_lmul hx hb dX5_need_69 ?_
              refine lv_topl (fun y49 ey49 => ?_)
              refine lv_aload_n hx hb dX5_need_70 rfl (lv_at hl 0 rfl) ?_
              refine va_get (D := (dC, dI)) (ci := 5) (v := Value.long v_capUpper) (C := RX5) (T := TX5) (N := 5) hx hb hts iw_X5_need_X5 hown hK hP 0 rfl rfl 2 (by decide) (hts _ kk_X5_need_1) (fun _ h9 => h9) rfl dX5_need_71 ?_
              refine lv_lload_n hx hb dX5_need_74 rfl (lv_at hl 1 rfl) ?_
              refine lv_lmul hx hb dX5_need_75 ?_
              refine lv_topl (fun y50 ey50 => ?_)
              refine W.lcmp hx hb dX5_need_76 ?_
              refine lv_if_le (tgt := 92) hx hb dX5_need_77 (by decide) (fun c51 => ?_) (fun c51 => ?_)
              · skip
                have c519 := lc_le c51
                have hP9 := hP.sub (ws' := [(o, Sum.inr (5, [Value.long v_lowUpper, Value.long v_lowLower, Value.long v_capUpper, Value.long v_capLower, Value.int v_isBroken]))]) [0] rfl
                have hD9 := hD.sub (ws' := [(o, Sum.inr (5, [Value.long v_lowUpper, Value.long v_lowLower, Value.long v_capUpper, Value.long v_capLower, Value.int v_isBroken]))]) [0] (by decide) rfl
                exact W.vret hx hb hr (fun t ht hW => ⟨⟨(), rfl, trivial, v_lowUpper, v_lowLower, v_capUpper, v_capLower, v_isBroken, hv_isBroken, by rw [ht]; exact hP9, hD9⟩, hS.F ht⟩) hS.2.2 dX5_need_92
              · skip
                have c519 := lc_nle c51
                refine lv_aload_n hx hb dX5_need_80 rfl (lv_at hl 0 rfl) ?_
                refine lv_lload_n hx hb dX5_need_81 rfl (lv_at hl 2 rfl) ?_
                refine lv_lneg hx hb dX5_need_82 ?_
                refine lv_topl (fun y52 ey52 => ?_)
                refine va_put (D := (dC, dI)) (ci := 5) (v := Value.long y52) (ty := FieldType.long) (C := RX5) (T := TX5) (N := 5) hx hb hts iw_X5_need_X5 tyX5 tyX5_ok nmX5 hown hK hP hD hS 0 rfl rfl 2 (by decide) (hts _ kk_X5_need_1) (fun _ h9 => h9) rfl (by decide +kernel) rfl rfl (Nat.le_of_ble_eq_true rfl) dX5_need_83 (fun H locs hP hD hS => ?_)
                have hP : va_P (dC, dI) vwCl [(o, Sum.inr (5, [Value.long v_lowUpper, Value.long v_lowLower, Value.long y52, Value.long v_capLower, Value.int v_isBroken]))] H := hP
                have hD : va_D A [(o, Sum.inr (5, [Value.long v_lowUpper, Value.long v_lowLower, Value.long y52, Value.long v_capLower, Value.int v_isBroken]))] := hD
                refine lv_aload_n hx hb dX5_need_86 rfl (lv_at hl 0 rfl) ?_
                refine lv_lload_n hx hb dX5_need_87 rfl (lv_at hl 1 rfl) ?_
                refine lv_lneg hx hb dX5_need_88 ?_
                refine lv_topl (fun y53 ey53 => ?_)
                have hy53 : jv y53 1 (-1) := jv.neg ey53 hp0 (by decide) (by decide) (by decide) (by decide)
                refine va_put (D := (dC, dI)) (ci := 5) (v := Value.long y53) (ty := FieldType.long) (C := RX5) (T := TX5) (N := 5) hx hb hts iw_X5_need_X5 tyX5 tyX5_ok nmX5 hown hK hP hD hS 0 rfl rfl 3 (by decide) (hts _ kk_X5_need_0) (fun _ h9 => h9) rfl (by decide +kernel) rfl rfl (Nat.le_of_ble_eq_true rfl) dX5_need_89 (fun H locs hP hD hS => ?_)
                have hP : va_P (dC, dI) vwCl [(o, Sum.inr (5, [Value.long v_lowUpper, Value.long v_lowLower, Value.long y52, Value.long y53, Value.int v_isBroken]))] H := hP
                have hD : va_D A [(o, Sum.inr (5, [Value.long v_lowUpper, Value.long v_lowLower, Value.long y52, Value.long y53, Value.int v_isBroken]))] := hD
                have hP9 := hP.sub (ws' := [(o, Sum.inr (5, [Value.long v_lowUpper, Value.long v_lowLower, Value.long y52, Value.long y53, Value.int v_isBroken]))]) [0] rfl
                have hD9 := hD.sub (ws' := [(o, Sum.inr (5, [Value.long v_lowUpper, Value.long v_lowLower, Value.long y52, Value.long y53, Value.int v_isBroken]))]) [0] (by decide) rfl
                exact W.vret hx hb hr (fun t ht hW => ⟨⟨(), rfl, trivial, v_lowUpper, v_lowLower, y52, y53, v_isBroken, hv_isBroken, by rw [ht]; exact hP9, hD9⟩, hS.F ht⟩) hS.2.2 dX5_need_92
        · skip
          have c449 := lc_nle c44
          have bp1 : (-9223372036854775808 : Int) ≤ p1.toInt ∧ p1.toInt ≤ 9223372036854775807 := ⟨i64_min _, i64_max _⟩
          have dp1 := i64_lt c449 (show (0 : Int64).toInt = 0 by decide) rfl
          have hp1 : jv p1 1 9223372036854775807 := jv.m (by omega)
          refine lv_aload_n hx hb dX5_need_44 rfl (lv_at hl 0 rfl) ?_
          refine lv_iconst (v := 1) hx hb dX5_need_45 (by decide) ?_
          refine va_put (D := (dC, dI)) (ci := 5) (v := Value.int 1) (ty := FieldType.boolean) (C := RX5) (T := TX5) (N := 5) hx hb hts iw_X5_need_X5 tyX5 tyX5_ok nmX5 hown hK hP hD hS 0 rfl rfl 4 (by decide) (hts _ kk_X5_need_2) (fun _ h9 => h9) rfl (by decide +kernel) rfl rfl (Nat.le_of_ble_eq_true rfl) dX5_need_46 (fun H locs hP hD hS => ?_)
          have hP : va_P (dC, dI) vwCl [(o, Sum.inr (5, [Value.long v_lowUpper, Value.long v_lowLower, Value.long v_capUpper, Value.long v_capLower, Value.int 1]))] H := hP
          have hD : va_D A [(o, Sum.inr (5, [Value.long v_lowUpper, Value.long v_lowLower, Value.long v_capUpper, Value.long v_capLower, Value.int 1]))] := hD
          refine lv_lload_n hx hb dX5_need_49 rfl (lv_at hl 1 rfl) ?_
          refine lv_lconst (v := 0) hx hb dX5_need_50 (by decide) ?_
          refine W.lcmp hx hb dX5_need_51 ?_
          refine lv_if_ge (tgt := 92) hx hb dX5_need_52 (by decide) (fun c54 => ?_) (fun c54 => ?_)
          · skip
            have c549 := lc_ge c54
            have hP9 := hP.sub (ws' := [(o, Sum.inr (5, [Value.long v_lowUpper, Value.long v_lowLower, Value.long v_capUpper, Value.long v_capLower, Value.int 1]))]) [0] rfl
            have hD9 := hD.sub (ws' := [(o, Sum.inr (5, [Value.long v_lowUpper, Value.long v_lowLower, Value.long v_capUpper, Value.long v_capLower, Value.int 1]))]) [0] (by decide) rfl
            exact W.vret hx hb hr (fun t ht hW => ⟨⟨(), rfl, trivial, v_lowUpper, v_lowLower, v_capUpper, v_capLower, 1, (iv.m (by decide)), by rw [ht]; exact hP9, hD9⟩, hS.F ht⟩) hS.2.2 dX5_need_92
          · skip
            have c549 := lc_nge c54
            have bp0 := hp0.u
            have dp0 := i64_lt c549 rfl (show (0 : Int64).toInt = 0 by decide)
            have hp0 : jv p0 1 (-1) := jv.m (by omega)
            refine lv_aload_n hx hb dX5_need_55 rfl (lv_at hl 0 rfl) ?_
            refine va_get (D := (dC, dI)) (ci := 5) (v := Value.long v_capLower) (C := RX5) (T := TX5) (N := 5) hx hb hts iw_X5_need_X5 hown hK hP 0 rfl rfl 3 (by decide) (hts _ kk_X5_need_0) (fun _ h9 => h9) rfl dX5_need_56 ?_
            refine lv_lconst (v := 0) hx hb dX5_need_59 (by decide) ?_
            refine W.lcmp hx hb dX5_need_60 ?_
            refine lv_if_eq (tgt := 80) hx hb dX5_need_61 (by decide) (fun c55 => ?_) (fun c55 => ?_)
            · skip
              have c559 := lc_eq c55
              refine lv_aload_n hx hb dX5_need_80 rfl (lv_at hl 0 rfl) ?_
              refine lv_lload_n hx hb dX5_need_81 rfl (lv_at hl 2 rfl) ?_
              refine lv_lneg hx hb dX5_need_82 ?_
              refine lv_topl (fun y56 ey56 => ?_)
              have hy56 : jv y56 (-9223372036854775807) (-1) := jv.neg ey56 hp1 (by decide) (by decide) (by decide) (by decide)
              refine va_put (D := (dC, dI)) (ci := 5) (v := Value.long y56) (ty := FieldType.long) (C := RX5) (T := TX5) (N := 5) hx hb hts iw_X5_need_X5 tyX5 tyX5_ok nmX5 hown hK hP hD hS 0 rfl rfl 2 (by decide) (hts _ kk_X5_need_1) (fun _ h9 => h9) rfl (by decide +kernel) rfl rfl (Nat.le_of_ble_eq_true rfl) dX5_need_83 (fun H locs hP hD hS => ?_)
              have hP : va_P (dC, dI) vwCl [(o, Sum.inr (5, [Value.long v_lowUpper, Value.long v_lowLower, Value.long y56, Value.long v_capLower, Value.int 1]))] H := hP
              have hD : va_D A [(o, Sum.inr (5, [Value.long v_lowUpper, Value.long v_lowLower, Value.long y56, Value.long v_capLower, Value.int 1]))] := hD
              refine lv_aload_n hx hb dX5_need_86 rfl (lv_at hl 0 rfl) ?_
              refine lv_lload_n hx hb dX5_need_87 rfl (lv_at hl 1 rfl) ?_
              refine lv_lneg hx hb dX5_need_88 ?_
              refine lv_topl (fun y57 ey57 => ?_)
              have hy57 : jv y57 1 (-1) := jv.neg ey57 hp0 (by decide) (by decide) (by decide) (by decide)
              refine va_put (D := (dC, dI)) (ci := 5) (v := Value.long y57) (ty := FieldType.long) (C := RX5) (T := TX5) (N := 5) hx hb hts iw_X5_need_X5 tyX5 tyX5_ok nmX5 hown hK hP hD hS 0 rfl rfl 3 (by decide) (hts _ kk_X5_need_0) (fun _ h9 => h9) rfl (by decide +kernel) rfl rfl (Nat.le_of_ble_eq_true rfl) dX5_need_89 (fun H locs hP hD hS => ?_)
              have hP : va_P (dC, dI) vwCl [(o, Sum.inr (5, [Value.long v_lowUpper, Value.long v_lowLower, Value.long y56, Value.long y57, Value.int 1]))] H := hP
              have hD : va_D A [(o, Sum.inr (5, [Value.long v_lowUpper, Value.long v_lowLower, Value.long y56, Value.long y57, Value.int 1]))] := hD
              have hP9 := hP.sub (ws' := [(o, Sum.inr (5, [Value.long v_lowUpper, Value.long v_lowLower, Value.long y56, Value.long y57, Value.int 1]))]) [0] rfl
              have hD9 := hD.sub (ws' := [(o, Sum.inr (5, [Value.long v_lowUpper, Value.long v_lowLower, Value.long y56, Value.long y57, Value.int 1]))]) [0] (by decide) rfl
              exact W.vret hx hb hr (fun t ht hW => ⟨⟨(), rfl, trivial, v_lowUpper, v_lowLower, y56, y57, 1, (iv.m (by decide)), by rw [ht]; exact hP9, hD9⟩, hS.F ht⟩) hS.2.2 dX5_need_92
            · skip
              have c559 := lc_ne c55
              refine lv_lload_n hx hb dX5_need_64 rfl (lv_at hl 2 rfl) ?_
              refine lv_aload_n hx hb dX5_need_65 rfl (lv_at hl 0 rfl) ?_
              refine va_get (D := (dC, dI)) (ci := 5) (v := Value.long v_capLower) (C := RX5) (T := TX5) (N := 5) hx hb hts iw_X5_need_X5 hown hK hP 0 rfl rfl 3 (by decide) (hts _ kk_X5_need_0) (fun _ h9 => h9) rfl dX5_need_66 ?_
              refine lv_lmul hx hb dX5_need_69 ?_
              refine lv_topl (fun y58 ey58 => ?_)
              refine lv_aload_n hx hb dX5_need_70 rfl (lv_at hl 0 rfl) ?_
              refine va_get (D := (dC, dI)) (ci := 5) (v := Value.long v_capUpper) (C := RX5) (T := TX5) (N := 5) hx hb hts iw_X5_need_X5 hown hK hP 0 rfl rfl 2 (by decide) (hts _ kk_X5_need_1) (fun _ h9 => h9) rfl dX5_need_71 ?_
              refine lv_lload_n hx hb dX5_need_74 rfl (lv_at hl 1 rfl) ?_
              refine lv_lmul hx hb dX5_need_75 ?_
              refine lv_topl (fun y59 ey59 => ?_)
              refine W.lcmp hx hb dX5_need_76 ?_
              refine lv_if_le (tgt := 92) hx hb dX5_need_77 (by decide) (fun c60 => ?_) (fun c60 => ?_)
              · skip
                have c609 := lc_le c60
                have hP9 := hP.sub (ws' := [(o, Sum.inr (5, [Value.long v_lowUpper, Value.long v_lowLower, Value.long v_capUpper, Value.long v_capLower, Value.int 1]))]) [0] rfl
                have hD9 := hD.sub (ws' := [(o, Sum.inr (5, [Value.long v_lowUpper, Value.long v_lowLower, Value.long v_capUpper, Value.long v_capLower, Value.int 1]))]) [0] (by decide) rfl
                exact W.vret hx hb hr (fun t ht hW => ⟨⟨(), rfl, trivial, v_lowUpper, v_lowLower, v_capUpper, v_capLower, 1, (iv.m (by decide)), by rw [ht]; exact hP9, hD9⟩, hS.F ht⟩) hS.2.2 dX5_need_92
              · skip
                have c609 := lc_nle c60
                refine lv_aload_n hx hb dX5_need_80 rfl (lv_at hl 0 rfl) ?_
                refine lv_lload_n hx hb dX5_need_81 rfl (lv_at hl 2 rfl) ?_
                refine lv_lneg hx hb dX5_need_82 ?_
                refine lv_topl (fun y61 ey61 => ?_)
                have hy61 : jv y61 (-9223372036854775807) (-1) := jv.neg ey61 hp1 (by decide) (by decide) (by decide) (by decide)
                refine va_put (D := (dC, dI)) (ci := 5) (v := Value.long y61) (ty := FieldType.long) (C := RX5) (T := TX5) (N := 5) hx hb hts iw_X5_need_X5 tyX5 tyX5_ok nmX5 hown hK hP hD hS 0 rfl rfl 2 (by decide) (hts _ kk_X5_need_1) (fun _ h9 => h9) rfl (by decide +kernel) rfl rfl (Nat.le_of_ble_eq_true rfl) dX5_need_83 (fun H locs hP hD hS => ?_)
                have hP : va_P (dC, dI) vwCl [(o, Sum.inr (5, [Value.long v_lowUpper, Value.long v_lowLower, Value.long y61, Value.long v_capLower, Value.int 1]))] H := hP
                have hD : va_D A [(o, Sum.inr (5, [Value.long v_lowUpper, Value.long v_lowLower, Value.long y61, Value.long v_capLower, Value.int 1]))] := hD
                refine lv_aload_n hx hb dX5_need_86 rfl (lv_at hl 0 rfl) ?_
                refine lv_lload_n hx hb dX5_need_87 rfl (lv_at hl 1 rfl) ?_
                refine lv_lneg hx hb dX5_need_88 ?_
                refine lv_topl (fun y62 ey62 => ?_)
                have hy62 : jv y62 1 (-1) := jv.neg ey62 hp0 (by decide) (by decide) (by decide) (by decide)
                refine va_put (D := (dC, dI)) (ci := 5) (v := Value.long y62) (ty := FieldType.long) (C := RX5) (T := TX5) (N := 5) hx hb hts iw_X5_need_X5 tyX5 tyX5_ok nmX5 hown hK hP hD hS 0 rfl rfl 3 (by decide) (hts _ kk_X5_need_0) (fun _ h9 => h9) rfl (by decide +kernel) rfl rfl (Nat.le_of_ble_eq_true rfl) dX5_need_89 (fun H locs hP hD hS => ?_)
                have hP : va_P (dC, dI) vwCl [(o, Sum.inr (5, [Value.long v_lowUpper, Value.long v_lowLower, Value.long y61, Value.long y62, Value.int 1]))] H := hP
                have hD : va_D A [(o, Sum.inr (5, [Value.long v_lowUpper, Value.long v_lowLower, Value.long y61, Value.long y62, Value.int 1]))] := hD
                have hP9 := hP.sub (ws' := [(o, Sum.inr (5, [Value.long v_lowUpper, Value.long v_lowLower, Value.long y61, Value.long y62, Value.int 1]))]) [0] rfl
                have hD9 := hD.sub (ws' := [(o, Sum.inr (5, [Value.long v_lowUpper, Value.long v_lowLower, Value.long y61, Value.long y62, Value.int 1]))]) [0] (by decide) rfl
                exact W.vret hx hb hr (fun t ht hW => ⟨⟨(), rfl, trivial, v_lowUpper, v_lowLower, y61, y62, 1, (iv.m (by decide)), by rw [ht]; exact hP9, hD9⟩, hS.F ht⟩) hS.2.2 dX5_need_92
    · skip
      have c339 := lc_nle c33
      refine lv_aload_n hx hb dX5_need_22 rfl (lv_at hl 0 rfl) ?_
      refine lv_lload_n hx hb dX5_need_23 rfl (lv_at hl 2 rfl) ?_
      refine va_put (D := (dC, dI)) (ci := 5) (v := Value.long p1) (ty := FieldType.long) (C := RX5) (T := TX5) (N := 5) hx hb hts iw_X5_need_X5 tyX5 tyX5_ok nmX5 hown hK hP hD hS 0 rfl rfl 0 (by decide) (hts _ kk_X5_need_4) (fun _ h9 => h9) rfl (by decide +kernel) rfl rfl (Nat.le_of_ble_eq_true rfl) dX5_need_24 (fun H locs hP hD hS => ?_)
      have hP : va_P (dC, dI) vwCl [(o, Sum.inr (5, [Value.long p1, Value.long v_lowLower, Value.long v_capUpper, Value.long v_capLower, Value.int v_isBroken]))] H := hP
      have hD : va_D A [(o, Sum.inr (5, [Value.long p1, Value.long v_lowLower, Value.long v_capUpper, Value.long v_capLower, Value.int v_isBroken]))] := hD
      refine lv_aload_n hx hb dX5_need_27 rfl (lv_at hl 0 rfl) ?_
      refine lv_lload_n hx hb dX5_need_28 rfl (lv_at hl 1 rfl) ?_
      refine va_put (D := (dC, dI)) (ci := 5) (v := Value.long p0) (ty := FieldType.long) (C := RX5) (T := TX5) (N := 5) hx hb hts iw_X5_need_X5 tyX5 tyX5_ok nmX5 hown hK hP hD hS 0 rfl rfl 1 (by decide) (hts _ kk_X5_need_3) (fun _ h9 => h9) rfl (by decide +kernel) rfl rfl (Nat.le_of_ble_eq_true rfl) dX5_need_29 (fun H locs hP hD hS => ?_)
      have hP : va_P (dC, dI) vwCl [(o, Sum.inr (5, [Value.long p1, Value.long p0, Value.long v_capUpper, Value.long v_capLower, Value.int v_isBroken]))] H := hP
      have hD : va_D A [(o, Sum.inr (5, [Value.long p1, Value.long p0, Value.long v_capUpper, Value.long v_capLower, Value.int v_isBroken]))] := hD
      refine lv_lload_n hx hb dX5_need_32 rfl (lv_at hl 1 rfl) ?_
      refine lv_lconst (v := 0) hx hb dX5_need_33 (by decide) ?_
      refine W.lcmp hx hb dX5_need_34 ?_
      refine lv_if_ne (tgt := 49) hx hb dX5_need_35 (by decide) (fun c63 => ?_) (fun c63 => ?_)
      · skip
        have c639 := lc_ne c63
        refine lv_lload_n hx hb dX5_need_49 rfl (lv_at hl 1 rfl) ?_
        refine lv_lconst (v := 0) hx hb dX5_need_50 (by decide) ?_
        refine W.lcmp hx hb dX5_need_51 ?_
        refine lv_if_ge (tgt := 92) hx hb dX5_need_52 (by decide) (fun c64 => ?_) (fun c64 => ?_)
        · skip
          have c649 := lc_ge c64
          have hP9 := hP.sub (ws' := [(o, Sum.inr (5, [Value.long p1, Value.long p0, Value.long v_capUpper, Value.long v_capLower, Value.int v_isBroken]))]) [0] rfl
          have hD9 := hD.sub (ws' := [(o, Sum.inr (5, [Value.long p1, Value.long p0, Value.long v_capUpper, Value.long v_capLower, Value.int v_isBroken]))]) [0] (by decide) rfl
          exact W.vret hx hb hr (fun t ht hW => ⟨⟨(), rfl, trivial, p1, p0, v_capUpper, v_capLower, v_isBroken, hv_isBroken, by rw [ht]; exact hP9, hD9⟩, hS.F ht⟩) hS.2.2 dX5_need_92
        · skip
          have c649 := lc_nge c64
          have bp0 := hp0.u
          have dp0 := i64_lt c649 rfl (show (0 : Int64).toInt = 0 by decide)
          have hp0 : jv p0 1 (-1) := jv.m (by omega)
          refine lv_aload_n hx hb dX5_need_55 rfl (lv_at hl 0 rfl) ?_
          refine va_get (D := (dC, dI)) (ci := 5) (v := Value.long v_capLower) (C := RX5) (T := TX5) (N := 5) hx hb hts iw_X5_need_X5 hown hK hP 0 rfl rfl 3 (by decide) (hts _ kk_X5_need_0) (fun _ h9 => h9) rfl dX5_need_56 ?_
          refine lv_lconst (v := 0) hx hb dX5_need_59 (by decide) ?_
          refine W.lcmp hx hb dX5_need_60 ?_
          refine lv_if_eq (tgt := 80) hx hb dX5_need_61 (by decide) (fun c65 => ?_) (fun c65 => ?_)
          · skip
            have c659 := lc_eq c65
            refine lv_aload_n hx hb dX5_need_80 rfl (lv_at hl 0 rfl) ?_
            refine lv_lload_n hx hb dX5_need_81 rfl (lv_at hl 2 rfl) ?_
            refine lv_lneg hx hb dX5_need_82 ?_
            refine lv_topl (fun y66 ey66 => ?_)
            refine va_put (D := (dC, dI)) (ci := 5) (v := Value.long y66) (ty := FieldType.long) (C := RX5) (T := TX5) (N := 5) hx hb hts iw_X5_need_X5 tyX5 tyX5_ok nmX5 hown hK hP hD hS 0 rfl rfl 2 (by decide) (hts _ kk_X5_need_1) (fun _ h9 => h9) rfl (by decide +kernel) rfl rfl (Nat.le_of_ble_eq_true rfl) dX5_need_83 (fun H locs hP hD hS => ?_)
            have hP : va_P (dC, dI) vwCl [(o, Sum.inr (5, [Value.long p1, Value.long p0, Value.long y66, Value.long v_capLower, Value.int v_isBroken]))] H := hP
            have hD : va_D A [(o, Sum.inr (5, [Value.long p1, Value.long p0, Value.long y66, Value.long v_capLower, Value.int v_isBroken]))] := hD
            refine lv_aload_n hx hb dX5_need_86 rfl (lv_at hl 0 rfl) ?_
            refine lv_lload_n hx hb dX5_need_87 rfl (lv_at hl 1 rfl) ?_
            refine lv_lneg hx hb dX5_need_88 ?_
            refine lv_topl (fun y67 ey67 => ?_)
            have hy67 : jv y67 1 (-1) := jv.neg ey67 hp0 (by decide) (by decide) (by decide) (by decide)
            refine va_put (D := (dC, dI)) (ci := 5) (v := Value.long y67) (ty := FieldType.long) (C := RX5) (T := TX5) (N := 5) hx hb hts iw_X5_need_X5 tyX5 tyX5_ok nmX5 hown hK hP hD hS 0 rfl rfl 3 (by decide) (hts _ kk_X5_need_0) (fun _ h9 => h9) rfl (by decide +kernel) rfl rfl (Nat.le_of_ble_eq_true rfl) dX5_need_89 (fun H locs hP hD hS => ?_)
            have hP : va_P (dC, dI) vwCl [(o, Sum.inr (5, [Value.long p1, Value.long p0, Value.long y66, Value.long y67, Value.int v_isBroken]))] H := hP
            have hD : va_D A [(o, Sum.inr (5, [Value.long p1, Value.long p0, Value.long y66, Value.long y67, Value.int v_isBroken]))] := hD
            have hP9 := hP.sub (ws' := [(o, Sum.inr (5, [Value.long p1, Value.long p0, Value.long y66, Value.long y67, Value.int v_isBroken]))]) [0] rfl
            have hD9 := hD.sub (ws' := [(o, Sum.inr (5, [Value.long p1, Value.long p0, Value.long y66, Value.long y67, Value.int v_isBroken]))]) [0] (by decide) rfl
            exact W.vret hx hb hr (fun t ht hW => ⟨⟨(), rfl, trivial, p1, p0, y66, y67, v_isBroken, hv_isBroken, by rw [ht]; exact hP9, hD9⟩, hS.F ht⟩) hS.2.2 dX5_need_92
          · skip
            have c659 := lc_ne c65
            refine lv_lload_n hx hb dX5_need_64 rfl (lv_at hl 2 rfl) ?_
            refine lv_aload_n hx hb dX5_need_65 rfl (lv_at hl 0 rfl) ?_
            refine va_get (D := (dC, dI)) (ci := 5) (v := Value.long v_capLower) (C := RX5) (T := TX5) (N := 5) hx hb hts iw_X5_need_X5 hown hK hP 0 rfl rfl 3 (by decide) (hts _ kk_X5_need_0) (fun _ h9 => h9) rfl dX5_need_66 ?_
            refine lv_lmul hx hb dX5_need_69 ?_
            refine lv_topl (fun y68 ey68 => ?_)
            refine lv_aload_n hx hb dX5_need_70 rfl (lv_at hl 0 rfl) ?_
            refine va_get (D := (dC, dI)) (ci := 5) (v := Value.long v_capUpper) (C := RX5) (T := TX5) (N := 5) hx hb hts iw_X5_need_X5 hown hK hP 0 rfl rfl 2 (by decide) (hts _ kk_X5_need_1) (fun _ h9 => h9) rfl dX5_need_71 ?_
            refine lv_lload_n hx hb dX5_need_74 rfl (lv_at hl 1 rfl) ?_
            refine lv_lmul hx hb dX5_need_75 ?_
            refine lv_topl (fun y69 ey69 => ?_)
            refine W.lcmp hx hb dX5_need_76 ?_
            refine lv_if_le (tgt := 92) hx hb dX5_need_77 (by decide) (fun c70 => ?_) (fun c70 => ?_)
            · skip
              have c709 := lc_le c70
              have hP9 := hP.sub (ws' := [(o, Sum.inr (5, [Value.long p1, Value.long p0, Value.long v_capUpper, Value.long v_capLower, Value.int v_isBroken]))]) [0] rfl
              have hD9 := hD.sub (ws' := [(o, Sum.inr (5, [Value.long p1, Value.long p0, Value.long v_capUpper, Value.long v_capLower, Value.int v_isBroken]))]) [0] (by decide) rfl
              exact W.vret hx hb hr (fun t ht hW => ⟨⟨(), rfl, trivial, p1, p0, v_capUpper, v_capLower, v_isBroken, hv_isBroken, by rw [ht]; exact hP9, hD9⟩, hS.F ht⟩) hS.2.2 dX5_need_92
            · skip
              have c709 := lc_nle c70
              refine lv_aload_n hx hb dX5_need_80 rfl (lv_at hl 0 rfl) ?_
              refine lv_lload_n hx hb dX5_need_81 rfl (lv_at hl 2 rfl) ?_
              refine lv_lneg hx hb dX5_need_82 ?_
              refine lv_topl (fun y71 ey71 => ?_)
              refine va_put (D := (dC, dI)) (ci := 5) (v := Value.long y71) (ty := FieldType.long) (C := RX5) (T := TX5) (N := 5) hx hb hts iw_X5_need_X5 tyX5 tyX5_ok nmX5 hown hK hP hD hS 0 rfl rfl 2 (by decide) (hts _ kk_X5_need_1) (fun _ h9 => h9) rfl (by decide +kernel) rfl rfl (Nat.le_of_ble_eq_true rfl) dX5_need_83 (fun H locs hP hD hS => ?_)
              have hP : va_P (dC, dI) vwCl [(o, Sum.inr (5, [Value.long p1, Value.long p0, Value.long y71, Value.long v_capLower, Value.int v_isBroken]))] H := hP
              have hD : va_D A [(o, Sum.inr (5, [Value.long p1, Value.long p0, Value.long y71, Value.long v_capLower, Value.int v_isBroken]))] := hD
              refine lv_aload_n hx hb dX5_need_86 rfl (lv_at hl 0 rfl) ?_
              refine lv_lload_n hx hb dX5_need_87 rfl (lv_at hl 1 rfl) ?_
              refine lv_lneg hx hb dX5_need_88 ?_
              refine lv_topl (fun y72 ey72 => ?_)
              have hy72 : jv y72 1 (-1) := jv.neg ey72 hp0 (by decide) (by decide) (by decide) (by decide)
              refine va_put (D := (dC, dI)) (ci := 5) (v := Value.long y72) (ty := FieldType.long) (C := RX5) (T := TX5) (N := 5) hx hb hts iw_X5_need_X5 tyX5 tyX5_ok nmX5 hown hK hP hD hS 0 rfl rfl 3 (by decide) (hts _ kk_X5_need_0) (fun _ h9 => h9) rfl (by decide +kernel) rfl rfl (Nat.le_of_ble_eq_true rfl) dX5_need_89 (fun H locs hP hD hS => ?_)
              have hP : va_P (dC, dI) vwCl [(o, Sum.inr (5, [Value.long p1, Value.long p0, Value.long y71, Value.long y72, Value.int v_isBroken]))] H := hP
              have hD : va_D A [(o, Sum.inr (5, [Value.long p1, Value.long p0, Value.long y71, Value.long y72, Value.int v_isBroken]))] := hD
              have hP9 := hP.sub (ws' := [(o, Sum.inr (5, [Value.long p1, Value.long p0, Value.long y71, Value.long y72, Value.int v_isBroken]))]) [0] rfl
              have hD9 := hD.sub (ws' := [(o, Sum.inr (5, [Value.long p1, Value.long p0, Value.long y71, Value.long y72, Value.int v_isBroken]))]) [0] (by decide) rfl
              exact W.vret hx hb hr (fun t ht hW => ⟨⟨(), rfl, trivial, p1, p0, y71, y72, v_isBroken, hv_isBroken, by rw [ht]; exact hP9, hD9⟩, hS.F ht⟩) hS.2.2 dX5_need_92
      · skip
        have c639 := lc_eq c63
        refine lv_lload_n hx hb dX5_need_38 rfl (lv_at hl 2 rfl) ?_
        refine lv_lconst (v := 0) hx hb dX5_need_39 (by decide) ?_
        refine W.lcmp hx hb dX5_need_40 ?_
        refine lv_if_le (tgt := 49) hx hb dX5_need_41 (by decide) (fun c73 => ?_) (fun c73 => ?_)
        · skip
          have c739 := lc_le c73
          have bp1 : (-9223372036854775808 : Int) ≤ p1.toInt ∧ p1.toInt ≤ 9223372036854775807 := ⟨i64_min _, i64_max _⟩
          have dp1 := i64_le c739 rfl (show (0 : Int64).toInt = 0 by decide)
          have hp1 : jv p1 (-9223372036854775808) 0 := jv.m (by omega)
          refine lv_lload_n hx hb dX5_need_49 rfl (lv_at hl 1 rfl) ?_
          refine lv_lconst (v := 0) hx hb dX5_need_50 (by decide) ?_
          refine W.lcmp hx hb dX5_need_51 ?_
          refine lv_if_ge (tgt := 92) hx hb dX5_need_52 (by decide) (fun c74 => ?_) (fun c74 => ?_)
          · skip
            have c749 := lc_ge c74
            have hP9 := hP.sub (ws' := [(o, Sum.inr (5, [Value.long p1, Value.long p0, Value.long v_capUpper, Value.long v_capLower, Value.int v_isBroken]))]) [0] rfl
            have hD9 := hD.sub (ws' := [(o, Sum.inr (5, [Value.long p1, Value.long p0, Value.long v_capUpper, Value.long v_capLower, Value.int v_isBroken]))]) [0] (by decide) rfl
            exact W.vret hx hb hr (fun t ht hW => ⟨⟨(), rfl, trivial, p1, p0, v_capUpper, v_capLower, v_isBroken, hv_isBroken, by rw [ht]; exact hP9, hD9⟩, hS.F ht⟩) hS.2.2 dX5_need_92
          · skip
            have c749 := lc_nge c74
            have bp0 := hp0.u
            have dp0 := i64_lt c749 rfl (show (0 : Int64).toInt = 0 by decide)
            have hp0 : jv p0 1 (-1) := jv.m (by omega)
            refine lv_aload_n hx hb dX5_need_55 rfl (lv_at hl 0 rfl) ?_
            refine va_get (D := (dC, dI)) (ci := 5) (v := Value.long v_capLower) (C := RX5) (T := TX5) (N := 5) hx hb hts iw_X5_need_X5 hown hK hP 0 rfl rfl 3 (by decide) (hts _ kk_X5_need_0) (fun _ h9 => h9) rfl dX5_need_56 ?_
            refine lv_lconst (v := 0) hx hb dX5_need_59 (by decide) ?_
            refine W.lcmp hx hb dX5_need_60 ?_
            refine lv_if_eq (tgt := 80) hx hb dX5_need_61 (by decide) (fun c75 => ?_) (fun c75 => ?_)
            · skip
              have c759 := lc_eq c75
              refine lv_aload_n hx hb dX5_need_80 rfl (lv_at hl 0 rfl) ?_
              refine lv_lload_n hx hb dX5_need_81 rfl (lv_at hl 2 rfl) ?_
              refine lv_lneg hx hb dX5_need_82 ?_
              refine lv_topl (fun y76 ey76 => ?_)
              refine va_put (D := (dC, dI)) (ci := 5) (v := Value.long y76) (ty := FieldType.long) (C := RX5) (T := TX5) (N := 5) hx hb hts iw_X5_need_X5 tyX5 tyX5_ok nmX5 hown hK hP hD hS 0 rfl rfl 2 (by decide) (hts _ kk_X5_need_1) (fun _ h9 => h9) rfl (by decide +kernel) rfl rfl (Nat.le_of_ble_eq_true rfl) dX5_need_83 (fun H locs hP hD hS => ?_)
              have hP : va_P (dC, dI) vwCl [(o, Sum.inr (5, [Value.long p1, Value.long p0, Value.long y76, Value.long v_capLower, Value.int v_isBroken]))] H := hP
              have hD : va_D A [(o, Sum.inr (5, [Value.long p1, Value.long p0, Value.long y76, Value.long v_capLower, Value.int v_isBroken]))] := hD
              refine lv_aload_n hx hb dX5_need_86 rfl (lv_at hl 0 rfl) ?_
              refine lv_lload_n hx hb dX5_need_87 rfl (lv_at hl 1 rfl) ?_
              refine lv_lneg hx hb dX5_need_88 ?_
              refine lv_topl (fun y77 ey77 => ?_)
              have hy77 : jv y77 1 (-1) := jv.neg ey77 hp0 (by decide) (by decide) (by decide) (by decide)
              refine va_put (D := (dC, dI)) (ci := 5) (v := Value.long y77) (ty := FieldType.long) (C := RX5) (T := TX5) (N := 5) hx hb hts iw_X5_need_X5 tyX5 tyX5_ok nmX5 hown hK hP hD hS 0 rfl rfl 3 (by decide) (hts _ kk_X5_need_0) (fun _ h9 => h9) rfl (by decide +kernel) rfl rfl (Nat.le_of_ble_eq_true rfl) dX5_need_89 (fun H locs hP hD hS => ?_)
              have hP : va_P (dC, dI) vwCl [(o, Sum.inr (5, [Value.long p1, Value.long p0, Value.long y76, Value.long y77, Value.int v_isBroken]))] H := hP
              have hD : va_D A [(o, Sum.inr (5, [Value.long p1, Value.long p0, Value.long y76, Value.long y77, Value.int v_isBroken]))] := hD
              have hP9 := hP.sub (ws' := [(o, Sum.inr (5, [Value.long p1, Value.long p0, Value.long y76, Value.long y77, Value.int v_isBroken]))]) [0] rfl
              have hD9 := hD.sub (ws' := [(o, Sum.inr (5, [Value.long p1, Value.long p0, Value.long y76, Value.long y77, Value.int v_isBroken]))]) [0] (by decide) rfl
              exact W.vret hx hb hr (fun t ht hW => ⟨⟨(), rfl, trivial, p1, p0, y76, y77, v_isBroken, hv_isBroken, by rw [ht]; exact hP9, hD9⟩, hS.F ht⟩) hS.2.2 dX5_need_92
            · skip
              have c759 := lc_ne c75
              refine lv_lload_n hx hb dX5_need_64 rfl (lv_at hl 2 rfl) ?_
              refine lv_aload_n hx hb dX5_need_65 rfl (lv_at hl 0 rfl) ?_
              refine va_get (D := (dC, dI)) (ci := 5) (v := Value.long v_capLower) (C := RX5) (T := TX5) (N := 5) hx hb hts iw_X5_need_X5 hown hK hP 0 rfl rfl 3 (by decide) (hts _ kk_X5_need_0) (fun _ h9 => h9) rfl dX5_need_66 ?_
              refine lv_lmul hx hb dX5_need_69 ?_
              refine lv_topl (fun y78 ey78 => ?_)
              refine lv_aload_n hx hb dX5_need_70 rfl (lv_at hl 0 rfl) ?_
              refine va_get (D := (dC, dI)) (ci := 5) (v := Value.long v_capUpper) (C := RX5) (T := TX5) (N := 5) hx hb hts iw_X5_need_X5 hown hK hP 0 rfl rfl 2 (by decide) (hts _ kk_X5_need_1) (fun _ h9 => h9) rfl dX5_need_71 ?_
              refine lv_lload_n hx hb dX5_need_74 rfl (lv_at hl 1 rfl) ?_
              refine lv_lmul hx hb dX5_need_75 ?_
              refine lv_topl (fun y79 ey79 => ?_)
              refine W.lcmp hx hb dX5_need_76 ?_
              refine lv_if_le (tgt := 92) hx hb dX5_need_77 (by decide) (fun c80 => ?_) (fun c80 => ?_)
              · skip
                have c809 := lc_le c80
                have hP9 := hP.sub (ws' := [(o, Sum.inr (5, [Value.long p1, Value.long p0, Value.long v_capUpper, Value.long v_capLower, Value.int v_isBroken]))]) [0] rfl
                have hD9 := hD.sub (ws' := [(o, Sum.inr (5, [Value.long p1, Value.long p0, Value.long v_capUpper, Value.long v_capLower, Value.int v_isBroken]))]) [0] (by decide) rfl
                exact W.vret hx hb hr (fun t ht hW => ⟨⟨(), rfl, trivial, p1, p0, v_capUpper, v_capLower, v_isBroken, hv_isBroken, by rw [ht]; exact hP9, hD9⟩, hS.F ht⟩) hS.2.2 dX5_need_92
              · skip
                have c809 := lc_nle c80
                refine lv_aload_n hx hb dX5_need_80 rfl (lv_at hl 0 rfl) ?_
                refine lv_lload_n hx hb dX5_need_81 rfl (lv_at hl 2 rfl) ?_
                refine lv_lneg hx hb dX5_need_82 ?_
                refine lv_topl (fun y81 ey81 => ?_)
                refine va_put (D := (dC, dI)) (ci := 5) (v := Value.long y81) (ty := FieldType.long) (C := RX5) (T := TX5) (N := 5) hx hb hts iw_X5_need_X5 tyX5 tyX5_ok nmX5 hown hK hP hD hS 0 rfl rfl 2 (by decide) (hts _ kk_X5_need_1) (fun _ h9 => h9) rfl (by decide +kernel) rfl rfl (Nat.le_of_ble_eq_true rfl) dX5_need_83 (fun H locs hP hD hS => ?_)
                have hP : va_P (dC, dI) vwCl [(o, Sum.inr (5, [Value.long p1, Value.long p0, Value.long y81, Value.long v_capLower, Value.int v_isBroken]))] H := hP
                have hD : va_D A [(o, Sum.inr (5, [Value.long p1, Value.long p0, Value.long y81, Value.long v_capLower, Value.int v_isBroken]))] := hD
                refine lv_aload_n hx hb dX5_need_86 rfl (lv_at hl 0 rfl) ?_
                refine lv_lload_n hx hb dX5_need_87 rfl (lv_at hl 1 rfl) ?_
                refine lv_lneg hx hb dX5_need_88 ?_
                refine lv_topl (fun y82 ey82 => ?_)
                have hy82 : jv y82 1 (-1) := jv.neg ey82 hp0 (by decide) (by decide) (by decide) (by decide)
                refine va_put (D := (dC, dI)) (ci := 5) (v := Value.long y82) (ty := FieldType.long) (C := RX5) (T := TX5) (N := 5) hx hb hts iw_X5_need_X5 tyX5 tyX5_ok nmX5 hown hK hP hD hS 0 rfl rfl 3 (by decide) (hts _ kk_X5_need_0) (fun _ h9 => h9) rfl (by decide +kernel) rfl rfl (Nat.le_of_ble_eq_true rfl) dX5_need_89 (fun H locs hP hD hS => ?_)
                have hP : va_P (dC, dI) vwCl [(o, Sum.inr (5, [Value.long p1, Value.long p0, Value.long y81, Value.long y82, Value.int v_isBroken]))] H := hP
                have hD : va_D A [(o, Sum.inr (5, [Value.long p1, Value.long p0, Value.long y81, Value.long y82, Value.int v_isBroken]))] := hD
                have hP9 := hP.sub (ws' := [(o, Sum.inr (5, [Value.long p1, Value.long p0, Value.long y81, Value.long y82, Value.int v_isBroken]))]) [0] rfl
                have hD9 := hD.sub (ws' := [(o, Sum.inr (5, [Value.long p1, Value.long p0, Value.long y81, Value.long y82, Value.int v_isBroken]))]) [0] (by decide) rfl
                exact W.vret hx hb hr (fun t ht hW => ⟨⟨(), rfl, trivial, p1, p0, y81, y82, v_isBroken, hv_isBroken, by rw [ht]; exact hP9, hD9⟩, hS.F ht⟩) hS.2.2 dX5_need_92
        · skip
          have c739 := lc_nle c73
          have bp1 : (-9223372036854775808 : Int) ≤ p1.toInt ∧ p1.toInt ≤ 9223372036854775807 := ⟨i64_min _, i64_max _⟩
          have dp1 := i64_lt c739 (show (0 : Int64).toInt = 0 by decide) rfl
          have hp1 : jv p1 1 9223372036854775807 := jv.m (by omega)
          refine lv_aload_n hx hb dX5_need_44 rfl (lv_at hl 0 rfl) ?_
          refine lv_iconst (v := 1) hx hb dX5_need_45 (by decide) ?_
          refine va_put (D := (dC, dI)) (ci := 5) (v := Value.int 1) (ty := FieldType.boolean) (C := RX5) (T := TX5) (N := 5) hx hb hts iw_X5_need_X5 tyX5 tyX5_ok nmX5 hown hK hP hD hS 0 rfl rfl 4 (by decide) (hts _ kk_X5_need_2) (fun _ h9 => h9) rfl (by decide +kernel) rfl rfl (Nat.le_of_ble_eq_true rfl) dX5_need_46 (fun H locs hP hD hS => ?_)
          have hP : va_P (dC, dI) vwCl [(o, Sum.inr (5, [Value.long p1, Value.long p0, Value.long v_capUpper, Value.long v_capLower, Value.int 1]))] H := hP
          have hD : va_D A [(o, Sum.inr (5, [Value.long p1, Value.long p0, Value.long v_capUpper, Value.long v_capLower, Value.int 1]))] := hD
          refine lv_lload_n hx hb dX5_need_49 rfl (lv_at hl 1 rfl) ?_
          refine lv_lconst (v := 0) hx hb dX5_need_50 (by decide) ?_
          refine W.lcmp hx hb dX5_need_51 ?_
          refine lv_if_ge (tgt := 92) hx hb dX5_need_52 (by decide) (fun c83 => ?_) (fun c83 => ?_)
          · skip
            have c839 := lc_ge c83
            have hP9 := hP.sub (ws' := [(o, Sum.inr (5, [Value.long p1, Value.long p0, Value.long v_capUpper, Value.long v_capLower, Value.int 1]))]) [0] rfl
            have hD9 := hD.sub (ws' := [(o, Sum.inr (5, [Value.long p1, Value.long p0, Value.long v_capUpper, Value.long v_capLower, Value.int 1]))]) [0] (by decide) rfl
            exact W.vret hx hb hr (fun t ht hW => ⟨⟨(), rfl, trivial, p1, p0, v_capUpper, v_capLower, 1, (iv.m (by decide)), by rw [ht]; exact hP9, hD9⟩, hS.F ht⟩) hS.2.2 dX5_need_92
          · skip
            have c839 := lc_nge c83
            have bp0 := hp0.u
            have dp0 := i64_lt c839 rfl (show (0 : Int64).toInt = 0 by decide)
            have hp0 : jv p0 1 (-1) := jv.m (by omega)
            refine lv_aload_n hx hb dX5_need_55 rfl (lv_at hl 0 rfl) ?_
            refine va_get (D := (dC, dI)) (ci := 5) (v := Value.long v_capLower) (C := RX5) (T := TX5) (N := 5) hx hb hts iw_X5_need_X5 hown hK hP 0 rfl rfl 3 (by decide) (hts _ kk_X5_need_0) (fun _ h9 => h9) rfl dX5_need_56 ?_
            refine lv_lconst (v := 0) hx hb dX5_need_59 (by decide) ?_
            refine W.lcmp hx hb dX5_need_60 ?_
            refine lv_if_eq (tgt := 80) hx hb dX5_need_61 (by decide) (fun c84 => ?_) (fun c84 => ?_)
            · skip
              have c849 := lc_eq c84
              refine lv_aload_n hx hb dX5_need_80 rfl (lv_at hl 0 rfl) ?_
              refine lv_lload_n hx hb dX5_need_81 rfl (lv_at hl 2 rfl) ?_
              refine lv_lneg hx hb dX5_need_82 ?_
              refine lv_topl (fun y85 ey85 => ?_)
              have hy85 : jv y85 (-9223372036854775807) (-1) := jv.neg ey85 hp1 (by decide) (by decide) (by decide) (by decide)
              refine va_put (D := (dC, dI)) (ci := 5) (v := Value.long y85) (ty := FieldType.long) (C := RX5) (T := TX5) (N := 5) hx hb hts iw_X5_need_X5 tyX5 tyX5_ok nmX5 hown hK hP hD hS 0 rfl rfl 2 (by decide) (hts _ kk_X5_need_1) (fun _ h9 => h9) rfl (by decide +kernel) rfl rfl (Nat.le_of_ble_eq_true rfl) dX5_need_83 (fun H locs hP hD hS => ?_)
              have hP : va_P (dC, dI) vwCl [(o, Sum.inr (5, [Value.long p1, Value.long p0, Value.long y85, Value.long v_capLower, Value.int 1]))] H := hP
              have hD : va_D A [(o, Sum.inr (5, [Value.long p1, Value.long p0, Value.long y85, Value.long v_capLower, Value.int 1]))] := hD
              refine lv_aload_n hx hb dX5_need_86 rfl (lv_at hl 0 rfl) ?_
              refine lv_lload_n hx hb dX5_need_87 rfl (lv_at hl 1 rfl) ?_
              refine lv_lneg hx hb dX5_need_88 ?_
              refine lv_topl (fun y86 ey86 => ?_)
              have hy86 : jv y86 1 (-1) := jv.neg ey86 hp0 (by decide) (by decide) (by decide) (by decide)
              refine va_put (D := (dC, dI)) (ci := 5) (v := Value.long y86) (ty := FieldType.long) (C := RX5) (T := TX5) (N := 5) hx hb hts iw_X5_need_X5 tyX5 tyX5_ok nmX5 hown hK hP hD hS 0 rfl rfl 3 (by decide) (hts _ kk_X5_need_0) (fun _ h9 => h9) rfl (by decide +kernel) rfl rfl (Nat.le_of_ble_eq_true rfl) dX5_need_89 (fun H locs hP hD hS => ?_)
              have hP : va_P (dC, dI) vwCl [(o, Sum.inr (5, [Value.long p1, Value.long p0, Value.long y85, Value.long y86, Value.int 1]))] H := hP
              have hD : va_D A [(o, Sum.inr (5, [Value.long p1, Value.long p0, Value.long y85, Value.long y86, Value.int 1]))] := hD
              have hP9 := hP.sub (ws' := [(o, Sum.inr (5, [Value.long p1, Value.long p0, Value.long y85, Value.long y86, Value.int 1]))]) [0] rfl
              have hD9 := hD.sub (ws' := [(o, Sum.inr (5, [Value.long p1, Value.long p0, Value.long y85, Value.long y86, Value.int 1]))]) [0] (by decide) rfl
              exact W.vret hx hb hr (fun t ht hW => ⟨⟨(), rfl, trivial, p1, p0, y85, y86, 1, (iv.m (by decide)), by rw [ht]; exact hP9, hD9⟩, hS.F ht⟩) hS.2.2 dX5_need_92
            · skip
              have c849 := lc_ne c84
              refine lv_lload_n hx hb dX5_need_64 rfl (lv_at hl 2 rfl) ?_
              refine lv_aload_n hx hb dX5_need_65 rfl (lv_at hl 0 rfl) ?_
              refine va_get (D := (dC, dI)) (ci := 5) (v := Value.long v_capLower) (C := RX5) (T := TX5) (N := 5) hx hb hts iw_X5_need_X5 hown hK hP 0 rfl rfl 3 (by decide) (hts _ kk_X5_need_0) (fun _ h9 => h9) rfl dX5_need_66 ?_
              refine lv_lmul hx hb dX5_need_69 ?_
              refine lv_topl (fun y87 ey87 => ?_)
              refine lv_aload_n hx hb dX5_need_70 rfl (lv_at hl 0 rfl) ?_
              refine va_get (D := (dC, dI)) (ci := 5) (v := Value.long v_capUpper) (C := RX5) (T := TX5) (N := 5) hx hb hts iw_X5_need_X5 hown hK hP 0 rfl rfl 2 (by decide) (hts _ kk_X5_need_1) (fun _ h9 => h9) rfl dX5_need_71 ?_
              refine lv_lload_n hx hb dX5_need_74 rfl (lv_at hl 1 rfl) ?_
              refine lv_lmul hx hb dX5_need_75 ?_
              refine lv_topl (fun y88 ey88 => ?_)
              refine W.lcmp hx hb dX5_need_76 ?_
              refine lv_if_le (tgt := 92) hx hb dX5_need_77 (by decide) (fun c89 => ?_) (fun c89 => ?_)
              · skip
                have c899 := lc_le c89
                have hP9 := hP.sub (ws' := [(o, Sum.inr (5, [Value.long p1, Value.long p0, Value.long v_capUpper, Value.long v_capLower, Value.int 1]))]) [0] rfl
                have hD9 := hD.sub (ws' := [(o, Sum.inr (5, [Value.long p1, Value.long p0, Value.long v_capUpper, Value.long v_capLower, Value.int 1]))]) [0] (by decide) rfl
                exact W.vret hx hb hr (fun t ht hW => ⟨⟨(), rfl, trivial, p1, p0, v_capUpper, v_capLower, 1, (iv.m (by decide)), by rw [ht]; exact hP9, hD9⟩, hS.F ht⟩) hS.2.2 dX5_need_92
              · skip
                have c899 := lc_nle c89
                refine lv_aload_n hx hb dX5_need_80 rfl (lv_at hl 0 rfl) ?_
                refine lv_lload_n hx hb dX5_need_81 rfl (lv_at hl 2 rfl) ?_
                refine lv_lneg hx hb dX5_need_82 ?_
                refine lv_topl (fun y90 ey90 => ?_)
                have hy90 : jv y90 (-9223372036854775807) (-1) := jv.neg ey90 hp1 (by decide) (by decide) (by decide) (by decide)
                refine va_put (D := (dC, dI)) (ci := 5) (v := Value.long y90) (ty := FieldType.long) (C := RX5) (T := TX5) (N := 5) hx hb hts iw_X5_need_X5 tyX5 tyX5_ok nmX5 hown hK hP hD hS 0 rfl rfl 2 (by decide) (hts _ kk_X5_need_1) (fun _ h9 => h9) rfl (by decide +kernel) rfl rfl (Nat.le_of_ble_eq_true rfl) dX5_need_83 (fun H locs hP hD hS => ?_)
                have hP : va_P (dC, dI) vwCl [(o, Sum.inr (5, [Value.long p1, Value.long p0, Value.long y90, Value.long v_capLower, Value.int 1]))] H := hP
                have hD : va_D A [(o, Sum.inr (5, [Value.long p1, Value.long p0, Value.long y90, Value.long v_capLower, Value.int 1]))] := hD
                refine lv_aload_n hx hb dX5_need_86 rfl (lv_at hl 0 rfl) ?_
                refine lv_lload_n hx hb dX5_need_87 rfl (lv_at hl 1 rfl) ?_
                refine lv_lneg hx hb dX5_need_88 ?_
                refine lv_topl (fun y91 ey91 => ?_)
                have hy91 : jv y91 1 (-1) := jv.neg ey91 hp0 (by decide) (by decide) (by decide) (by decide)
                refine va_put (D := (dC, dI)) (ci := 5) (v := Value.long y91) (ty := FieldType.long) (C := RX5) (T := TX5) (N := 5) hx hb hts iw_X5_need_X5 tyX5 tyX5_ok nmX5 hown hK hP hD hS 0 rfl rfl 3 (by decide) (hts _ kk_X5_need_0) (fun _ h9 => h9) rfl (by decide +kernel) rfl rfl (Nat.le_of_ble_eq_true rfl) dX5_need_89 (fun H locs hP hD hS => ?_)
                have hP : va_P (dC, dI) vwCl [(o, Sum.inr (5, [Value.long p1, Value.long p0, Value.long y90, Value.long y91, Value.int 1]))] H := hP
                have hD : va_D A [(o, Sum.inr (5, [Value.long p1, Value.long p0, Value.long y90, Value.long y91, Value.int 1]))] := hD
                have hP9 := hP.sub (ws' := [(o, Sum.inr (5, [Value.long p1, Value.long p0, Value.long y90, Value.long y91, Value.int 1]))]) [0] rfl
                have hD9 := hD.sub (ws' := [(o, Sum.inr (5, [Value.long p1, Value.long p0, Value.long y90, Value.long y91, Value.int 1]))]) [0] (by decide) rfl
                exact W.vret hx hb hr (fun t ht hW => ⟨⟨(), rfl, trivial, p1, p0, y90, y91, 1, (iv.m (by decide)), by rw [ht]; exact hP9, hD9⟩, hS.F ht⟩) hS.2.2 dX5_need_92

set_option maxHeartbeats 4000000 in
set_option maxRecDepth 100000 in
theorem ct_X5_settle (l : Launch) (dC : Nat → ClassId) (dI : Nat → Nat → Nat) (o : Nat) (p0 : Nat) (p1 : Int32) (p2 : Int32) (p3 : Int32) (p4 : Int32) (v_lowUpper : Int64) (v_lowLower : Int64) (v_capUpper : Int64) (v_capLower : Int64) (v_isBroken : Int32) (p0_v_signs : Int32) (p0_v_works : Int32) (p0_v_whole : Int32) (p0_v_otherwise : Int32) (p0_v_least : Int32) (p0_v_rates : Int32) (p0_a_brings : Nat) (p0_a_costs : Nat) (p0_a_chances : Nat) (p0_a_rate : Nat) (p0_a_mark : Nat) (k_p0_a_brings : ClassId) (f_p0_a_brings : Nat → Int32) (k_p0_a_costs : ClassId) (f_p0_a_costs : Nat → Int32) (k_p0_a_chances : ClassId) (R_p0_a_chances : Nat → Nat) (k_p0_a_rate : ClassId) (f_p0_a_rate : Nat → Int32) (k_p0_a_mark : ClassId) (f_p0_a_mark : Nat → Int32) (LP : List Nat) (sh : Nat → Nat) (fp : Nat → va_E) (cI : ClassId) (cJ : ClassId) (CT : Nat → Nat → Int32) (hp1 : iv p1 0 4) (hp2 : iv p2 0 3) (hp0_v_signs : iv p0_v_signs 0 4) (hp0_v_works : iv p0_v_works 0 5) (hp0_v_rates : iv p0_v_rates 1 3) (hf_p0_a_brings : ivf f_p0_a_brings 0 999) (hf_p0_a_costs : ivf f_p0_a_costs 0 99) (hf_p0_a_rate : ivf f_p0_a_rate 0 5) (hf_p0_a_mark : ivf f_p0_a_mark 0 99) (hfp : pok cI cJ LP sh CT fp) (hRR_p0_a_chances : ∀ i : Nat, i < 5 → R_p0_a_chances i ∈ LP ∧ sh (R_p0_a_chances i) = 104) (sz : Nat) : Met l yX5_settle wsX5_settle ({ frames := 3, cells := 0, slots := 0, locals := 60 }) (va_Pc [Value.ref o, Value.ref p0, Value.int p1, Value.int p2, Value.int p3, Value.int p4] (fun U => U.heap.size = sz ∧ va_P (dC, dI) vwCl ([(o, Sum.inr (5, [Value.long v_lowUpper, Value.long v_lowLower, Value.long v_capUpper, Value.long v_capLower, Value.int v_isBroken])), (p0, Sum.inr (3, [Value.int p0_v_signs, Value.int p0_v_works, Value.int p0_v_whole, Value.int p0_v_otherwise, Value.int p0_v_least, Value.int p0_v_rates, Value.ref p0_a_brings, Value.ref p0_a_costs, Value.ref p0_a_chances, Value.ref p0_a_rate, Value.ref p0_a_mark])), (p0_a_brings, Sum.inl (k_p0_a_brings, 4, Sum.inl f_p0_a_brings)), (p0_a_costs, Sum.inl (k_p0_a_costs, 5, Sum.inl f_p0_a_costs)), (p0_a_chances, Sum.inl (k_p0_a_chances, 5, Sum.inr (Sum.inr (Sum.inr (Sum.inr (rows_of 5 R_p0_a_chances)))))), (p0_a_rate, Sum.inl (k_p0_a_rate, 3, Sum.inl f_p0_a_rate)), (p0_a_mark, Sum.inl (k_p0_a_mark, 2, Sum.inl f_p0_a_mark))] ++ va_pl LP fp) U.heap ∧ va_K (dC, dI) vwCl [(k_p0_a_brings, FieldType.int), (k_p0_a_costs, FieldType.int), (k_p0_a_chances, (FieldType.array FieldType.int)), (k_p0_a_rate, FieldType.int), (k_p0_a_mark, FieldType.int), (cI, FieldType.int), (cJ, FieldType.long)] U ∧ va_D (fun _ => True) ([(o, Sum.inr (5, [Value.long v_lowUpper, Value.long v_lowLower, Value.long v_capUpper, Value.long v_capLower, Value.int v_isBroken])), (p0, Sum.inr (3, [Value.int p0_v_signs, Value.int p0_v_works, Value.int p0_v_whole, Value.int p0_v_otherwise, Value.int p0_v_least, Value.int p0_v_rates, Value.ref p0_a_brings, Value.ref p0_a_costs, Value.ref p0_a_chances, Value.ref p0_a_rate, Value.ref p0_a_mark])), (p0_a_brings, Sum.inl (k_p0_a_brings, 4, Sum.inl f_p0_a_brings)), (p0_a_costs, Sum.inl (k_p0_a_costs, 5, Sum.inl f_p0_a_costs)), (p0_a_chances, Sum.inl (k_p0_a_chances, 5, Sum.inr (Sum.inr (Sum.inr (Sum.inr (rows_of 5 R_p0_a_chances)))))), (p0_a_rate, Sum.inl (k_p0_a_rate, 3, Sum.inl f_p0_a_rate)), (p0_a_mark, Sum.inl (k_p0_a_mark, 2, Sum.inl f_p0_a_mark))] ++ va_pl LP fp))) (va_Qi (fun (r u : Int32) => u = r) (fun (r : Int32) t => ∃ (e_v_lowUpper : Int64) (e_v_lowLower : Int64) (e_v_capUpper : Int64) (e_v_capLower : Int64) (e_v_isBroken : Int32), iv e_v_isBroken 0 1 ∧ ((r = 0) ∨ (r = 1)) ∧ va_P (dC, dI) vwCl ([(o, Sum.inr (5, [Value.long e_v_lowUpper, Value.long e_v_lowLower, Value.long e_v_capUpper, Value.long e_v_capLower, Value.int e_v_isBroken])), (p0, Sum.inr (3, [Value.int p0_v_signs, Value.int p0_v_works, Value.int p0_v_whole, Value.int p0_v_otherwise, Value.int p0_v_least, Value.int p0_v_rates, Value.ref p0_a_brings, Value.ref p0_a_costs, Value.ref p0_a_chances, Value.ref p0_a_rate, Value.ref p0_a_mark])), (p0_a_brings, Sum.inl (k_p0_a_brings, 4, Sum.inl f_p0_a_brings)), (p0_a_costs, Sum.inl (k_p0_a_costs, 5, Sum.inl f_p0_a_costs)), (p0_a_chances, Sum.inl (k_p0_a_chances, 5, Sum.inr (Sum.inr (Sum.inr (Sum.inr (rows_of 5 R_p0_a_chances)))))), (p0_a_rate, Sum.inl (k_p0_a_rate, 3, Sum.inl f_p0_a_rate)), (p0_a_mark, Sum.inl (k_p0_a_mark, 2, Sum.inl f_p0_a_mark))] ++ va_pl LP fp) t.heap ∧ va_D (va_A ([(o, Sum.inr (5, [Value.long v_lowUpper, Value.long v_lowLower, Value.long v_capUpper, Value.long v_capLower, Value.int v_isBroken])), (p0, Sum.inr (3, [Value.int p0_v_signs, Value.int p0_v_works, Value.int p0_v_whole, Value.int p0_v_otherwise, Value.int p0_v_least, Value.int p0_v_rates, Value.ref p0_a_brings, Value.ref p0_a_costs, Value.ref p0_a_chances, Value.ref p0_a_rate, Value.ref p0_a_mark])), (p0_a_brings, Sum.inl (k_p0_a_brings, 4, Sum.inl f_p0_a_brings)), (p0_a_costs, Sum.inl (k_p0_a_costs, 5, Sum.inl f_p0_a_costs)), (p0_a_chances, Sum.inl (k_p0_a_chances, 5, Sum.inr (Sum.inr (Sum.inr (Sum.inr (rows_of 5 R_p0_a_chances)))))), (p0_a_rate, Sum.inl (k_p0_a_rate, 3, Sum.inl f_p0_a_rate)), (p0_a_mark, Sum.inl (k_p0_a_mark, 2, Sum.inl f_p0_a_mark))] ++ va_pl LP fp) sz) ([(o, Sum.inr (5, [Value.long e_v_lowUpper, Value.long e_v_lowLower, Value.long e_v_capUpper, Value.long e_v_capLower, Value.int e_v_isBroken])), (p0, Sum.inr (3, [Value.int p0_v_signs, Value.int p0_v_works, Value.int p0_v_whole, Value.int p0_v_otherwise, Value.int p0_v_least, Value.int p0_v_rates, Value.ref p0_a_brings, Value.ref p0_a_costs, Value.ref p0_a_chances, Value.ref p0_a_rate, Value.ref p0_a_mark])), (p0_a_brings, Sum.inl (k_p0_a_brings, 4, Sum.inl f_p0_a_brings)), (p0_a_costs, Sum.inl (k_p0_a_costs, 5, Sum.inl f_p0_a_costs)), (p0_a_chances, Sum.inl (k_p0_a_chances, 5, Sum.inr (Sum.inr (Sum.inr (Sum.inr (rows_of 5 R_p0_a_chances)))))), (p0_a_rate, Sum.inl (k_p0_a_rate, 3, Sum.inl f_p0_a_rate)), (p0_a_mark, Sum.inl (k_p0_a_mark, 2, Sum.inl f_p0_a_mark))] ++ va_pl LP fp)) (va_A ([(o, Sum.inr (5, [Value.long v_lowUpper, Value.long v_lowLower, Value.long v_capUpper, Value.long v_capLower, Value.int v_isBroken])), (p0, Sum.inr (3, [Value.int p0_v_signs, Value.int p0_v_works, Value.int p0_v_whole, Value.int p0_v_otherwise, Value.int p0_v_least, Value.int p0_v_rates, Value.ref p0_a_brings, Value.ref p0_a_costs, Value.ref p0_a_chances, Value.ref p0_a_rate, Value.ref p0_a_mark])), (p0_a_brings, Sum.inl (k_p0_a_brings, 4, Sum.inl f_p0_a_brings)), (p0_a_costs, Sum.inl (k_p0_a_costs, 5, Sum.inl f_p0_a_costs)), (p0_a_chances, Sum.inl (k_p0_a_chances, 5, Sum.inr (Sum.inr (Sum.inr (Sum.inr (rows_of 5 R_p0_a_chances)))))), (p0_a_rate, Sum.inl (k_p0_a_rate, 3, Sum.inl f_p0_a_rate)), (p0_a_mark, Sum.inl (k_p0_a_mark, 2, Sum.inl f_p0_a_mark))] ++ va_pl LP fp) sz)) 0 0 (va_A ([(o, Sum.inr (5, [Value.long v_lowUpper, Value.long v_lowLower, Value.long v_capUpper, Value.long v_capLower, Value.int v_isBroken])), (p0, Sum.inr (3, [Value.int p0_v_signs, Value.int p0_v_works, Value.int p0_v_whole, Value.int p0_v_otherwise, Value.int p0_v_least, Value.int p0_v_rates, Value.ref p0_a_brings, Value.ref p0_a_costs, Value.ref p0_a_chances, Value.ref p0_a_rate, Value.ref p0_a_mark])), (p0_a_brings, Sum.inl (k_p0_a_brings, 4, Sum.inl f_p0_a_brings)), (p0_a_costs, Sum.inl (k_p0_a_costs, 5, Sum.inl f_p0_a_costs)), (p0_a_chances, Sum.inl (k_p0_a_chances, 5, Sum.inr (Sum.inr (Sum.inr (Sum.inr (rows_of 5 R_p0_a_chances)))))), (p0_a_rate, Sum.inl (k_p0_a_rate, 3, Sum.inl f_p0_a_rate)), (p0_a_mark, Sum.inl (k_p0_a_mark, 2, Sum.inl f_p0_a_mark))] ++ va_pl LP fp) sz) := by
  refine Met.ofW (cc := cX5_settle) (maxL := 9) (ret := (some .boolean)) pn_X5 rfl ?_
  intro p e s m args below meth c s₁ B hml hv
  obtain ⟨rfl, hsz, hP, hK, hD0⟩ := hv
  have hx := B.exec
  have hb := B.bytes
  have hr := B.returns
  have hts := atoms_spec (ws := wsX5_settle) B.pre
  have hown : s.vm.findClass RX5 = some m.cls := findClass_of_methodNamed B.named
  have hlocks := B.notSynchronized
  subst hsz
  have hD := hD0.self (sz := s.heap.size)
  generalize hAe : va_A ([(o, Sum.inr (5, [Value.long v_lowUpper, Value.long v_lowLower, Value.long v_capUpper, Value.long v_capLower, Value.int v_isBroken])), (p0, Sum.inr (3, [Value.int p0_v_signs, Value.int p0_v_works, Value.int p0_v_whole, Value.int p0_v_otherwise, Value.int p0_v_least, Value.int p0_v_rates, Value.ref p0_a_brings, Value.ref p0_a_costs, Value.ref p0_a_chances, Value.ref p0_a_rate, Value.ref p0_a_mark])), (p0_a_brings, Sum.inl (k_p0_a_brings, 4, Sum.inl f_p0_a_brings)), (p0_a_costs, Sum.inl (k_p0_a_costs, 5, Sum.inl f_p0_a_costs)), (p0_a_chances, Sum.inl (k_p0_a_chances, 5, Sum.inr (Sum.inr (Sum.inr (Sum.inr (rows_of 5 R_p0_a_chances)))))), (p0_a_rate, Sum.inl (k_p0_a_rate, 3, Sum.inl f_p0_a_rate)), (p0_a_mark, Sum.inl (k_p0_a_mark, 2, Sum.inl f_p0_a_mark))] ++ va_pl LP fp) s.heap.size = A at hD ⊢
  have hA : ∀ q : Nat, s.heap.size ≤ q → A q := fun q h => by rw [← hAe]; exact Or.inr h
  have hS : va_S A s.heap s.heap [] := va_S.rf
  have hP : va_P (dC, dI) vwCl ([(o, Sum.inr (5, [Value.long v_lowUpper, Value.long v_lowLower, Value.long v_capUpper, Value.long v_capLower, Value.int v_isBroken])), (p0, Sum.inr (3, [Value.int p0_v_signs, Value.int p0_v_works, Value.int p0_v_whole, Value.int p0_v_otherwise, Value.int p0_v_least, Value.int p0_v_rates, Value.ref p0_a_brings, Value.ref p0_a_costs, Value.ref p0_a_chances, Value.ref p0_a_rate, Value.ref p0_a_mark])), (p0_a_brings, Sum.inl (k_p0_a_brings, 4, Sum.inl f_p0_a_brings)), (p0_a_costs, Sum.inl (k_p0_a_costs, 5, Sum.inl f_p0_a_costs)), (p0_a_chances, Sum.inl (k_p0_a_chances, 5, Sum.inr (Sum.inr (Sum.inr (Sum.inr (rows_of 5 R_p0_a_chances)))))), (p0_a_rate, Sum.inl (k_p0_a_rate, 3, Sum.inl f_p0_a_rate)), (p0_a_mark, Sum.inl (k_p0_a_mark, 2, Sum.inl f_p0_a_mark))] ++ va_pl LP fp) s.heap := hP
  have hl := lv_entry ([Value.ref o, Value.ref p0, Value.int p1, Value.int p2, Value.int p3, Value.int p4]) (n := 9) (Nat.le_of_ble_eq_true rfl)
  rw [lg_entry_eq]
  generalize (lg_sl ([Value.ref o, Value.ref p0, Value.int p1, Value.int p2, Value.int p3, Value.int p4]) ++ List.replicate (9 - (lg_sl ([Value.ref o, Value.ref p0, Value.int p1, Value.int p2, Value.int p3, Value.int p4])).length) Slot.unset).toArray = ls at hl ⊢
  have hl : lv_has ls 9 [(0, Value.ref o), (1, Value.ref p0), (2, Value.int p1), (3, Value.int p2), (4, Value.int p3), (5, Value.int p4)] := hl
  refine lv_aload_n hx hb dX5_settle_0 rfl (lv_at hl 0 rfl) ?_
  have hPc := hP.sub (ws' := [(o, Sum.inr (5, [Value.long v_lowUpper, Value.long v_lowLower, Value.long v_capUpper, Value.long v_capLower, Value.int v_isBroken]))]) [0] rfl
  have hDc := hD.sub (ws' := [(o, Sum.inr (5, [Value.long v_lowUpper, Value.long v_lowLower, Value.long v_capUpper, Value.long v_capLower, Value.int v_isBroken]))]) [0] (by decide) rfl
  have hKc := hK.sub (tys' := []) [] rfl
  have hFc := va_free (wc := [(o, Sum.inr (5, [Value.long v_lowUpper, Value.long v_lowLower, Value.long v_capUpper, Value.long v_capLower, Value.int v_isBroken]))]) hD hS hA [0] rfl
  refine va_callv (va_runV (As := []) (rest := []) ⟨hx, hb, hml, hown, hts⟩ (ct_X5_start l dC dI o v_lowUpper v_lowLower v_capUpper v_capLower v_isBroken s.heap.size) (cwV 0 hts gX5_settle_X5_start rfl rfl rfl ⟨rfl, cn_X5.1, cn_X5.2, ds_7⟩ ⟨Nat.le_of_ble_eq_true rfl, Nat.le_of_ble_eq_true rfl⟩) ⟨fun a U g mk q => by obtain ⟨q0, q1, qP, qK, qD⟩ := q; exact ⟨q0, q1, qP, va_K.moved (u := U) (U := U.calling g mk a) (Vm.Alike.refl U.vm) qK, qD⟩, va_recv hKc hPc (ci := 5) (q0 := 0) rfl rfl, fun U hU hW => ⟨rfl, by rw [hU], by rw [hU]; exact hPc, va_K.moved hW.alike hKc, hDc.weaken (fun _ _ _ _ => trivial)⟩⟩ rfl rfl hl.1 rfl (lv_room (Nat.le_of_ble_eq_true rfl)) dX5_settle_1 ⟨Nat.le_of_ble_eq_true rfl, Nat.le_of_ble_eq_true rfl⟩) hS (fun q _ h => hFc q h) hFc (fun u t H1 locs ht hvm hw hB hz1 hk1 hS => ?_)
  obtain ⟨hP1, hD1⟩ := hB
  rw [ht] at hP1
  obtain ⟨hP, hD⟩ := va_joinQ (X := [(o, Sum.inr (5, [Value.long v_lowUpper, Value.long v_lowLower, Value.long v_capUpper, Value.long v_capLower, Value.int v_isBroken])), (p0, Sum.inr (3, [Value.int p0_v_signs, Value.int p0_v_works, Value.int p0_v_whole, Value.int p0_v_otherwise, Value.int p0_v_least, Value.int p0_v_rates, Value.ref p0_a_brings, Value.ref p0_a_costs, Value.ref p0_a_chances, Value.ref p0_a_rate, Value.ref p0_a_mark])), (p0_a_brings, Sum.inl (k_p0_a_brings, 4, Sum.inl f_p0_a_brings)), (p0_a_costs, Sum.inl (k_p0_a_costs, 5, Sum.inl f_p0_a_costs)), (p0_a_chances, Sum.inl (k_p0_a_chances, 5, Sum.inr (Sum.inr (Sum.inr (Sum.inr (rows_of 5 R_p0_a_chances)))))), (p0_a_rate, Sum.inl (k_p0_a_rate, 3, Sum.inl f_p0_a_rate)), (p0_a_mark, Sum.inl (k_p0_a_mark, 2, Sum.inl f_p0_a_mark))]) (cx := [(o, Sum.inr (5, [Value.long v_lowUpper, Value.long v_lowLower, Value.long v_capUpper, Value.long v_capLower, Value.int v_isBroken]))]) (wr := [(p0, Sum.inr (3, [Value.int p0_v_signs, Value.int p0_v_works, Value.int p0_v_whole, Value.int p0_v_otherwise, Value.int p0_v_least, Value.int p0_v_rates, Value.ref p0_a_brings, Value.ref p0_a_costs, Value.ref p0_a_chances, Value.ref p0_a_rate, Value.ref p0_a_mark])), (p0_a_brings, Sum.inl (k_p0_a_brings, 4, Sum.inl f_p0_a_brings)), (p0_a_costs, Sum.inl (k_p0_a_costs, 5, Sum.inl f_p0_a_costs)), (p0_a_chances, Sum.inl (k_p0_a_chances, 5, Sum.inr (Sum.inr (Sum.inr (Sum.inr (rows_of 5 R_p0_a_chances)))))), (p0_a_rate, Sum.inl (k_p0_a_rate, 3, Sum.inl f_p0_a_rate)), (p0_a_mark, Sum.inl (k_p0_a_mark, 2, Sum.inl f_p0_a_mark))]) (w1 := [(o, Sum.inr (5, [Value.long 0, Value.long 1, Value.long 0, Value.long 0, Value.int 0]))]) hP hD [0] [1, 2, 3, 4, 5, 6] rfl rfl (by decide) (by decide) hk1 hFc hP1 hD1
  clear hPc hDc hKc hFc hP1 hD1 hk1 hz1
  generalize H1 = H at hP hS ⊢
  have hP : va_P (dC, dI) vwCl ([(p0, Sum.inr (3, [Value.int p0_v_signs, Value.int p0_v_works, Value.int p0_v_whole, Value.int p0_v_otherwise, Value.int p0_v_least, Value.int p0_v_rates, Value.ref p0_a_brings, Value.ref p0_a_costs, Value.ref p0_a_chances, Value.ref p0_a_rate, Value.ref p0_a_mark])), (p0_a_brings, Sum.inl (k_p0_a_brings, 4, Sum.inl f_p0_a_brings)), (p0_a_costs, Sum.inl (k_p0_a_costs, 5, Sum.inl f_p0_a_costs)), (p0_a_chances, Sum.inl (k_p0_a_chances, 5, Sum.inr (Sum.inr (Sum.inr (Sum.inr (rows_of 5 R_p0_a_chances)))))), (p0_a_rate, Sum.inl (k_p0_a_rate, 3, Sum.inl f_p0_a_rate)), (p0_a_mark, Sum.inl (k_p0_a_mark, 2, Sum.inl f_p0_a_mark)), (o, Sum.inr (5, [Value.long 0, Value.long 1, Value.long 0, Value.long 0, Value.int 0]))] ++ va_pl LP fp) H := hP
  have hD : va_D A ([(p0, Sum.inr (3, [Value.int p0_v_signs, Value.int p0_v_works, Value.int p0_v_whole, Value.int p0_v_otherwise, Value.int p0_v_least, Value.int p0_v_rates, Value.ref p0_a_brings, Value.ref p0_a_costs, Value.ref p0_a_chances, Value.ref p0_a_rate, Value.ref p0_a_mark])), (p0_a_brings, Sum.inl (k_p0_a_brings, 4, Sum.inl f_p0_a_brings)), (p0_a_costs, Sum.inl (k_p0_a_costs, 5, Sum.inl f_p0_a_costs)), (p0_a_chances, Sum.inl (k_p0_a_chances, 5, Sum.inr (Sum.inr (Sum.inr (Sum.inr (rows_of 5 R_p0_a_chances)))))), (p0_a_rate, Sum.inl (k_p0_a_rate, 3, Sum.inl f_p0_a_rate)), (p0_a_mark, Sum.inl (k_p0_a_mark, 2, Sum.inl f_p0_a_mark)), (o, Sum.inr (5, [Value.long 0, Value.long 1, Value.long 0, Value.long 0, Value.int 0]))] ++ va_pl LP fp) := hD
  refine W.widen (k := 0) (n := 0) (by decide) (by decide) ?_
  refine lv_aload_n hx hb dX5_settle_4 rfl (lv_at hl 1 rfl) ?_
  refine lv_iload_n hx hb dX5_settle_5 rfl (lv_at hl 2 rfl) ?_
  refine lv_iload_n hx hb dX5_settle_6 rfl (lv_at hl 3 rfl) ?_
  have hPc := hP.part (cx := [(p0, Sum.inr (3, [Value.int p0_v_signs, Value.int p0_v_works, Value.int p0_v_whole, Value.int p0_v_otherwise, Value.int p0_v_least, Value.int p0_v_rates, Value.ref p0_a_brings, Value.ref p0_a_costs, Value.ref p0_a_chances, Value.ref p0_a_rate, Value.ref p0_a_mark])), (p0_a_brings, Sum.inl (k_p0_a_brings, 4, Sum.inl f_p0_a_brings)), (p0_a_chances, Sum.inl (k_p0_a_chances, 5, Sum.inr (Sum.inr (Sum.inr (Sum.inr (rows_of 5 R_p0_a_chances))))))]) [0, 1, 3] rfl
  have hDc := hD.part (cx := [(p0, Sum.inr (3, [Value.int p0_v_signs, Value.int p0_v_works, Value.int p0_v_whole, Value.int p0_v_otherwise, Value.int p0_v_least, Value.int p0_v_rates, Value.ref p0_a_brings, Value.ref p0_a_costs, Value.ref p0_a_chances, Value.ref p0_a_rate, Value.ref p0_a_mark])), (p0_a_brings, Sum.inl (k_p0_a_brings, 4, Sum.inl f_p0_a_brings)), (p0_a_chances, Sum.inl (k_p0_a_chances, 5, Sum.inr (Sum.inr (Sum.inr (Sum.inr (rows_of 5 R_p0_a_chances))))))]) [0, 1, 3] (by decide) rfl
  have hKc := hK.sub (tys' := [(k_p0_a_brings, FieldType.int), (k_p0_a_chances, (FieldType.array FieldType.int)), (cI, FieldType.int), (cJ, FieldType.long)]) [0, 2, 5, 6] rfl
  have hFc := va_freeP (cx := [(p0, Sum.inr (3, [Value.int p0_v_signs, Value.int p0_v_works, Value.int p0_v_whole, Value.int p0_v_otherwise, Value.int p0_v_least, Value.int p0_v_rates, Value.ref p0_a_brings, Value.ref p0_a_costs, Value.ref p0_a_chances, Value.ref p0_a_rate, Value.ref p0_a_mark])), (p0_a_brings, Sum.inl (k_p0_a_brings, 4, Sum.inl f_p0_a_brings)), (p0_a_chances, Sum.inl (k_p0_a_chances, 5, Sum.inr (Sum.inr (Sum.inr (Sum.inr (rows_of 5 R_p0_a_chances))))))]) hD hS hA [0, 1, 3] rfl
  refine va_calli (va_runV (As := [Value.int p1, Value.int p2]) (rest := []) ⟨hx, hb, hml, hown, hts⟩ (ct_X3_chanceFrom l dC dI p0 p1 p2 p0_v_signs p0_v_works p0_v_whole p0_v_otherwise p0_v_least p0_v_rates p0_a_brings p0_a_costs p0_a_chances p0_a_rate p0_a_mark k_p0_a_brings f_p0_a_brings k_p0_a_chances R_p0_a_chances LP sh fp cI cJ CT hp1 hp2 hp0_v_signs hf_p0_a_brings hfp hRR_p0_a_chances H.size) (cwV 2 hts gX5_settle_X3_chanceFrom rfl rfl rfl ⟨rfl, cn_X3.1, cn_X3.2, ds_9⟩ ⟨Nat.le_of_ble_eq_true rfl, Nat.le_of_ble_eq_true rfl⟩) ⟨fun a U g mk q => by obtain ⟨q0, q1, qP, qK, qD⟩ := q; exact ⟨q0, q1, qP, va_K.moved (u := U) (U := U.calling g mk a) (Vm.Alike.refl U.vm) qK, qD⟩, va_recv hKc hPc (ci := 3) (q0 := 0) rfl rfl, fun U hU hW => ⟨rfl, by rw [hU], by rw [hU]; exact hPc, va_K.moved hW.alike hKc, hDc.weaken (fun _ _ _ _ => trivial)⟩⟩ rfl rfl hl.1 rfl (lv_room (Nat.le_of_ble_eq_true rfl)) dX5_settle_7 ⟨Nat.le_of_ble_eq_true rfl, Nat.le_of_ble_eq_true rfl⟩) hS (fun q _ h => hFc q h) hFc (fun r2 u t H1 locs ht hvm hw hB hz1 hk1 hS => ?_)
  have hw : r2 = u := hw.symm
  subst hw
  obtain ⟨hP1, hD1⟩ := hB
  rw [ht] at hP1
  obtain ⟨hP, hD⟩ := va_joinP (X := [(p0, Sum.inr (3, [Value.int p0_v_signs, Value.int p0_v_works, Value.int p0_v_whole, Value.int p0_v_otherwise, Value.int p0_v_least, Value.int p0_v_rates, Value.ref p0_a_brings, Value.ref p0_a_costs, Value.ref p0_a_chances, Value.ref p0_a_rate, Value.ref p0_a_mark])), (p0_a_brings, Sum.inl (k_p0_a_brings, 4, Sum.inl f_p0_a_brings)), (p0_a_costs, Sum.inl (k_p0_a_costs, 5, Sum.inl f_p0_a_costs)), (p0_a_chances, Sum.inl (k_p0_a_chances, 5, Sum.inr (Sum.inr (Sum.inr (Sum.inr (rows_of 5 R_p0_a_chances)))))), (p0_a_rate, Sum.inl (k_p0_a_rate, 3, Sum.inl f_p0_a_rate)), (p0_a_mark, Sum.inl (k_p0_a_mark, 2, Sum.inl f_p0_a_mark)), (o, Sum.inr (5, [Value.long 0, Value.long 1, Value.long 0, Value.long 0, Value.int 0]))]) (cx := [(p0, Sum.inr (3, [Value.int p0_v_signs, Value.int p0_v_works, Value.int p0_v_whole, Value.int p0_v_otherwise, Value.int p0_v_least, Value.int p0_v_rates, Value.ref p0_a_brings, Value.ref p0_a_costs, Value.ref p0_a_chances, Value.ref p0_a_rate, Value.ref p0_a_mark])), (p0_a_brings, Sum.inl (k_p0_a_brings, 4, Sum.inl f_p0_a_brings)), (p0_a_chances, Sum.inl (k_p0_a_chances, 5, Sum.inr (Sum.inr (Sum.inr (Sum.inr (rows_of 5 R_p0_a_chances))))))]) (wr := [(p0_a_costs, Sum.inl (k_p0_a_costs, 5, Sum.inl f_p0_a_costs)), (p0_a_rate, Sum.inl (k_p0_a_rate, 3, Sum.inl f_p0_a_rate)), (p0_a_mark, Sum.inl (k_p0_a_mark, 2, Sum.inl f_p0_a_mark)), (o, Sum.inr (5, [Value.long 0, Value.long 1, Value.long 0, Value.long 0, Value.int 0]))]) (rx := [(p0, Sum.inr (3, [Value.int p0_v_signs, Value.int p0_v_works, Value.int p0_v_whole, Value.int p0_v_otherwise, Value.int p0_v_least, Value.int p0_v_rates, Value.ref p0_a_brings, Value.ref p0_a_costs, Value.ref p0_a_chances, Value.ref p0_a_rate, Value.ref p0_a_mark])), (p0_a_brings, Sum.inl (k_p0_a_brings, 4, Sum.inl f_p0_a_brings)), (p0_a_chances, Sum.inl (k_p0_a_chances, 5, Sum.inr (Sum.inr (Sum.inr (Sum.inr (rows_of 5 R_p0_a_chances))))))]) hP hD [0, 1, 3] [2, 4, 5, 6] rfl rfl (by decide) (by decide) hk1 hFc hP1 hD1
  clear hPc hDc hKc hFc hP1 hD1 hk1 hz1
  generalize H1 = H at hP hS ⊢
  have hP : va_P (dC, dI) vwCl ([(p0_a_costs, Sum.inl (k_p0_a_costs, 5, Sum.inl f_p0_a_costs)), (p0_a_rate, Sum.inl (k_p0_a_rate, 3, Sum.inl f_p0_a_rate)), (p0_a_mark, Sum.inl (k_p0_a_mark, 2, Sum.inl f_p0_a_mark)), (o, Sum.inr (5, [Value.long 0, Value.long 1, Value.long 0, Value.long 0, Value.int 0])), (p0, Sum.inr (3, [Value.int p0_v_signs, Value.int p0_v_works, Value.int p0_v_whole, Value.int p0_v_otherwise, Value.int p0_v_least, Value.int p0_v_rates, Value.ref p0_a_brings, Value.ref p0_a_costs, Value.ref p0_a_chances, Value.ref p0_a_rate, Value.ref p0_a_mark])), (p0_a_brings, Sum.inl (k_p0_a_brings, 4, Sum.inl f_p0_a_brings)), (p0_a_chances, Sum.inl (k_p0_a_chances, 5, Sum.inr (Sum.inr (Sum.inr (Sum.inr (rows_of 5 R_p0_a_chances))))))] ++ va_pl LP fp) H := hP
  have hD : va_D A ([(p0_a_costs, Sum.inl (k_p0_a_costs, 5, Sum.inl f_p0_a_costs)), (p0_a_rate, Sum.inl (k_p0_a_rate, 3, Sum.inl f_p0_a_rate)), (p0_a_mark, Sum.inl (k_p0_a_mark, 2, Sum.inl f_p0_a_mark)), (o, Sum.inr (5, [Value.long 0, Value.long 1, Value.long 0, Value.long 0, Value.int 0])), (p0, Sum.inr (3, [Value.int p0_v_signs, Value.int p0_v_works, Value.int p0_v_whole, Value.int p0_v_otherwise, Value.int p0_v_least, Value.int p0_v_rates, Value.ref p0_a_brings, Value.ref p0_a_costs, Value.ref p0_a_chances, Value.ref p0_a_rate, Value.ref p0_a_mark])), (p0_a_brings, Sum.inl (k_p0_a_brings, 4, Sum.inl f_p0_a_brings)), (p0_a_chances, Sum.inl (k_p0_a_chances, 5, Sum.inr (Sum.inr (Sum.inr (Sum.inr (rows_of 5 R_p0_a_chances))))))] ++ va_pl LP fp) := hD
  refine W.widen (k := 0) (n := 0) (by decide) (by decide) ?_
  refine lv_istore (lv' := [(6, Value.int r2), (0, Value.ref o), (1, Value.ref p0), (2, Value.int p1), (3, Value.int p2), (4, Value.int p3), (5, Value.int p4)]) hx hb dX5_settle_10 hl (by decide) rfl (fun ls hl => ?_)
  refine lv_iconst (v := 0) hx hb dX5_settle_12 (by decide) ?_
  refine lv_istore (lv' := [(7, Value.int 0), (6, Value.int r2), (0, Value.ref o), (1, Value.ref p0), (2, Value.int p1), (3, Value.int p2), (4, Value.int p3), (5, Value.int p4)]) hx hb dX5_settle_13 hl (by decide) rfl (fun ls hl => ?_)
  refine tl_loop (I := fun nn H locs ls => ∃ (v3 : Int32) (v4 : Int64) (v5 : Int64) (v6 : Int64) (v7 : Int64) (v8 : Int32), nn = (5 - v3.toInt).toNat ∧ iv v3 0 5 ∧ iv v8 0 1 ∧  va_P (dC, dI) vwCl ([(p0_a_costs, Sum.inl (k_p0_a_costs, 5, Sum.inl f_p0_a_costs)), (p0_a_rate, Sum.inl (k_p0_a_rate, 3, Sum.inl f_p0_a_rate)), (p0_a_mark, Sum.inl (k_p0_a_mark, 2, Sum.inl f_p0_a_mark)), (o, Sum.inr (5, [Value.long v4, Value.long v5, Value.long v6, Value.long v7, Value.int v8])), (p0, Sum.inr (3, [Value.int p0_v_signs, Value.int p0_v_works, Value.int p0_v_whole, Value.int p0_v_otherwise, Value.int p0_v_least, Value.int p0_v_rates, Value.ref p0_a_brings, Value.ref p0_a_costs, Value.ref p0_a_chances, Value.ref p0_a_rate, Value.ref p0_a_mark])), (p0_a_brings, Sum.inl (k_p0_a_brings, 4, Sum.inl f_p0_a_brings)), (p0_a_chances, Sum.inl (k_p0_a_chances, 5, Sum.inr (Sum.inr (Sum.inr (Sum.inr (rows_of 5 R_p0_a_chances))))))] ++ va_pl LP fp) H ∧ va_D A ([(p0_a_costs, Sum.inl (k_p0_a_costs, 5, Sum.inl f_p0_a_costs)), (p0_a_rate, Sum.inl (k_p0_a_rate, 3, Sum.inl f_p0_a_rate)), (p0_a_mark, Sum.inl (k_p0_a_mark, 2, Sum.inl f_p0_a_mark)), (o, Sum.inr (5, [Value.long v4, Value.long v5, Value.long v6, Value.long v7, Value.int v8])), (p0, Sum.inr (3, [Value.int p0_v_signs, Value.int p0_v_works, Value.int p0_v_whole, Value.int p0_v_otherwise, Value.int p0_v_least, Value.int p0_v_rates, Value.ref p0_a_brings, Value.ref p0_a_costs, Value.ref p0_a_chances, Value.ref p0_a_rate, Value.ref p0_a_mark])), (p0_a_brings, Sum.inl (k_p0_a_brings, 4, Sum.inl f_p0_a_brings)), (p0_a_chances, Sum.inl (k_p0_a_chances, 5, Sum.inr (Sum.inr (Sum.inr (Sum.inr (rows_of 5 R_p0_a_chances))))))] ++ va_pl LP fp) ∧ va_S A s.heap H locs ∧ lv_has ls 9 [(7, Value.int v3), (6, Value.int r2), (0, Value.ref o), (1, Value.ref p0), (2, Value.int p1), (3, Value.int p2), (4, Value.int p3), (5, Value.int p4)]) ?_ ⟨0, 0, 1, 0, 0, 0, rfl, (iv.m (by decide)), (iv.m (by decide)), hP, hD, hS, lv_sub hl [0, 1, 2, 3, 4, 5, 6, 7] rfl⟩
  clear hP hD hS hl
  intro nn15 H locs ls hI ih15
  obtain ⟨v3, v4, v5, v6, v7, v8, hn15, hv3, hv8, hP, hD, hS, hl⟩ := hI
  have bv3 := hv3.u
  refine lv_iload hx hb dX5_settle_15 (lv_at hl 0 rfl) ?_
  refine lv_aload_n hx hb dX5_settle_17 rfl (lv_at hl 3 rfl) ?_
  refine va_get (D := (dC, dI)) (ci := 3) (v := Value.int p0_v_works) (C := RX3) (T := TX3) (N := 11) hx hb hts iw_X5_settle_X3 hown hK hP 4 rfl rfl 1 (by decide) (hts _ kk_X5_settle_0) (fun _ h9 => h9) rfl dX5_settle_18 ?_
  have bp0_v_works := hp0_v_works.u
  refine lv_icmp_ge (tgt := 75) hx hb dX5_settle_21 (by decide) (fun c9 => ?_) (fun c9 => ?_)
  · have c99 := i32_le c9 rfl rfl
    refine lv_aload_n hx hb dX5_settle_75 rfl (lv_at hl 2 rfl) ?_
    have hPc := hP.sub (ws' := [(o, Sum.inr (5, [Value.long v4, Value.long v5, Value.long v6, Value.long v7, Value.int v8]))]) [3] rfl
    have hDc := hD.sub (ws' := [(o, Sum.inr (5, [Value.long v4, Value.long v5, Value.long v6, Value.long v7, Value.int v8]))]) [3] (by decide) rfl
    have hKc := hK.sub (tys' := []) [] rfl
    have hFc := va_free (wc := [(o, Sum.inr (5, [Value.long v4, Value.long v5, Value.long v6, Value.long v7, Value.int v8]))]) hD hS hA [3] rfl
    refine va_calli (va_runV (As := []) (rest := []) ⟨hx, hb, hml, hown, hts⟩ (ct_X5_isMet l dC dI o v4 v5 v6 v7 v8 hv8 H.size) (cwV 0 hts gX5_settle_X5_isMet rfl rfl rfl ⟨rfl, cn_X5.1, cn_X5.2, ds_25⟩ ⟨Nat.le_of_ble_eq_true rfl, Nat.le_of_ble_eq_true rfl⟩) ⟨fun a U g mk q => by obtain ⟨q0, q1, qP, qK, qD⟩ := q; exact ⟨q0, q1, qP, va_K.moved (u := U) (U := U.calling g mk a) (Vm.Alike.refl U.vm) qK, qD⟩, va_recv hKc hPc (ci := 5) (q0 := 0) rfl rfl, fun U hU hW => ⟨rfl, by rw [hU], by rw [hU]; exact hPc, va_K.moved hW.alike hKc, hDc.weaken (fun _ _ _ _ => trivial)⟩⟩ rfl rfl hl.1 rfl (lv_room (Nat.le_of_ble_eq_true rfl)) dX5_settle_76 ⟨Nat.le_of_ble_eq_true rfl, Nat.le_of_ble_eq_true rfl⟩) hS (fun q _ h => hFc q h) hFc (fun r10 u t H1 locs ht hvm hw hB hz1 hk1 hS => ?_)
    have hw : r10 = u := hw.symm
    subst hw
    obtain ⟨w11, hP1, hD1⟩ := hB
    rw [ht] at hP1
    obtain ⟨hP, hD⟩ := va_joinQ (X := [(p0_a_costs, Sum.inl (k_p0_a_costs, 5, Sum.inl f_p0_a_costs)), (p0_a_rate, Sum.inl (k_p0_a_rate, 3, Sum.inl f_p0_a_rate)), (p0_a_mark, Sum.inl (k_p0_a_mark, 2, Sum.inl f_p0_a_mark)), (o, Sum.inr (5, [Value.long v4, Value.long v5, Value.long v6, Value.long v7, Value.int v8])), (p0, Sum.inr (3, [Value.int p0_v_signs, Value.int p0_v_works, Value.int p0_v_whole, Value.int p0_v_otherwise, Value.int p0_v_least, Value.int p0_v_rates, Value.ref p0_a_brings, Value.ref p0_a_costs, Value.ref p0_a_chances, Value.ref p0_a_rate, Value.ref p0_a_mark])), (p0_a_brings, Sum.inl (k_p0_a_brings, 4, Sum.inl f_p0_a_brings)), (p0_a_chances, Sum.inl (k_p0_a_chances, 5, Sum.inr (Sum.inr (Sum.inr (Sum.inr (rows_of 5 R_p0_a_chances))))))]) (cx := [(o, Sum.inr (5, [Value.long v4, Value.long v5, Value.long v6, Value.long v7, Value.int v8]))]) (wr := [(p0_a_costs, Sum.inl (k_p0_a_costs, 5, Sum.inl f_p0_a_costs)), (p0_a_rate, Sum.inl (k_p0_a_rate, 3, Sum.inl f_p0_a_rate)), (p0_a_mark, Sum.inl (k_p0_a_mark, 2, Sum.inl f_p0_a_mark)), (p0, Sum.inr (3, [Value.int p0_v_signs, Value.int p0_v_works, Value.int p0_v_whole, Value.int p0_v_otherwise, Value.int p0_v_least, Value.int p0_v_rates, Value.ref p0_a_brings, Value.ref p0_a_costs, Value.ref p0_a_chances, Value.ref p0_a_rate, Value.ref p0_a_mark])), (p0_a_brings, Sum.inl (k_p0_a_brings, 4, Sum.inl f_p0_a_brings)), (p0_a_chances, Sum.inl (k_p0_a_chances, 5, Sum.inr (Sum.inr (Sum.inr (Sum.inr (rows_of 5 R_p0_a_chances))))))]) (w1 := [(o, Sum.inr (5, [Value.long v4, Value.long v5, Value.long v6, Value.long v7, Value.int v8]))]) hP hD [3] [0, 1, 2, 4, 5, 6] rfl rfl (by decide) (by decide) hk1 hFc hP1 hD1
    clear hPc hDc hKc hFc hP1 hD1 hk1 hz1
    generalize H1 = H at hP hS ⊢
    have hP : va_P (dC, dI) vwCl ([(p0_a_costs, Sum.inl (k_p0_a_costs, 5, Sum.inl f_p0_a_costs)), (p0_a_rate, Sum.inl (k_p0_a_rate, 3, Sum.inl f_p0_a_rate)), (p0_a_mark, Sum.inl (k_p0_a_mark, 2, Sum.inl f_p0_a_mark)), (p0, Sum.inr (3, [Value.int p0_v_signs, Value.int p0_v_works, Value.int p0_v_whole, Value.int p0_v_otherwise, Value.int p0_v_least, Value.int p0_v_rates, Value.ref p0_a_brings, Value.ref p0_a_costs, Value.ref p0_a_chances, Value.ref p0_a_rate, Value.ref p0_a_mark])), (p0_a_brings, Sum.inl (k_p0_a_brings, 4, Sum.inl f_p0_a_brings)), (p0_a_chances, Sum.inl (k_p0_a_chances, 5, Sum.inr (Sum.inr (Sum.inr (Sum.inr (rows_of 5 R_p0_a_chances)))))), (o, Sum.inr (5, [Value.long v4, Value.long v5, Value.long v6, Value.long v7, Value.int v8]))] ++ va_pl LP fp) H := hP
    have hD : va_D A ([(p0_a_costs, Sum.inl (k_p0_a_costs, 5, Sum.inl f_p0_a_costs)), (p0_a_rate, Sum.inl (k_p0_a_rate, 3, Sum.inl f_p0_a_rate)), (p0_a_mark, Sum.inl (k_p0_a_mark, 2, Sum.inl f_p0_a_mark)), (p0, Sum.inr (3, [Value.int p0_v_signs, Value.int p0_v_works, Value.int p0_v_whole, Value.int p0_v_otherwise, Value.int p0_v_least, Value.int p0_v_rates, Value.ref p0_a_brings, Value.ref p0_a_costs, Value.ref p0_a_chances, Value.ref p0_a_rate, Value.ref p0_a_mark])), (p0_a_brings, Sum.inl (k_p0_a_brings, 4, Sum.inl f_p0_a_brings)), (p0_a_chances, Sum.inl (k_p0_a_chances, 5, Sum.inr (Sum.inr (Sum.inr (Sum.inr (rows_of 5 R_p0_a_chances)))))), (o, Sum.inr (5, [Value.long v4, Value.long v5, Value.long v6, Value.long v7, Value.int v8]))] ++ va_pl LP fp) := hD
    refine W.widen (k := 0) (n := 0) (by decide) (by decide) ?_
    rcases w11 with hr9 | hr9
    · subst hr9
      have hP9 := hP.part (cx := [(o, Sum.inr (5, [Value.long v4, Value.long v5, Value.long v6, Value.long v7, Value.int v8])), (p0, Sum.inr (3, [Value.int p0_v_signs, Value.int p0_v_works, Value.int p0_v_whole, Value.int p0_v_otherwise, Value.int p0_v_least, Value.int p0_v_rates, Value.ref p0_a_brings, Value.ref p0_a_costs, Value.ref p0_a_chances, Value.ref p0_a_rate, Value.ref p0_a_mark])), (p0_a_brings, Sum.inl (k_p0_a_brings, 4, Sum.inl f_p0_a_brings)), (p0_a_costs, Sum.inl (k_p0_a_costs, 5, Sum.inl f_p0_a_costs)), (p0_a_chances, Sum.inl (k_p0_a_chances, 5, Sum.inr (Sum.inr (Sum.inr (Sum.inr (rows_of 5 R_p0_a_chances)))))), (p0_a_rate, Sum.inl (k_p0_a_rate, 3, Sum.inl f_p0_a_rate)), (p0_a_mark, Sum.inl (k_p0_a_mark, 2, Sum.inl f_p0_a_mark))]) [6, 3, 4, 0, 5, 1, 2] rfl
      have hD9 := hD.part (cx := [(o, Sum.inr (5, [Value.long v4, Value.long v5, Value.long v6, Value.long v7, Value.int v8])), (p0, Sum.inr (3, [Value.int p0_v_signs, Value.int p0_v_works, Value.int p0_v_whole, Value.int p0_v_otherwise, Value.int p0_v_least, Value.int p0_v_rates, Value.ref p0_a_brings, Value.ref p0_a_costs, Value.ref p0_a_chances, Value.ref p0_a_rate, Value.ref p0_a_mark])), (p0_a_brings, Sum.inl (k_p0_a_brings, 4, Sum.inl f_p0_a_brings)), (p0_a_costs, Sum.inl (k_p0_a_costs, 5, Sum.inl f_p0_a_costs)), (p0_a_chances, Sum.inl (k_p0_a_chances, 5, Sum.inr (Sum.inr (Sum.inr (Sum.inr (rows_of 5 R_p0_a_chances)))))), (p0_a_rate, Sum.inl (k_p0_a_rate, 3, Sum.inl f_p0_a_rate)), (p0_a_mark, Sum.inl (k_p0_a_mark, 2, Sum.inl f_p0_a_mark))]) [6, 3, 4, 0, 5, 1, 2] (by decide) rfl
      exact W.zret (v := 0) hx hb hr rfl (fun t ht hW => ⟨⟨0, 0, rfl, rfl, v4, v5, v6, v7, v8, hv8, (Or.inl rfl), by rw [ht]; exact hP9, hD9⟩, hS.F ht⟩) hS.2.2 dX5_settle_79
    · subst hr9
      have hP9 := hP.part (cx := [(o, Sum.inr (5, [Value.long v4, Value.long v5, Value.long v6, Value.long v7, Value.int v8])), (p0, Sum.inr (3, [Value.int p0_v_signs, Value.int p0_v_works, Value.int p0_v_whole, Value.int p0_v_otherwise, Value.int p0_v_least, Value.int p0_v_rates, Value.ref p0_a_brings, Value.ref p0_a_costs, Value.ref p0_a_chances, Value.ref p0_a_rate, Value.ref p0_a_mark])), (p0_a_brings, Sum.inl (k_p0_a_brings, 4, Sum.inl f_p0_a_brings)), (p0_a_costs, Sum.inl (k_p0_a_costs, 5, Sum.inl f_p0_a_costs)), (p0_a_chances, Sum.inl (k_p0_a_chances, 5, Sum.inr (Sum.inr (Sum.inr (Sum.inr (rows_of 5 R_p0_a_chances)))))), (p0_a_rate, Sum.inl (k_p0_a_rate, 3, Sum.inl f_p0_a_rate)), (p0_a_mark, Sum.inl (k_p0_a_mark, 2, Sum.inl f_p0_a_mark))]) [6, 3, 4, 0, 5, 1, 2] rfl
      have hD9 := hD.part (cx := [(o, Sum.inr (5, [Value.long v4, Value.long v5, Value.long v6, Value.long v7, Value.int v8])), (p0, Sum.inr (3, [Value.int p0_v_signs, Value.int p0_v_works, Value.int p0_v_whole, Value.int p0_v_otherwise, Value.int p0_v_least, Value.int p0_v_rates, Value.ref p0_a_brings, Value.ref p0_a_costs, Value.ref p0_a_chances, Value.ref p0_a_rate, Value.ref p0_a_mark])), (p0_a_brings, Sum.inl (k_p0_a_brings, 4, Sum.inl f_p0_a_brings)), (p0_a_costs, Sum.inl (k_p0_a_costs, 5, Sum.inl f_p0_a_costs)), (p0_a_chances, Sum.inl (k_p0_a_chances, 5, Sum.inr (Sum.inr (Sum.inr (Sum.inr (rows_of 5 R_p0_a_chances)))))), (p0_a_rate, Sum.inl (k_p0_a_rate, 3, Sum.inl f_p0_a_rate)), (p0_a_mark, Sum.inl (k_p0_a_mark, 2, Sum.inl f_p0_a_mark))]) [6, 3, 4, 0, 5, 1, 2] (by decide) rfl
      exact W.zret (v := 1) hx hb hr rfl (fun t ht hW => ⟨⟨1, 1, rfl, rfl, v4, v5, v6, v7, v8, hv8, (Or.inr (rfl)), by rw [ht]; exact hP9, hD9⟩, hS.F ht⟩) hS.2.2 dX5_settle_79
  · have c99 := i32_nle c9 rfl rfl
    refine lv_iload hx hb dX5_settle_24 (lv_at hl 1 rfl) ?_
    refine lv_iload hx hb dX5_settle_26 (lv_at hl 0 rfl) ?_
    refine lv_iload_n hx hb dX5_settle_28 rfl (lv_at hl 4 rfl) ?_
    have bp1 := hp1.u
    refine lv_icmp_ne (tgt := 36) hx hb dX5_settle_29 (by decide) (fun c12 => ?_) (fun c12 => ?_)
    · have c129 := i32_ne c12 rfl rfl
      refine lv_aload_n hx hb dX5_settle_36 rfl (lv_at hl 3 rfl) ?_
      refine lv_iload hx hb dX5_settle_37 (lv_at hl 0 rfl) ?_
      refine lv_iload_n hx hb dX5_settle_39 rfl (lv_at hl 5 rfl) ?_
      have hPc := hP.part (cx := [(p0, Sum.inr (3, [Value.int p0_v_signs, Value.int p0_v_works, Value.int p0_v_whole, Value.int p0_v_otherwise, Value.int p0_v_least, Value.int p0_v_rates, Value.ref p0_a_brings, Value.ref p0_a_costs, Value.ref p0_a_chances, Value.ref p0_a_rate, Value.ref p0_a_mark])), (p0_a_brings, Sum.inl (k_p0_a_brings, 4, Sum.inl f_p0_a_brings)), (p0_a_chances, Sum.inl (k_p0_a_chances, 5, Sum.inr (Sum.inr (Sum.inr (Sum.inr (rows_of 5 R_p0_a_chances))))))]) [4, 5, 6] rfl
      have hDc := hD.part (cx := [(p0, Sum.inr (3, [Value.int p0_v_signs, Value.int p0_v_works, Value.int p0_v_whole, Value.int p0_v_otherwise, Value.int p0_v_least, Value.int p0_v_rates, Value.ref p0_a_brings, Value.ref p0_a_costs, Value.ref p0_a_chances, Value.ref p0_a_rate, Value.ref p0_a_mark])), (p0_a_brings, Sum.inl (k_p0_a_brings, 4, Sum.inl f_p0_a_brings)), (p0_a_chances, Sum.inl (k_p0_a_chances, 5, Sum.inr (Sum.inr (Sum.inr (Sum.inr (rows_of 5 R_p0_a_chances))))))]) [4, 5, 6] (by decide) rfl
      have hKc := hK.sub (tys' := [(k_p0_a_brings, FieldType.int), (k_p0_a_chances, (FieldType.array FieldType.int)), (cI, FieldType.int), (cJ, FieldType.long)]) [0, 2, 5, 6] rfl
      have hFc := va_freeP (cx := [(p0, Sum.inr (3, [Value.int p0_v_signs, Value.int p0_v_works, Value.int p0_v_whole, Value.int p0_v_otherwise, Value.int p0_v_least, Value.int p0_v_rates, Value.ref p0_a_brings, Value.ref p0_a_costs, Value.ref p0_a_chances, Value.ref p0_a_rate, Value.ref p0_a_mark])), (p0_a_brings, Sum.inl (k_p0_a_brings, 4, Sum.inl f_p0_a_brings)), (p0_a_chances, Sum.inl (k_p0_a_chances, 5, Sum.inr (Sum.inr (Sum.inr (Sum.inr (rows_of 5 R_p0_a_chances))))))]) hD hS hA [4, 5, 6] rfl
      refine va_calli (va_runV (As := [Value.int v3, Value.int p2]) (rest := [Value.int r2]) ⟨hx, hb, hml, hown, hts⟩ (ct_X3_chanceFrom l dC dI p0 v3 p2 p0_v_signs p0_v_works p0_v_whole p0_v_otherwise p0_v_least p0_v_rates p0_a_brings p0_a_costs p0_a_chances p0_a_rate p0_a_mark k_p0_a_brings f_p0_a_brings k_p0_a_chances R_p0_a_chances LP sh fp cI cJ CT (iv.m (by omega)) hp2 hp0_v_signs hf_p0_a_brings hfp hRR_p0_a_chances H.size) (cwV 2 hts gX5_settle_X3_chanceFrom rfl rfl rfl ⟨rfl, cn_X3.1, cn_X3.2, ds_9⟩ ⟨Nat.le_of_ble_eq_true rfl, Nat.le_of_ble_eq_true rfl⟩) ⟨fun a U g mk q => by obtain ⟨q0, q1, qP, qK, qD⟩ := q; exact ⟨q0, q1, qP, va_K.moved (u := U) (U := U.calling g mk a) (Vm.Alike.refl U.vm) qK, qD⟩, va_recv hKc hPc (ci := 3) (q0 := 0) rfl rfl, fun U hU hW => ⟨rfl, by rw [hU], by rw [hU]; exact hPc, va_K.moved hW.alike hKc, hDc.weaken (fun _ _ _ _ => trivial)⟩⟩ rfl rfl hl.1 rfl (lv_room (Nat.le_of_ble_eq_true rfl)) dX5_settle_40 ⟨Nat.le_of_ble_eq_true rfl, Nat.le_of_ble_eq_true rfl⟩) hS (fun q _ h => hFc q h) hFc (fun r13 u t H1 locs ht hvm hw hB hz1 hk1 hS => ?_)
      have hw : r13 = u := hw.symm
      subst hw
      obtain ⟨hP1, hD1⟩ := hB
      rw [ht] at hP1
      obtain ⟨hP, hD⟩ := va_joinP (X := [(p0_a_costs, Sum.inl (k_p0_a_costs, 5, Sum.inl f_p0_a_costs)), (p0_a_rate, Sum.inl (k_p0_a_rate, 3, Sum.inl f_p0_a_rate)), (p0_a_mark, Sum.inl (k_p0_a_mark, 2, Sum.inl f_p0_a_mark)), (o, Sum.inr (5, [Value.long v4, Value.long v5, Value.long v6, Value.long v7, Value.int v8])), (p0, Sum.inr (3, [Value.int p0_v_signs, Value.int p0_v_works, Value.int p0_v_whole, Value.int p0_v_otherwise, Value.int p0_v_least, Value.int p0_v_rates, Value.ref p0_a_brings, Value.ref p0_a_costs, Value.ref p0_a_chances, Value.ref p0_a_rate, Value.ref p0_a_mark])), (p0_a_brings, Sum.inl (k_p0_a_brings, 4, Sum.inl f_p0_a_brings)), (p0_a_chances, Sum.inl (k_p0_a_chances, 5, Sum.inr (Sum.inr (Sum.inr (Sum.inr (rows_of 5 R_p0_a_chances))))))]) (cx := [(p0, Sum.inr (3, [Value.int p0_v_signs, Value.int p0_v_works, Value.int p0_v_whole, Value.int p0_v_otherwise, Value.int p0_v_least, Value.int p0_v_rates, Value.ref p0_a_brings, Value.ref p0_a_costs, Value.ref p0_a_chances, Value.ref p0_a_rate, Value.ref p0_a_mark])), (p0_a_brings, Sum.inl (k_p0_a_brings, 4, Sum.inl f_p0_a_brings)), (p0_a_chances, Sum.inl (k_p0_a_chances, 5, Sum.inr (Sum.inr (Sum.inr (Sum.inr (rows_of 5 R_p0_a_chances))))))]) (wr := [(p0_a_costs, Sum.inl (k_p0_a_costs, 5, Sum.inl f_p0_a_costs)), (p0_a_rate, Sum.inl (k_p0_a_rate, 3, Sum.inl f_p0_a_rate)), (p0_a_mark, Sum.inl (k_p0_a_mark, 2, Sum.inl f_p0_a_mark)), (o, Sum.inr (5, [Value.long v4, Value.long v5, Value.long v6, Value.long v7, Value.int v8]))]) (rx := [(p0, Sum.inr (3, [Value.int p0_v_signs, Value.int p0_v_works, Value.int p0_v_whole, Value.int p0_v_otherwise, Value.int p0_v_least, Value.int p0_v_rates, Value.ref p0_a_brings, Value.ref p0_a_costs, Value.ref p0_a_chances, Value.ref p0_a_rate, Value.ref p0_a_mark])), (p0_a_brings, Sum.inl (k_p0_a_brings, 4, Sum.inl f_p0_a_brings)), (p0_a_chances, Sum.inl (k_p0_a_chances, 5, Sum.inr (Sum.inr (Sum.inr (Sum.inr (rows_of 5 R_p0_a_chances))))))]) hP hD [4, 5, 6] [0, 1, 2, 3] rfl rfl (by decide) (by decide) hk1 hFc hP1 hD1
      clear hPc hDc hKc hFc hP1 hD1 hk1 hz1
      generalize H1 = H at hP hS ⊢
      have hP : va_P (dC, dI) vwCl ([(p0_a_costs, Sum.inl (k_p0_a_costs, 5, Sum.inl f_p0_a_costs)), (p0_a_rate, Sum.inl (k_p0_a_rate, 3, Sum.inl f_p0_a_rate)), (p0_a_mark, Sum.inl (k_p0_a_mark, 2, Sum.inl f_p0_a_mark)), (o, Sum.inr (5, [Value.long v4, Value.long v5, Value.long v6, Value.long v7, Value.int v8])), (p0, Sum.inr (3, [Value.int p0_v_signs, Value.int p0_v_works, Value.int p0_v_whole, Value.int p0_v_otherwise, Value.int p0_v_least, Value.int p0_v_rates, Value.ref p0_a_brings, Value.ref p0_a_costs, Value.ref p0_a_chances, Value.ref p0_a_rate, Value.ref p0_a_mark])), (p0_a_brings, Sum.inl (k_p0_a_brings, 4, Sum.inl f_p0_a_brings)), (p0_a_chances, Sum.inl (k_p0_a_chances, 5, Sum.inr (Sum.inr (Sum.inr (Sum.inr (rows_of 5 R_p0_a_chances))))))] ++ va_pl LP fp) H := hP
      have hD : va_D A ([(p0_a_costs, Sum.inl (k_p0_a_costs, 5, Sum.inl f_p0_a_costs)), (p0_a_rate, Sum.inl (k_p0_a_rate, 3, Sum.inl f_p0_a_rate)), (p0_a_mark, Sum.inl (k_p0_a_mark, 2, Sum.inl f_p0_a_mark)), (o, Sum.inr (5, [Value.long v4, Value.long v5, Value.long v6, Value.long v7, Value.int v8])), (p0, Sum.inr (3, [Value.int p0_v_signs, Value.int p0_v_works, Value.int p0_v_whole, Value.int p0_v_otherwise, Value.int p0_v_least, Value.int p0_v_rates, Value.ref p0_a_brings, Value.ref p0_a_costs, Value.ref p0_a_chances, Value.ref p0_a_rate, Value.ref p0_a_mark])), (p0_a_brings, Sum.inl (k_p0_a_brings, 4, Sum.inl f_p0_a_brings)), (p0_a_chances, Sum.inl (k_p0_a_chances, 5, Sum.inr (Sum.inr (Sum.inr (Sum.inr (rows_of 5 R_p0_a_chances))))))] ++ va_pl LP fp) := hD
      refine W.widen (k := 0) (n := 0) (by decide) (by decide) ?_
      refine lv_isub hx hb dX5_settle_43 ?_
      refine lv_topi (fun x14 ex14 => ?_)
      refine lv_istore (lv' := [(8, Value.int x14), (7, Value.int v3), (6, Value.int r2), (0, Value.ref o), (1, Value.ref p0), (2, Value.int p1), (3, Value.int p2), (4, Value.int p3), (5, Value.int p4)]) hx hb dX5_settle_44 hl (by decide) rfl (fun ls hl => ?_)
      refine lv_aload_n hx hb dX5_settle_46 rfl (lv_at hl 3 rfl) ?_
      refine lv_iload hx hb dX5_settle_47 (lv_at hl 0 rfl) ?_
      refine lv_i2l (v := (x14).toInt64) hx hb dX5_settle_49 rfl ?_
      refine lv_iload hx hb dX5_settle_50 (lv_at hl 7 rfl) ?_
      refine lv_i2l (v := (p3).toInt64) hx hb dX5_settle_52 rfl ?_
      refine lv_lmul hx hb dX5_settle_53 ?_
      refine lv_topl (fun y15 ey15 => ?_)
      have hy15 : jv y15 (-4611686018427387904) 4611686018427387904 := jv.mula (B := 2147483648) (D := 2147483648) ey15 (jv.i (show iv x14 (-2147483648) 2147483647 from i32_rng x14)) (jv.i (show iv p3 (-2147483648) 2147483647 from i32_rng p3)) (by decide) (by decide) (by decide) (by decide) (by decide) (by decide)
      refine lv_iload hx hb dX5_settle_54 (lv_at hl 8 rfl) ?_
      refine lv_i2l (v := (p4).toInt64) hx hb dX5_settle_56 rfl ?_
      refine lv_aload_n hx hb dX5_settle_57 rfl (lv_at hl 4 rfl) ?_
      refine lv_iload_n hx hb dX5_settle_58 rfl (lv_at hl 5 rfl) ?_
      refine lv_iload hx hb dX5_settle_59 (lv_at hl 1 rfl) ?_
      have hPc := hP.sub (ws' := [(p0, Sum.inr (3, [Value.int p0_v_signs, Value.int p0_v_works, Value.int p0_v_whole, Value.int p0_v_otherwise, Value.int p0_v_least, Value.int p0_v_rates, Value.ref p0_a_brings, Value.ref p0_a_costs, Value.ref p0_a_chances, Value.ref p0_a_rate, Value.ref p0_a_mark])), (p0_a_costs, Sum.inl (k_p0_a_costs, 5, Sum.inl f_p0_a_costs)), (p0_a_rate, Sum.inl (k_p0_a_rate, 3, Sum.inl f_p0_a_rate)), (p0_a_mark, Sum.inl (k_p0_a_mark, 2, Sum.inl f_p0_a_mark))]) [4, 0, 1, 2] rfl
      have hDc := hD.sub (ws' := [(p0, Sum.inr (3, [Value.int p0_v_signs, Value.int p0_v_works, Value.int p0_v_whole, Value.int p0_v_otherwise, Value.int p0_v_least, Value.int p0_v_rates, Value.ref p0_a_brings, Value.ref p0_a_costs, Value.ref p0_a_chances, Value.ref p0_a_rate, Value.ref p0_a_mark])), (p0_a_costs, Sum.inl (k_p0_a_costs, 5, Sum.inl f_p0_a_costs)), (p0_a_rate, Sum.inl (k_p0_a_rate, 3, Sum.inl f_p0_a_rate)), (p0_a_mark, Sum.inl (k_p0_a_mark, 2, Sum.inl f_p0_a_mark))]) [4, 0, 1, 2] (by decide) rfl
      have hKc := hK.sub (tys' := [(k_p0_a_costs, FieldType.int), (k_p0_a_rate, FieldType.int), (k_p0_a_mark, FieldType.int)]) [1, 3, 4] rfl
      have hFc := va_free (wc := [(p0, Sum.inr (3, [Value.int p0_v_signs, Value.int p0_v_works, Value.int p0_v_whole, Value.int p0_v_otherwise, Value.int p0_v_least, Value.int p0_v_rates, Value.ref p0_a_brings, Value.ref p0_a_costs, Value.ref p0_a_chances, Value.ref p0_a_rate, Value.ref p0_a_mark])), (p0_a_costs, Sum.inl (k_p0_a_costs, 5, Sum.inl f_p0_a_costs)), (p0_a_rate, Sum.inl (k_p0_a_rate, 3, Sum.inl f_p0_a_rate)), (p0_a_mark, Sum.inl (k_p0_a_mark, 2, Sum.inl f_p0_a_mark))]) hD hS hA [4, 0, 1, 2] rfl
      refine va_calli (va_runV (As := [Value.int p1, Value.int v3]) (rest := [Value.long ((p4).toInt64), Value.long y15, Value.ref o]) ⟨hx, hb, hml, hown, hts⟩ (ct_X3_lackOf l dC dI p0 p1 v3 p0_v_signs p0_v_works p0_v_whole p0_v_otherwise p0_v_least p0_v_rates p0_a_brings p0_a_costs p0_a_chances p0_a_rate p0_a_mark k_p0_a_costs f_p0_a_costs k_p0_a_rate f_p0_a_rate k_p0_a_mark f_p0_a_mark hp1 (iv.m (by omega)) hp0_v_rates hf_p0_a_costs hf_p0_a_rate hf_p0_a_mark H.size) (cwV 2 hts gX5_settle_X3_lackOf rfl rfl rfl ⟨rfl, cn_X3.1, cn_X3.2, ds_9⟩ ⟨Nat.le_of_ble_eq_true rfl, Nat.le_of_ble_eq_true rfl⟩) ⟨fun a U g mk q => by obtain ⟨q0, q1, qP, qK, qD⟩ := q; exact ⟨q0, q1, qP, va_K.moved (u := U) (U := U.calling g mk a) (Vm.Alike.refl U.vm) qK, qD⟩, va_recv hKc hPc (ci := 3) (q0 := 0) rfl rfl, fun U hU hW => ⟨rfl, by rw [hU], by rw [hU]; exact hPc, va_K.moved hW.alike hKc, hDc.weaken (fun _ _ _ _ => trivial)⟩⟩ rfl rfl hl.1 rfl (lv_room (Nat.le_of_ble_eq_true rfl)) dX5_settle_61 ⟨Nat.le_of_ble_eq_true rfl, Nat.le_of_ble_eq_true rfl⟩) hS (fun q _ h => hFc q h) hFc (fun r16 u t H1 locs ht hvm hw hB hz1 hk1 hS => ?_)
      have hw : r16 = u := hw.symm
      subst hw
      obtain ⟨hP1, hD1⟩ := hB
      rw [ht] at hP1
      obtain ⟨hP, hD⟩ := va_joinQ (X := [(p0_a_costs, Sum.inl (k_p0_a_costs, 5, Sum.inl f_p0_a_costs)), (p0_a_rate, Sum.inl (k_p0_a_rate, 3, Sum.inl f_p0_a_rate)), (p0_a_mark, Sum.inl (k_p0_a_mark, 2, Sum.inl f_p0_a_mark)), (o, Sum.inr (5, [Value.long v4, Value.long v5, Value.long v6, Value.long v7, Value.int v8])), (p0, Sum.inr (3, [Value.int p0_v_signs, Value.int p0_v_works, Value.int p0_v_whole, Value.int p0_v_otherwise, Value.int p0_v_least, Value.int p0_v_rates, Value.ref p0_a_brings, Value.ref p0_a_costs, Value.ref p0_a_chances, Value.ref p0_a_rate, Value.ref p0_a_mark])), (p0_a_brings, Sum.inl (k_p0_a_brings, 4, Sum.inl f_p0_a_brings)), (p0_a_chances, Sum.inl (k_p0_a_chances, 5, Sum.inr (Sum.inr (Sum.inr (Sum.inr (rows_of 5 R_p0_a_chances))))))]) (cx := [(p0, Sum.inr (3, [Value.int p0_v_signs, Value.int p0_v_works, Value.int p0_v_whole, Value.int p0_v_otherwise, Value.int p0_v_least, Value.int p0_v_rates, Value.ref p0_a_brings, Value.ref p0_a_costs, Value.ref p0_a_chances, Value.ref p0_a_rate, Value.ref p0_a_mark])), (p0_a_costs, Sum.inl (k_p0_a_costs, 5, Sum.inl f_p0_a_costs)), (p0_a_rate, Sum.inl (k_p0_a_rate, 3, Sum.inl f_p0_a_rate)), (p0_a_mark, Sum.inl (k_p0_a_mark, 2, Sum.inl f_p0_a_mark))]) (wr := [(o, Sum.inr (5, [Value.long v4, Value.long v5, Value.long v6, Value.long v7, Value.int v8])), (p0_a_brings, Sum.inl (k_p0_a_brings, 4, Sum.inl f_p0_a_brings)), (p0_a_chances, Sum.inl (k_p0_a_chances, 5, Sum.inr (Sum.inr (Sum.inr (Sum.inr (rows_of 5 R_p0_a_chances))))))]) (w1 := [(p0, Sum.inr (3, [Value.int p0_v_signs, Value.int p0_v_works, Value.int p0_v_whole, Value.int p0_v_otherwise, Value.int p0_v_least, Value.int p0_v_rates, Value.ref p0_a_brings, Value.ref p0_a_costs, Value.ref p0_a_chances, Value.ref p0_a_rate, Value.ref p0_a_mark])), (p0_a_costs, Sum.inl (k_p0_a_costs, 5, Sum.inl f_p0_a_costs)), (p0_a_rate, Sum.inl (k_p0_a_rate, 3, Sum.inl f_p0_a_rate)), (p0_a_mark, Sum.inl (k_p0_a_mark, 2, Sum.inl f_p0_a_mark))]) hP hD [4, 0, 1, 2] [3, 5, 6] rfl rfl (by decide) (by decide) hk1 hFc hP1 hD1
      clear hPc hDc hKc hFc hP1 hD1 hk1 hz1
      generalize H1 = H at hP hS ⊢
      have hP : va_P (dC, dI) vwCl ([(o, Sum.inr (5, [Value.long v4, Value.long v5, Value.long v6, Value.long v7, Value.int v8])), (p0_a_brings, Sum.inl (k_p0_a_brings, 4, Sum.inl f_p0_a_brings)), (p0_a_chances, Sum.inl (k_p0_a_chances, 5, Sum.inr (Sum.inr (Sum.inr (Sum.inr (rows_of 5 R_p0_a_chances)))))), (p0, Sum.inr (3, [Value.int p0_v_signs, Value.int p0_v_works, Value.int p0_v_whole, Value.int p0_v_otherwise, Value.int p0_v_least, Value.int p0_v_rates, Value.ref p0_a_brings, Value.ref p0_a_costs, Value.ref p0_a_chances, Value.ref p0_a_rate, Value.ref p0_a_mark])), (p0_a_costs, Sum.inl (k_p0_a_costs, 5, Sum.inl f_p0_a_costs)), (p0_a_rate, Sum.inl (k_p0_a_rate, 3, Sum.inl f_p0_a_rate)), (p0_a_mark, Sum.inl (k_p0_a_mark, 2, Sum.inl f_p0_a_mark))] ++ va_pl LP fp) H := hP
      have hD : va_D A ([(o, Sum.inr (5, [Value.long v4, Value.long v5, Value.long v6, Value.long v7, Value.int v8])), (p0_a_brings, Sum.inl (k_p0_a_brings, 4, Sum.inl f_p0_a_brings)), (p0_a_chances, Sum.inl (k_p0_a_chances, 5, Sum.inr (Sum.inr (Sum.inr (Sum.inr (rows_of 5 R_p0_a_chances)))))), (p0, Sum.inr (3, [Value.int p0_v_signs, Value.int p0_v_works, Value.int p0_v_whole, Value.int p0_v_otherwise, Value.int p0_v_least, Value.int p0_v_rates, Value.ref p0_a_brings, Value.ref p0_a_costs, Value.ref p0_a_chances, Value.ref p0_a_rate, Value.ref p0_a_mark])), (p0_a_costs, Sum.inl (k_p0_a_costs, 5, Sum.inl f_p0_a_costs)), (p0_a_rate, Sum.inl (k_p0_a_rate, 3, Sum.inl f_p0_a_rate)), (p0_a_mark, Sum.inl (k_p0_a_mark, 2, Sum.inl f_p0_a_mark))] ++ va_pl LP fp) := hD
      refine W.widen (k := 0) (n := 0) (by decide) (by decide) ?_
      refine lv_i2l (v := (r16).toInt64) hx hb dX5_settle_64 rfl ?_
      refine lv_lmul hx hb dX5_settle_65 ?_
      refine lv_topl (fun y17 ey17 => ?_)
      have hy17 : jv y17 (-4611686018427387904) 4611686018427387904 := jv.mula (B := 2147483648) (D := 2147483648) ey17 (jv.i (show iv p4 (-2147483648) 2147483647 from i32_rng p4)) (jv.i (show iv r16 (-2147483648) 2147483647 from i32_rng r16)) (by decide) (by decide) (by decide) (by decide) (by decide) (by decide)
      have hPc := hP.sub (ws' := [(o, Sum.inr (5, [Value.long v4, Value.long v5, Value.long v6, Value.long v7, Value.int v8]))]) [0] rfl
      have hDc := hD.sub (ws' := [(o, Sum.inr (5, [Value.long v4, Value.long v5, Value.long v6, Value.long v7, Value.int v8]))]) [0] (by decide) rfl
      have hKc := hK.sub (tys' := []) [] rfl
      have hFc := va_free (wc := [(o, Sum.inr (5, [Value.long v4, Value.long v5, Value.long v6, Value.long v7, Value.int v8]))]) hD hS hA [0] rfl
      refine va_callv (va_runV (As := [Value.long y15, Value.long y17]) (rest := []) ⟨hx, hb, hml, hown, hts⟩ (ct_X5_need l dC dI o y15 y17 v4 v5 v6 v7 v8 hv8 H.size) (cwV 2 hts gX5_settle_X5_need rfl rfl rfl ⟨rfl, cn_X5.1, cn_X5.2, ds_13⟩ ⟨Nat.le_of_ble_eq_true rfl, Nat.le_of_ble_eq_true rfl⟩) ⟨fun a U g mk q => by obtain ⟨q0, q1, qP, qK, qD⟩ := q; exact ⟨q0, q1, qP, va_K.moved (u := U) (U := U.calling g mk a) (Vm.Alike.refl U.vm) qK, qD⟩, va_recv hKc hPc (ci := 5) (q0 := 0) rfl rfl, fun U hU hW => ⟨rfl, by rw [hU], by rw [hU]; exact hPc, va_K.moved hW.alike hKc, hDc.weaken (fun _ _ _ _ => trivial)⟩⟩ rfl rfl hl.1 rfl (lv_room (Nat.le_of_ble_eq_true rfl)) dX5_settle_66 ⟨Nat.le_of_ble_eq_true rfl, Nat.le_of_ble_eq_true rfl⟩) hS (fun q _ h => hFc q h) hFc (fun u t H1 locs ht hvm hw hB hz1 hk1 hS => ?_)
      obtain ⟨y19, y20, y21, y22, v23, hv23, hP1, hD1⟩ := hB
      rw [ht] at hP1
      obtain ⟨hP, hD⟩ := va_joinQ (X := [(o, Sum.inr (5, [Value.long v4, Value.long v5, Value.long v6, Value.long v7, Value.int v8])), (p0_a_brings, Sum.inl (k_p0_a_brings, 4, Sum.inl f_p0_a_brings)), (p0_a_chances, Sum.inl (k_p0_a_chances, 5, Sum.inr (Sum.inr (Sum.inr (Sum.inr (rows_of 5 R_p0_a_chances)))))), (p0, Sum.inr (3, [Value.int p0_v_signs, Value.int p0_v_works, Value.int p0_v_whole, Value.int p0_v_otherwise, Value.int p0_v_least, Value.int p0_v_rates, Value.ref p0_a_brings, Value.ref p0_a_costs, Value.ref p0_a_chances, Value.ref p0_a_rate, Value.ref p0_a_mark])), (p0_a_costs, Sum.inl (k_p0_a_costs, 5, Sum.inl f_p0_a_costs)), (p0_a_rate, Sum.inl (k_p0_a_rate, 3, Sum.inl f_p0_a_rate)), (p0_a_mark, Sum.inl (k_p0_a_mark, 2, Sum.inl f_p0_a_mark))]) (cx := [(o, Sum.inr (5, [Value.long v4, Value.long v5, Value.long v6, Value.long v7, Value.int v8]))]) (wr := [(p0_a_brings, Sum.inl (k_p0_a_brings, 4, Sum.inl f_p0_a_brings)), (p0_a_chances, Sum.inl (k_p0_a_chances, 5, Sum.inr (Sum.inr (Sum.inr (Sum.inr (rows_of 5 R_p0_a_chances)))))), (p0, Sum.inr (3, [Value.int p0_v_signs, Value.int p0_v_works, Value.int p0_v_whole, Value.int p0_v_otherwise, Value.int p0_v_least, Value.int p0_v_rates, Value.ref p0_a_brings, Value.ref p0_a_costs, Value.ref p0_a_chances, Value.ref p0_a_rate, Value.ref p0_a_mark])), (p0_a_costs, Sum.inl (k_p0_a_costs, 5, Sum.inl f_p0_a_costs)), (p0_a_rate, Sum.inl (k_p0_a_rate, 3, Sum.inl f_p0_a_rate)), (p0_a_mark, Sum.inl (k_p0_a_mark, 2, Sum.inl f_p0_a_mark))]) (w1 := [(o, Sum.inr (5, [Value.long y19, Value.long y20, Value.long y21, Value.long y22, Value.int v23]))]) hP hD [0] [1, 2, 3, 4, 5, 6] rfl rfl (by decide) (by decide) hk1 hFc hP1 hD1
      clear hPc hDc hKc hFc hP1 hD1 hk1 hz1
      generalize H1 = H at hP hS ⊢
      have hP : va_P (dC, dI) vwCl ([(p0_a_brings, Sum.inl (k_p0_a_brings, 4, Sum.inl f_p0_a_brings)), (p0_a_chances, Sum.inl (k_p0_a_chances, 5, Sum.inr (Sum.inr (Sum.inr (Sum.inr (rows_of 5 R_p0_a_chances)))))), (p0, Sum.inr (3, [Value.int p0_v_signs, Value.int p0_v_works, Value.int p0_v_whole, Value.int p0_v_otherwise, Value.int p0_v_least, Value.int p0_v_rates, Value.ref p0_a_brings, Value.ref p0_a_costs, Value.ref p0_a_chances, Value.ref p0_a_rate, Value.ref p0_a_mark])), (p0_a_costs, Sum.inl (k_p0_a_costs, 5, Sum.inl f_p0_a_costs)), (p0_a_rate, Sum.inl (k_p0_a_rate, 3, Sum.inl f_p0_a_rate)), (p0_a_mark, Sum.inl (k_p0_a_mark, 2, Sum.inl f_p0_a_mark)), (o, Sum.inr (5, [Value.long y19, Value.long y20, Value.long y21, Value.long y22, Value.int v23]))] ++ va_pl LP fp) H := hP
      have hD : va_D A ([(p0_a_brings, Sum.inl (k_p0_a_brings, 4, Sum.inl f_p0_a_brings)), (p0_a_chances, Sum.inl (k_p0_a_chances, 5, Sum.inr (Sum.inr (Sum.inr (Sum.inr (rows_of 5 R_p0_a_chances)))))), (p0, Sum.inr (3, [Value.int p0_v_signs, Value.int p0_v_works, Value.int p0_v_whole, Value.int p0_v_otherwise, Value.int p0_v_least, Value.int p0_v_rates, Value.ref p0_a_brings, Value.ref p0_a_costs, Value.ref p0_a_chances, Value.ref p0_a_rate, Value.ref p0_a_mark])), (p0_a_costs, Sum.inl (k_p0_a_costs, 5, Sum.inl f_p0_a_costs)), (p0_a_rate, Sum.inl (k_p0_a_rate, 3, Sum.inl f_p0_a_rate)), (p0_a_mark, Sum.inl (k_p0_a_mark, 2, Sum.inl f_p0_a_mark)), (o, Sum.inr (5, [Value.long y19, Value.long y20, Value.long y21, Value.long y22, Value.int v23]))] ++ va_pl LP fp) := hD
      refine W.widen (k := 0) (n := 0) (by decide) (by decide) ?_
      obtain ⟨x24, ex24⟩ : ∃ z : Int32, v3 + Int32.ofInt 1 = z := ⟨_, rfl⟩
      have tx24 := i32_inc ex24 rfl (by decide) (by omega) (by omega)
      refine lv_iinc (v := x24) (lv' := [(7, Value.int x24), (8, Value.int x14), (6, Value.int r2), (0, Value.ref o), (1, Value.ref p0), (2, Value.int p1), (3, Value.int p2), (4, Value.int p3), (5, Value.int p4)]) hx hb dX5_settle_69 hl (k := 1) rfl ex24 (by decide) rfl (fun ls hl => ?_)
      refine lv_goto (tgt := 15) hx hb dX5_settle_72 (by decide) ?_
      have bv23 := hv23.u
      have bv8 := hv8.u
      exact ih15 _ _ _ _ (ms_up hn15 tx24 (by decide) (by omega)) ⟨x24, y19, y20, y21, y22, v23, rfl, (iv.m (by omega)), hv23, hP.part [3, 4, 5, 6, 2, 0, 1] rfl, hD.part [3, 4, 5, 6, 2, 0, 1] (by decide) rfl, hS, lv_sub hl [0, 2, 3, 4, 5, 6, 7, 8] rfl⟩
    · have c129 := i32_eq c12 rfl rfl
      refine lv_iconst (v := 0) hx hb dX5_settle_32 (by decide) ?_
      refine lv_goto (tgt := 43) hx hb dX5_settle_33 (by decide) ?_
      refine lv_isub hx hb dX5_settle_43 ?_
      refine lv_topi (fun x25 ex25 => ?_)
      have br2 := i32_rng r2
      have tx25 := i32_sub ex25 rfl (show (0 : Int32).toInt = 0 by decide) (by omega) (by omega)
      refine lv_istore (lv' := [(8, Value.int x25), (7, Value.int v3), (6, Value.int r2), (0, Value.ref o), (1, Value.ref p0), (2, Value.int p1), (3, Value.int p2), (4, Value.int p3), (5, Value.int p4)]) hx hb dX5_settle_44 hl (by decide) rfl (fun ls hl => ?_)
      refine lv_aload_n hx hb dX5_settle_46 rfl (lv_at hl 3 rfl) ?_
      refine lv_iload hx hb dX5_settle_47 (lv_at hl 0 rfl) ?_
      refine lv_i2l (v := (x25).toInt64) hx hb dX5_settle_49 rfl ?_
      refine lv_iload hx hb dX5_settle_50 (lv_at hl 7 rfl) ?_
      refine lv_i2l (v := (p3).toInt64) hx hb dX5_settle_52 rfl ?_
      refine lv_lmul hx hb dX5_settle_53 ?_
      refine lv_topl (fun y26 ey26 => ?_)
      have hy26 : jv y26 (-4611686018427387904) 4611686018427387904 := jv.mula (B := 2147483648) (D := 2147483648) ey26 (jv.i (show iv x25 (-2147483648) 2147483647 from i32_rng x25)) (jv.i (show iv p3 (-2147483648) 2147483647 from i32_rng p3)) (by decide) (by decide) (by decide) (by decide) (by decide) (by decide)
      refine lv_iload hx hb dX5_settle_54 (lv_at hl 8 rfl) ?_
      refine lv_i2l (v := (p4).toInt64) hx hb dX5_settle_56 rfl ?_
      refine lv_aload_n hx hb dX5_settle_57 rfl (lv_at hl 4 rfl) ?_
      refine lv_iload_n hx hb dX5_settle_58 rfl (lv_at hl 5 rfl) ?_
      refine lv_iload hx hb dX5_settle_59 (lv_at hl 1 rfl) ?_
      have hPc := hP.sub (ws' := [(p0, Sum.inr (3, [Value.int p0_v_signs, Value.int p0_v_works, Value.int p0_v_whole, Value.int p0_v_otherwise, Value.int p0_v_least, Value.int p0_v_rates, Value.ref p0_a_brings, Value.ref p0_a_costs, Value.ref p0_a_chances, Value.ref p0_a_rate, Value.ref p0_a_mark])), (p0_a_costs, Sum.inl (k_p0_a_costs, 5, Sum.inl f_p0_a_costs)), (p0_a_rate, Sum.inl (k_p0_a_rate, 3, Sum.inl f_p0_a_rate)), (p0_a_mark, Sum.inl (k_p0_a_mark, 2, Sum.inl f_p0_a_mark))]) [4, 0, 1, 2] rfl
      have hDc := hD.sub (ws' := [(p0, Sum.inr (3, [Value.int p0_v_signs, Value.int p0_v_works, Value.int p0_v_whole, Value.int p0_v_otherwise, Value.int p0_v_least, Value.int p0_v_rates, Value.ref p0_a_brings, Value.ref p0_a_costs, Value.ref p0_a_chances, Value.ref p0_a_rate, Value.ref p0_a_mark])), (p0_a_costs, Sum.inl (k_p0_a_costs, 5, Sum.inl f_p0_a_costs)), (p0_a_rate, Sum.inl (k_p0_a_rate, 3, Sum.inl f_p0_a_rate)), (p0_a_mark, Sum.inl (k_p0_a_mark, 2, Sum.inl f_p0_a_mark))]) [4, 0, 1, 2] (by decide) rfl
      have hKc := hK.sub (tys' := [(k_p0_a_costs, FieldType.int), (k_p0_a_rate, FieldType.int), (k_p0_a_mark, FieldType.int)]) [1, 3, 4] rfl
      have hFc := va_free (wc := [(p0, Sum.inr (3, [Value.int p0_v_signs, Value.int p0_v_works, Value.int p0_v_whole, Value.int p0_v_otherwise, Value.int p0_v_least, Value.int p0_v_rates, Value.ref p0_a_brings, Value.ref p0_a_costs, Value.ref p0_a_chances, Value.ref p0_a_rate, Value.ref p0_a_mark])), (p0_a_costs, Sum.inl (k_p0_a_costs, 5, Sum.inl f_p0_a_costs)), (p0_a_rate, Sum.inl (k_p0_a_rate, 3, Sum.inl f_p0_a_rate)), (p0_a_mark, Sum.inl (k_p0_a_mark, 2, Sum.inl f_p0_a_mark))]) hD hS hA [4, 0, 1, 2] rfl
      refine va_calli (va_runV (As := [Value.int p1, Value.int v3]) (rest := [Value.long ((p4).toInt64), Value.long y26, Value.ref o]) ⟨hx, hb, hml, hown, hts⟩ (ct_X3_lackOf l dC dI p0 p1 v3 p0_v_signs p0_v_works p0_v_whole p0_v_otherwise p0_v_least p0_v_rates p0_a_brings p0_a_costs p0_a_chances p0_a_rate p0_a_mark k_p0_a_costs f_p0_a_costs k_p0_a_rate f_p0_a_rate k_p0_a_mark f_p0_a_mark hp1 (iv.m (by omega)) hp0_v_rates hf_p0_a_costs hf_p0_a_rate hf_p0_a_mark H.size) (cwV 2 hts gX5_settle_X3_lackOf rfl rfl rfl ⟨rfl, cn_X3.1, cn_X3.2, ds_9⟩ ⟨Nat.le_of_ble_eq_true rfl, Nat.le_of_ble_eq_true rfl⟩) ⟨fun a U g mk q => by obtain ⟨q0, q1, qP, qK, qD⟩ := q; exact ⟨q0, q1, qP, va_K.moved (u := U) (U := U.calling g mk a) (Vm.Alike.refl U.vm) qK, qD⟩, va_recv hKc hPc (ci := 3) (q0 := 0) rfl rfl, fun U hU hW => ⟨rfl, by rw [hU], by rw [hU]; exact hPc, va_K.moved hW.alike hKc, hDc.weaken (fun _ _ _ _ => trivial)⟩⟩ rfl rfl hl.1 rfl (lv_room (Nat.le_of_ble_eq_true rfl)) dX5_settle_61 ⟨Nat.le_of_ble_eq_true rfl, Nat.le_of_ble_eq_true rfl⟩) hS (fun q _ h => hFc q h) hFc (fun r27 u t H1 locs ht hvm hw hB hz1 hk1 hS => ?_)
      have hw : r27 = u := hw.symm
      subst hw
      obtain ⟨hP1, hD1⟩ := hB
      rw [ht] at hP1
      obtain ⟨hP, hD⟩ := va_joinQ (X := [(p0_a_costs, Sum.inl (k_p0_a_costs, 5, Sum.inl f_p0_a_costs)), (p0_a_rate, Sum.inl (k_p0_a_rate, 3, Sum.inl f_p0_a_rate)), (p0_a_mark, Sum.inl (k_p0_a_mark, 2, Sum.inl f_p0_a_mark)), (o, Sum.inr (5, [Value.long v4, Value.long v5, Value.long v6, Value.long v7, Value.int v8])), (p0, Sum.inr (3, [Value.int p0_v_signs, Value.int p0_v_works, Value.int p0_v_whole, Value.int p0_v_otherwise, Value.int p0_v_least, Value.int p0_v_rates, Value.ref p0_a_brings, Value.ref p0_a_costs, Value.ref p0_a_chances, Value.ref p0_a_rate, Value.ref p0_a_mark])), (p0_a_brings, Sum.inl (k_p0_a_brings, 4, Sum.inl f_p0_a_brings)), (p0_a_chances, Sum.inl (k_p0_a_chances, 5, Sum.inr (Sum.inr (Sum.inr (Sum.inr (rows_of 5 R_p0_a_chances))))))]) (cx := [(p0, Sum.inr (3, [Value.int p0_v_signs, Value.int p0_v_works, Value.int p0_v_whole, Value.int p0_v_otherwise, Value.int p0_v_least, Value.int p0_v_rates, Value.ref p0_a_brings, Value.ref p0_a_costs, Value.ref p0_a_chances, Value.ref p0_a_rate, Value.ref p0_a_mark])), (p0_a_costs, Sum.inl (k_p0_a_costs, 5, Sum.inl f_p0_a_costs)), (p0_a_rate, Sum.inl (k_p0_a_rate, 3, Sum.inl f_p0_a_rate)), (p0_a_mark, Sum.inl (k_p0_a_mark, 2, Sum.inl f_p0_a_mark))]) (wr := [(o, Sum.inr (5, [Value.long v4, Value.long v5, Value.long v6, Value.long v7, Value.int v8])), (p0_a_brings, Sum.inl (k_p0_a_brings, 4, Sum.inl f_p0_a_brings)), (p0_a_chances, Sum.inl (k_p0_a_chances, 5, Sum.inr (Sum.inr (Sum.inr (Sum.inr (rows_of 5 R_p0_a_chances))))))]) (w1 := [(p0, Sum.inr (3, [Value.int p0_v_signs, Value.int p0_v_works, Value.int p0_v_whole, Value.int p0_v_otherwise, Value.int p0_v_least, Value.int p0_v_rates, Value.ref p0_a_brings, Value.ref p0_a_costs, Value.ref p0_a_chances, Value.ref p0_a_rate, Value.ref p0_a_mark])), (p0_a_costs, Sum.inl (k_p0_a_costs, 5, Sum.inl f_p0_a_costs)), (p0_a_rate, Sum.inl (k_p0_a_rate, 3, Sum.inl f_p0_a_rate)), (p0_a_mark, Sum.inl (k_p0_a_mark, 2, Sum.inl f_p0_a_mark))]) hP hD [4, 0, 1, 2] [3, 5, 6] rfl rfl (by decide) (by decide) hk1 hFc hP1 hD1
      clear hPc hDc hKc hFc hP1 hD1 hk1 hz1
      generalize H1 = H at hP hS ⊢
      have hP : va_P (dC, dI) vwCl ([(o, Sum.inr (5, [Value.long v4, Value.long v5, Value.long v6, Value.long v7, Value.int v8])), (p0_a_brings, Sum.inl (k_p0_a_brings, 4, Sum.inl f_p0_a_brings)), (p0_a_chances, Sum.inl (k_p0_a_chances, 5, Sum.inr (Sum.inr (Sum.inr (Sum.inr (rows_of 5 R_p0_a_chances)))))), (p0, Sum.inr (3, [Value.int p0_v_signs, Value.int p0_v_works, Value.int p0_v_whole, Value.int p0_v_otherwise, Value.int p0_v_least, Value.int p0_v_rates, Value.ref p0_a_brings, Value.ref p0_a_costs, Value.ref p0_a_chances, Value.ref p0_a_rate, Value.ref p0_a_mark])), (p0_a_costs, Sum.inl (k_p0_a_costs, 5, Sum.inl f_p0_a_costs)), (p0_a_rate, Sum.inl (k_p0_a_rate, 3, Sum.inl f_p0_a_rate)), (p0_a_mark, Sum.inl (k_p0_a_mark, 2, Sum.inl f_p0_a_mark))] ++ va_pl LP fp) H := hP
      have hD : va_D A ([(o, Sum.inr (5, [Value.long v4, Value.long v5, Value.long v6, Value.long v7, Value.int v8])), (p0_a_brings, Sum.inl (k_p0_a_brings, 4, Sum.inl f_p0_a_brings)), (p0_a_chances, Sum.inl (k_p0_a_chances, 5, Sum.inr (Sum.inr (Sum.inr (Sum.inr (rows_of 5 R_p0_a_chances)))))), (p0, Sum.inr (3, [Value.int p0_v_signs, Value.int p0_v_works, Value.int p0_v_whole, Value.int p0_v_otherwise, Value.int p0_v_least, Value.int p0_v_rates, Value.ref p0_a_brings, Value.ref p0_a_costs, Value.ref p0_a_chances, Value.ref p0_a_rate, Value.ref p0_a_mark])), (p0_a_costs, Sum.inl (k_p0_a_costs, 5, Sum.inl f_p0_a_costs)), (p0_a_rate, Sum.inl (k_p0_a_rate, 3, Sum.inl f_p0_a_rate)), (p0_a_mark, Sum.inl (k_p0_a_mark, 2, Sum.inl f_p0_a_mark))] ++ va_pl LP fp) := hD
      refine W.widen (k := 0) (n := 0) (by decide) (by decide) ?_
      refine lv_i2l (v := (r27).toInt64) hx hb dX5_settle_64 rfl ?_
      refine lv_lmul hx hb dX5_settle_65 ?_
      refine lv_topl (fun y28 ey28 => ?_)
      have hy28 : jv y28 (-4611686018427387904) 4611686018427387904 := jv.mula (B := 2147483648) (D := 2147483648) ey28 (jv.i (show iv p4 (-2147483648) 2147483647 from i32_rng p4)) (jv.i (show iv r27 (-2147483648) 2147483647 from i32_rng r27)) (by decide) (by decide) (by decide) (by decide) (by decide) (by decide)
      have hPc := hP.sub (ws' := [(o, Sum.inr (5, [Value.long v4, Value.long v5, Value.long v6, Value.long v7, Value.int v8]))]) [0] rfl
      have hDc := hD.sub (ws' := [(o, Sum.inr (5, [Value.long v4, Value.long v5, Value.long v6, Value.long v7, Value.int v8]))]) [0] (by decide) rfl
      have hKc := hK.sub (tys' := []) [] rfl
      have hFc := va_free (wc := [(o, Sum.inr (5, [Value.long v4, Value.long v5, Value.long v6, Value.long v7, Value.int v8]))]) hD hS hA [0] rfl
      refine va_callv (va_runV (As := [Value.long y26, Value.long y28]) (rest := []) ⟨hx, hb, hml, hown, hts⟩ (ct_X5_need l dC dI o y26 y28 v4 v5 v6 v7 v8 hv8 H.size) (cwV 2 hts gX5_settle_X5_need rfl rfl rfl ⟨rfl, cn_X5.1, cn_X5.2, ds_13⟩ ⟨Nat.le_of_ble_eq_true rfl, Nat.le_of_ble_eq_true rfl⟩) ⟨fun a U g mk q => by obtain ⟨q0, q1, qP, qK, qD⟩ := q; exact ⟨q0, q1, qP, va_K.moved (u := U) (U := U.calling g mk a) (Vm.Alike.refl U.vm) qK, qD⟩, va_recv hKc hPc (ci := 5) (q0 := 0) rfl rfl, fun U hU hW => ⟨rfl, by rw [hU], by rw [hU]; exact hPc, va_K.moved hW.alike hKc, hDc.weaken (fun _ _ _ _ => trivial)⟩⟩ rfl rfl hl.1 rfl (lv_room (Nat.le_of_ble_eq_true rfl)) dX5_settle_66 ⟨Nat.le_of_ble_eq_true rfl, Nat.le_of_ble_eq_true rfl⟩) hS (fun q _ h => hFc q h) hFc (fun u t H1 locs ht hvm hw hB hz1 hk1 hS => ?_)
      obtain ⟨y30, y31, y32, y33, v34, hv34, hP1, hD1⟩ := hB
      rw [ht] at hP1
      obtain ⟨hP, hD⟩ := va_joinQ (X := [(o, Sum.inr (5, [Value.long v4, Value.long v5, Value.long v6, Value.long v7, Value.int v8])), (p0_a_brings, Sum.inl (k_p0_a_brings, 4, Sum.inl f_p0_a_brings)), (p0_a_chances, Sum.inl (k_p0_a_chances, 5, Sum.inr (Sum.inr (Sum.inr (Sum.inr (rows_of 5 R_p0_a_chances)))))), (p0, Sum.inr (3, [Value.int p0_v_signs, Value.int p0_v_works, Value.int p0_v_whole, Value.int p0_v_otherwise, Value.int p0_v_least, Value.int p0_v_rates, Value.ref p0_a_brings, Value.ref p0_a_costs, Value.ref p0_a_chances, Value.ref p0_a_rate, Value.ref p0_a_mark])), (p0_a_costs, Sum.inl (k_p0_a_costs, 5, Sum.inl f_p0_a_costs)), (p0_a_rate, Sum.inl (k_p0_a_rate, 3, Sum.inl f_p0_a_rate)), (p0_a_mark, Sum.inl (k_p0_a_mark, 2, Sum.inl f_p0_a_mark))]) (cx := [(o, Sum.inr (5, [Value.long v4, Value.long v5, Value.long v6, Value.long v7, Value.int v8]))]) (wr := [(p0_a_brings, Sum.inl (k_p0_a_brings, 4, Sum.inl f_p0_a_brings)), (p0_a_chances, Sum.inl (k_p0_a_chances, 5, Sum.inr (Sum.inr (Sum.inr (Sum.inr (rows_of 5 R_p0_a_chances)))))), (p0, Sum.inr (3, [Value.int p0_v_signs, Value.int p0_v_works, Value.int p0_v_whole, Value.int p0_v_otherwise, Value.int p0_v_least, Value.int p0_v_rates, Value.ref p0_a_brings, Value.ref p0_a_costs, Value.ref p0_a_chances, Value.ref p0_a_rate, Value.ref p0_a_mark])), (p0_a_costs, Sum.inl (k_p0_a_costs, 5, Sum.inl f_p0_a_costs)), (p0_a_rate, Sum.inl (k_p0_a_rate, 3, Sum.inl f_p0_a_rate)), (p0_a_mark, Sum.inl (k_p0_a_mark, 2, Sum.inl f_p0_a_mark))]) (w1 := [(o, Sum.inr (5, [Value.long y30, Value.long y31, Value.long y32, Value.long y33, Value.int v34]))]) hP hD [0] [1, 2, 3, 4, 5, 6] rfl rfl (by decide) (by decide) hk1 hFc hP1 hD1
      clear hPc hDc hKc hFc hP1 hD1 hk1 hz1
      generalize H1 = H at hP hS ⊢
      have hP : va_P (dC, dI) vwCl ([(p0_a_brings, Sum.inl (k_p0_a_brings, 4, Sum.inl f_p0_a_brings)), (p0_a_chances, Sum.inl (k_p0_a_chances, 5, Sum.inr (Sum.inr (Sum.inr (Sum.inr (rows_of 5 R_p0_a_chances)))))), (p0, Sum.inr (3, [Value.int p0_v_signs, Value.int p0_v_works, Value.int p0_v_whole, Value.int p0_v_otherwise, Value.int p0_v_least, Value.int p0_v_rates, Value.ref p0_a_brings, Value.ref p0_a_costs, Value.ref p0_a_chances, Value.ref p0_a_rate, Value.ref p0_a_mark])), (p0_a_costs, Sum.inl (k_p0_a_costs, 5, Sum.inl f_p0_a_costs)), (p0_a_rate, Sum.inl (k_p0_a_rate, 3, Sum.inl f_p0_a_rate)), (p0_a_mark, Sum.inl (k_p0_a_mark, 2, Sum.inl f_p0_a_mark)), (o, Sum.inr (5, [Value.long y30, Value.long y31, Value.long y32, Value.long y33, Value.int v34]))] ++ va_pl LP fp) H := hP
      have hD : va_D A ([(p0_a_brings, Sum.inl (k_p0_a_brings, 4, Sum.inl f_p0_a_brings)), (p0_a_chances, Sum.inl (k_p0_a_chances, 5, Sum.inr (Sum.inr (Sum.inr (Sum.inr (rows_of 5 R_p0_a_chances)))))), (p0, Sum.inr (3, [Value.int p0_v_signs, Value.int p0_v_works, Value.int p0_v_whole, Value.int p0_v_otherwise, Value.int p0_v_least, Value.int p0_v_rates, Value.ref p0_a_brings, Value.ref p0_a_costs, Value.ref p0_a_chances, Value.ref p0_a_rate, Value.ref p0_a_mark])), (p0_a_costs, Sum.inl (k_p0_a_costs, 5, Sum.inl f_p0_a_costs)), (p0_a_rate, Sum.inl (k_p0_a_rate, 3, Sum.inl f_p0_a_rate)), (p0_a_mark, Sum.inl (k_p0_a_mark, 2, Sum.inl f_p0_a_mark)), (o, Sum.inr (5, [Value.long y30, Value.long y31, Value.long y32, Value.long y33, Value.int v34]))] ++ va_pl LP fp) := hD
      refine W.widen (k := 0) (n := 0) (by decide) (by decide) ?_
      obtain ⟨x35, ex35⟩ : ∃ z : Int32, v3 + Int32.ofInt 1 = z := ⟨_, rfl⟩
      have tx35 := i32_inc ex35 rfl (by decide) (by omega) (by omega)
      refine lv_iinc (v := x35) (lv' := [(7, Value.int x35), (8, Value.int x25), (6, Value.int r2), (0, Value.ref o), (1, Value.ref p0), (2, Value.int p1), (3, Value.int p2), (4, Value.int p3), (5, Value.int p4)]) hx hb dX5_settle_69 hl (k := 1) rfl ex35 (by decide) rfl (fun ls hl => ?_)
      refine lv_goto (tgt := 15) hx hb dX5_settle_72 (by decide) ?_
      have bv34 := hv34.u
      have bv8 := hv8.u
      exact ih15 _ _ _ _ (ms_up hn15 tx35 (by decide) (by omega)) ⟨x35, y30, y31, y32, y33, v34, rfl, (iv.m (by omega)), hv34, hP.part [3, 4, 5, 6, 2, 0, 1] rfl, hD.part [3, 4, 5, 6, 2, 0, 1] (by decide) rfl, hS, lv_sub hl [0, 2, 3, 4, 5, 6, 7, 8] rfl⟩

