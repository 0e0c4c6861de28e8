set_option maxHeartbeats 4000000 in
set_option maxRecDepth 100000 in
theorem ct_X2_add (l : Launch) (dC : Nat → ClassId) (dI : Nat → Nat → Nat) (o : Nat) (p0 : Int64) (p1 : Int64) (v_upper : Int64) (v_lower : Int64) (sz : Nat) : Met l yX2_add wsX2_add ({ frames := 2, cells := 0, slots := 0, locals := 56 }) (va_Pc [Value.ref o, Value.long p0, Value.long p1] (fun U => U.heap.size = sz ∧ va_P (dC, dI) vwCl [(o, Sum.inr (2, [Value.long v_upper, Value.long v_lower]))] U.heap ∧ va_K (dC, dI) vwCl [] U ∧ va_D (fun _ => True) [(o, Sum.inr (2, [Value.long v_upper, Value.long v_lower]))])) (va_Qv (fun _ : Unit => True) (fun _ t => ∃ (e_v_upper : Int64) (e_v_lower : Int64), va_P (dC, dI) vwCl [(o, Sum.inr (2, [Value.long e_v_upper, Value.long e_v_lower]))] t.heap ∧ va_D (va_A [(o, Sum.inr (2, [Value.long v_upper, Value.long v_lower]))] sz) [(o, Sum.inr (2, [Value.long e_v_upper, Value.long e_v_lower]))]) (va_A [(o, Sum.inr (2, [Value.long v_upper, Value.long v_lower]))] sz)) 0 0 (va_A [(o, Sum.inr (2, [Value.long v_upper, Value.long v_lower]))] sz) := by
  refine Met.ofW (cc := cX2_add) (maxL := 5) (ret := none) pn_X2 rfl ?_
  intro p e s m args below meth c s₁ B hml hv
  obtain ⟨rfl, hsz, hP, hK, hD0⟩ := hv
  have hx := B.exec
  have hb := B.bytes
  have hr := B.returns
  have hts := atoms_spec (ws := wsX2_add) B.pre
  have hown : s.vm.findClass RX2 = some m.cls := findClass_of_methodNamed B.named
  have hlocks := B.notSynchronized
  subst hsz
  have hD := hD0.self (sz := s.heap.size)
  generalize hAe : va_A [(o, Sum.inr (2, [Value.long v_upper, Value.long v_lower]))] s.heap.size = A at hD ⊢
  have hA : ∀ q : Nat, s.heap.size ≤ q → A q := fun q h => by rw [← hAe]; exact Or.inr h
  have hS : va_S A s.heap s.heap [] := va_S.rf
  have hP : va_P (dC, dI) vwCl [(o, Sum.inr (2, [Value.long v_upper, Value.long v_lower]))] s.heap := hP
  have hl := lv_entry ([Value.ref o, Value.long p0, Value.long p1]) (n := 5) (Nat.le_of_ble_eq_true rfl)
  rw [lg_entry_eq]
  generalize (lg_sl ([Value.ref o, Value.long p0, Value.long p1]) ++ List.replicate (5 - (lg_sl ([Value.ref o, Value.long p0, Value.long p1])).length) Slot.unset).toArray = ls at hl ⊢
  have hl : lv_has ls 5 [(0, Value.ref o), (1, Value.long p0), (3, Value.long p1)] := hl
  refine lv_aload_n hx hb dX2_add_0 rfl (lv_at hl 0 rfl) ?_
  refine lv_aload_n hx hb dX2_add_1 rfl (lv_at hl 0 rfl) ?_
  refine va_get (D := (dC, dI)) (ci := 2) (v := Value.long v_upper) (C := RX2) (T := TX2) (N := 2) hx hb hts iw_X2_add_X2 hown hK hP 0 rfl rfl 0 (by decide) (hts _ kk_X2_add_0) (fun _ h9 => h9) rfl dX2_add_2 ?_
  refine lv_lload_n hx hb dX2_add_5 rfl (lv_at hl 2 rfl) ?_
  refine lv_lmul hx hb dX2_add_6 ?_
  refine lv_topl (fun y1 ey1 => ?_)
  refine lv_lload_n hx hb dX2_add_7 rfl (lv_at hl 1 rfl) ?_
  refine lv_aload_n hx hb dX2_add_8 rfl (lv_at hl 0 rfl) ?_
  refine va_get (D := (dC, dI)) (ci := 2) (v := Value.long v_lower) (C := RX2) (T := TX2) (N := 2) hx hb hts iw_X2_add_X2 hown hK hP 0 rfl rfl 1 (by decide) (hts _ kk_X2_add_1) (fun _ h9 => h9) rfl dX2_add_9 ?_
  refine lv_lmul hx hb dX2_add_12 ?_
  refine lv_topl (fun y2 ey2 => ?_)
  refine lv_ladd hx hb dX2_add_13 ?_
  refine lv_topl (fun y3 ey3 => ?_)
  refine lv_aload_n hx hb dX2_add_14 rfl (lv_at hl 0 rfl) ?_
  refine va_get (D := (dC, dI)) (ci := 2) (v := Value.long v_lower) (C := RX2) (T := TX2) (N := 2) hx hb hts iw_X2_add_X2 hown hK hP 0 rfl rfl 1 (by decide) (hts _ kk_X2_add_1) (fun _ h9 => h9) rfl dX2_add_15 ?_
  refine lv_lload_n hx hb dX2_add_18 rfl (lv_at hl 2 rfl) ?_
  refine lv_lmul hx hb dX2_add_19 ?_
  refine lv_topl (fun y4 ey4 => ?_)
  have hPc := hP.sub (ws' := [(o, Sum.inr (2, [Value.long v_upper, Value.long v_lower]))]) [0] rfl
  have hDc := hD.sub (ws' := [(o, Sum.inr (2, [Value.long v_upper, Value.long v_lower]))]) [0] (by decide) rfl
  have hKc := hK.sub (tys' := []) [] rfl
  have hFc := va_free (wc := [(o, Sum.inr (2, [Value.long v_upper, Value.long v_lower]))]) hD hS hA [0] rfl
  refine va_callv (va_runV (As := [Value.long y3, Value.long y4]) (rest := []) ⟨hx, hb, hml, hown, hts⟩ (ct_X2_become l dC dI o y3 y4 v_upper v_lower s.heap.size) (cwV 2 hts gX2_add_X2_become rfl rfl rfl ⟨rfl, cn_X2.1, cn_X2.2, ds_13⟩ ⟨Nat.le_of_ble_eq_true rfl, Nat.le_of_ble_eq_true rfl⟩) ⟨fun a U g mk q => by obtain ⟨q0, q1, qP, qK, qD⟩ := q; exact ⟨q0, q1, qP, va_K.moved (u := U) (U := U.calling g mk a) (Vm.Alike.refl U.vm) qK, qD⟩, va_recv hKc hPc (ci := 2) (q0 := 0) rfl rfl, fun U hU hW => ⟨rfl, by rw [hU], by rw [hU]; exact hPc, va_K.moved hW.alike hKc, hDc.weaken (fun _ _ _ _ => trivial)⟩⟩ rfl rfl hl.1 rfl (lv_room (Nat.le_of_ble_eq_true rfl)) dX2_add_20 ⟨Nat.le_of_ble_eq_true rfl, Nat.le_of_ble_eq_true rfl⟩) hS (fun q _ h => hFc q h) hFc (fun u t H1 locs ht hvm hw hB hz1 hk1 hS => ?_)
  obtain ⟨y6, y7, hP1, hD1⟩ := hB
  rw [ht] at hP1
  obtain ⟨hP, hD⟩ := va_join (wr := []) (w1 := [(o, Sum.inr (2, [Value.long y6, Value.long y7]))]) hP hD [0] [] rfl rfl (by decide) (by decide) hk1 hFc hP1 hD1
  clear hPc hDc hKc hFc hP1 hD1 hk1 hz1
  generalize H1 = H at hP hS ⊢
  have hP : va_P (dC, dI) vwCl [(o, Sum.inr (2, [Value.long y6, Value.long y7]))] H := hP
  have hD : va_D A [(o, Sum.inr (2, [Value.long y6, Value.long y7]))] := hD
  refine W.widen (k := 0) (n := 0) (by decide) (by decide) ?_
  have hP9 := hP.sub (ws' := [(o, Sum.inr (2, [Value.long y6, Value.long y7]))]) [0] rfl
  have hD9 := hD.sub (ws' := [(o, Sum.inr (2, [Value.long y6, Value.long y7]))]) [0] (by decide) rfl
  exact W.vret hx hb hr (fun t ht hW => ⟨⟨(), rfl, trivial, y6, y7, by rw [ht]; exact hP9, hD9⟩, hS.F ht⟩) hS.2.2 dX2_add_23

set_option maxHeartbeats 4000000 in
set_option maxRecDepth 100000 in
theorem ct_X2_isBelow (l : Launch) (dC : Nat → ClassId) (dI : Nat → Nat → Nat) (p0 : Nat) (p1 : Nat) (p0_v_upper : Int64) (p0_v_lower : Int64) (p1_v_upper : Int64) (p1_v_lower : Int64) (sz : Nat) : Met l yX2_isBelow wsX2_isBelow ({ frames := 0, cells := 0, slots := 0, locals := 0 }) (va_Pc [Value.ref p0, Value.ref p1] (fun U => U.heap.size = sz ∧ va_P (dC, dI) vwCl [(p0, Sum.inr (2, [Value.long p0_v_upper, Value.long p0_v_lower])), (p1, Sum.inr (2, [Value.long p1_v_upper, Value.long p1_v_lower]))] U.heap ∧ va_K (dC, dI) vwCl [] U ∧ va_D (fun _ => True) [(p0, Sum.inr (2, [Value.long p0_v_upper, Value.long p0_v_lower])), (p1, Sum.inr (2, [Value.long p1_v_upper, Value.long p1_v_lower]))])) (va_Qi (fun (r u : Int32) => u = r) (fun (r : Int32) t => ((r = 0) ∨ (r = 1)) ∧ va_P (dC, dI) vwCl [(p0, Sum.inr (2, [Value.long p0_v_upper, Value.long p0_v_lower])), (p1, Sum.inr (2, [Value.long p1_v_upper, Value.long p1_v_lower]))] t.heap ∧ va_D (va_A [(p0, Sum.inr (2, [Value.long p0_v_upper, Value.long p0_v_lower])), (p1, Sum.inr (2, [Value.long p1_v_upper, Value.long p1_v_lower]))] sz) [(p0, Sum.inr (2, [Value.long p0_v_upper, Value.long p0_v_lower])), (p1, Sum.inr (2, [Value.long p1_v_upper, Value.long p1_v_lower]))]) (va_A [(p0, Sum.inr (2, [Value.long p0_v_upper, Value.long p0_v_lower])), (p1, Sum.inr (2, [Value.long p1_v_upper, Value.long p1_v_lower]))] sz)) 0 0 (va_A [(p0, Sum.inr (2, [Value.long p0_v_upper, Value.long p0_v_lower])), (p1, Sum.inr (2, [Value.long p1_v_upper, Value.long p1_v_lower]))] sz) := by
  refine Met.ofW (cc := cX2_isBelow) (maxL := 2) (ret := (some .boolean)) pn_X2 rfl ?_
  intro p e s m args below meth c s₁ B hml hv
  obtain ⟨rfl, hsz, hP, hK, hD0⟩ := hv
  have hx := B.exec
  have hb := B.bytes
  have hr := B.returns
  have hts := atoms_spec (ws := wsX2_isBelow) B.pre
  have hown : s.vm.findClass RX2 = some m.cls := findClass_of_methodNamed B.named
  have hlocks := B.notSynchronized
  subst hsz
  have hD := hD0.self (sz := s.heap.size)
  generalize hAe : va_A [(p0, Sum.inr (2, [Value.long p0_v_upper, Value.long p0_v_lower])), (p1, Sum.inr (2, [Value.long p1_v_upper, Value.long p1_v_lower]))] s.heap.size = A at hD ⊢
  have hA : ∀ q : Nat, s.heap.size ≤ q → A q := fun q h => by rw [← hAe]; exact Or.inr h
  have hS : va_S A s.heap s.heap [] := va_S.rf
  have hP : va_P (dC, dI) vwCl [(p0, Sum.inr (2, [Value.long p0_v_upper, Value.long p0_v_lower])), (p1, Sum.inr (2, [Value.long p1_v_upper, Value.long p1_v_lower]))] s.heap := hP
  have hl := lv_entry ([Value.ref p0, Value.ref p1]) (n := 2) (Nat.le_of_ble_eq_true rfl)
  rw [lg_entry_eq]
  generalize (lg_sl ([Value.ref p0, Value.ref p1]) ++ List.replicate (2 - (lg_sl ([Value.ref p0, Value.ref p1])).length) Slot.unset).toArray = ls at hl ⊢
  have hl : lv_has ls 2 [(0, Value.ref p0), (1, Value.ref p1)] := hl
  refine lv_aload_n hx hb dX2_isBelow_0 rfl (lv_at hl 0 rfl) ?_
  refine va_get (D := (dC, dI)) (ci := 2) (v := Value.long p0_v_upper) (C := RX2) (T := TX2) (N := 2) hx hb hts iw_X2_isBelow_X2 hown hK hP 0 rfl rfl 0 (by decide) (hts _ kk_X2_isBelow_0) (fun _ h9 => h9) rfl dX2_isBelow_1 ?_
  refine lv_aload_n hx hb dX2_isBelow_4 rfl (lv_at hl 1 rfl) ?_
  refine va_get (D := (dC, dI)) (ci := 2) (v := Value.long p1_v_lower) (C := RX2) (T := TX2) (N := 2) hx hb hts iw_X2_isBelow_X2 hown hK hP 1 rfl rfl 1 (by decide) (hts _ kk_X2_isBelow_1) (fun _ h9 => h9) rfl dX2_isBelow_5 ?_
  refine lv_lmul hx hb dX2_isBelow_8 ?_
  refine lv_topl (fun y1 ey1 => ?_)
  refine lv_aload_n hx hb dX2_isBelow_9 rfl (lv_at hl 1 rfl) ?_
  refine va_get (D := (dC, dI)) (ci := 2) (v := Value.long p1_v_upper) (C := RX2) (T := TX2) (N := 2) hx hb hts iw_X2_isBelow_X2 hown hK hP 1 rfl rfl 0 (by decide) (hts _ kk_X2_isBelow_0) (fun _ h9 => h9) rfl dX2_isBelow_10 ?_
  refine lv_aload_n hx hb dX2_isBelow_13 rfl (lv_at hl 0 rfl) ?_
  refine va_get (D := (dC, dI)) (ci := 2) (v := Value.long p0_v_lower) (C := RX2) (T := TX2) (N := 2) hx hb hts iw_X2_isBelow_X2 hown hK hP 0 rfl rfl 1 (by decide) (hts _ kk_X2_isBelow_1) (fun _ h9 => h9) rfl dX2_isBelow_14 ?_
  refine lv_lmul hx hb dX2_isBelow_17 ?_
  refine lv_topl (fun y2 ey2 => ?_)
  refine W.lcmp hx hb dX2_isBelow_18 ?_
  refine lv_if_ge (tgt := 26) hx hb dX2_isBelow_19 (by decide) (fun c3 => ?_) (fun c3 => ?_)
  · skip
    have c39 := lc_ge c3
    refine lv_iconst (v := 0) hx hb dX2_isBelow_26 (by decide) ?_
    have hP9 := hP.sub (ws' := [(p0, Sum.inr (2, [Value.long p0_v_upper, Value.long p0_v_lower])), (p1, Sum.inr (2, [Value.long p1_v_upper, Value.long p1_v_lower]))]) [0, 1] rfl
    have hD9 := hD.sub (ws' := [(p0, Sum.inr (2, [Value.long p0_v_upper, Value.long p0_v_lower])), (p1, Sum.inr (2, [Value.long p1_v_upper, Value.long p1_v_lower]))]) [0, 1] (by decide) rfl
    exact W.zret (v := 0) hx hb hr rfl (fun t ht hW => ⟨⟨0, 0, rfl, rfl, (Or.inl rfl), by rw [ht]; exact hP9, hD9⟩, hS.F ht⟩) hS.2.2 dX2_isBelow_27
  · skip
    have c39 := lc_nge c3
    refine lv_iconst (v := 1) hx hb dX2_isBelow_22 (by decide) ?_
    refine lv_goto (tgt := 27) hx hb dX2_isBelow_23 (by decide) ?_
    have hP9 := hP.sub (ws' := [(p0, Sum.inr (2, [Value.long p0_v_upper, Value.long p0_v_lower])), (p1, Sum.inr (2, [Value.long p1_v_upper, Value.long p1_v_lower]))]) [0, 1] rfl
    have hD9 := hD.sub (ws' := [(p0, Sum.inr (2, [Value.long p0_v_upper, Value.long p0_v_lower])), (p1, Sum.inr (2, [Value.long p1_v_upper, Value.long p1_v_lower]))]) [0, 1] (by decide) rfl
    exact W.zret (v := 1) hx hb hr rfl (fun t ht hW => ⟨⟨1, 1, rfl, rfl, (Or.inr (rfl)), by rw [ht]; exact hP9, hD9⟩, hS.F ht⟩) hS.2.2 dX2_isBelow_27

set_option maxHeartbeats 4000000 in
set_option maxRecDepth 100000 in
theorem ct_X3_clear (l : Launch) (dC : Nat → ClassId) (dI : Nat → Nat → Nat) (o : Nat) (v_signs : Int32) (v_works : Int32) (v_whole : Int32) (v_otherwise : Int32) (v_least : Int32) (v_rates : Int32) (a_brings : Nat) (a_costs : Nat) (a_chances : Nat) (a_rate : Nat) (a_mark : Nat) (k_a_rate : ClassId) (f_a_rate : Nat → Int32) (sz : Nat) : Met l yX3_clear wsX3_clear ({ frames := 0, cells := 0, slots := 0, locals := 0 }) (va_Pc [Value.ref o] (fun U => U.heap.size = sz ∧ va_P (dC, dI) vwCl [(o, Sum.inr (3, [Value.int v_signs, Value.int v_works, Value.int v_whole, Value.int v_otherwise, Value.int v_least, Value.int v_rates, Value.ref a_brings, Value.ref a_costs, Value.ref a_chances, Value.ref a_rate, Value.ref a_mark])), (a_rate, Sum.inl (k_a_rate, 3, Sum.inl f_a_rate))] U.heap ∧ va_K (dC, dI) vwCl [(k_a_rate, FieldType.int)] U ∧ va_D (fun _ => True) [(o, Sum.inr (3, [Value.int v_signs, Value.int v_works, Value.int v_whole, Value.int v_otherwise, Value.int v_least, Value.int v_rates, Value.ref a_brings, Value.ref a_costs, Value.ref a_chances, Value.ref a_rate, Value.ref a_mark])), (a_rate, Sum.inl (k_a_rate, 3, Sum.inl f_a_rate))])) (va_Qv (fun _ : Unit => True) (fun _ t => ∃ (e_f_a_rate : Nat → Int32), va_P (dC, dI) vwCl [(o, Sum.inr (3, [Value.int 0, Value.int 0, Value.int 10, Value.int 0, Value.int 0, Value.int 1, Value.ref a_brings, Value.ref a_costs, Value.ref a_chances, Value.ref a_rate, Value.ref a_mark])), (a_rate, Sum.inl (k_a_rate, 3, Sum.inl e_f_a_rate))] t.heap ∧ va_D (va_A [(o, Sum.inr (3, [Value.int v_signs, Value.int v_works, Value.int v_whole, Value.int v_otherwise, Value.int v_least, Value.int v_rates, Value.ref a_brings, Value.ref a_costs, Value.ref a_chances, Value.ref a_rate, Value.ref a_mark])), (a_rate, Sum.inl (k_a_rate, 3, Sum.inl f_a_rate))] sz) [(o, Sum.inr (3, [Value.int 0, Value.int 0, Value.int 10, Value.int 0, Value.int 0, Value.int 1, Value.ref a_brings, Value.ref a_costs, Value.ref a_chances, Value.ref a_rate, Value.ref a_mark])), (a_rate, Sum.inl (k_a_rate, 3, Sum.inl e_f_a_rate))]) (va_A [(o, Sum.inr (3, [Value.int v_signs, Value.int v_works, Value.int v_whole, Value.int v_otherwise, Value.int v_least, Value.int v_rates, Value.ref a_brings, Value.ref a_costs, Value.ref a_chances, Value.ref a_rate, Value.ref a_mark])), (a_rate, Sum.inl (k_a_rate, 3, Sum.inl f_a_rate))] sz)) 0 0 (va_A [(o, Sum.inr (3, [Value.int v_signs, Value.int v_works, Value.int v_whole, Value.int v_otherwise, Value.int v_least, Value.int v_rates, Value.ref a_brings, Value.ref a_costs, Value.ref a_chances, Value.ref a_rate, Value.ref a_mark])), (a_rate, Sum.inl (k_a_rate, 3, Sum.inl f_a_rate))] sz) := by
  refine Met.ofW (cc := cX3_clear) (maxL := 1) (ret := none) pn_X3 rfl ?_
  intro p e s m args below meth c s₁ B hml hv
  obtain ⟨rfl, hsz, hP, hK, hD0⟩ := hv
  have hx := B.exec
  have hb := B.bytes
  have hr := B.returns
  have hts := atoms_spec (ws := wsX3_clear) B.pre
  have hown : s.vm.findClass RX3 = some m.cls := findClass_of_methodNamed B.named
  have hlocks := B.notSynchronized
  subst hsz
  have hD := hD0.self (sz := s.heap.size)
  generalize hAe : va_A [(o, Sum.inr (3, [Value.int v_signs, Value.int v_works, Value.int v_whole, Value.int v_otherwise, Value.int v_least, Value.int v_rates, Value.ref a_brings, Value.ref a_costs, Value.ref a_chances, Value.ref a_rate, Value.ref a_mark])), (a_rate, Sum.inl (k_a_rate, 3, Sum.inl f_a_rate))] s.heap.size = A at hD ⊢
  have hA : ∀ q : Nat, s.heap.size ≤ q → A q := fun q h => by rw [← hAe]; exact Or.inr h
  have hS : va_S A s.heap s.heap [] := va_S.rf
  have hP : va_P (dC, dI) vwCl [(o, Sum.inr (3, [Value.int v_signs, Value.int v_works, Value.int v_whole, Value.int v_otherwise, Value.int v_least, Value.int v_rates, Value.ref a_brings, Value.ref a_costs, Value.ref a_chances, Value.ref a_rate, Value.ref a_mark])), (a_rate, Sum.inl (k_a_rate, 3, Sum.inl f_a_rate))] s.heap := hP
  have hl := lv_entry ([Value.ref o]) (n := 1) (Nat.le_of_ble_eq_true rfl)
  rw [lg_entry_eq]
  generalize (lg_sl ([Value.ref o]) ++ List.replicate (1 - (lg_sl ([Value.ref o])).length) Slot.unset).toArray = ls at hl ⊢
  have hl : lv_has ls 1 [(0, Value.ref o)] := hl
  refine lv_aload_n hx hb dX3_clear_0 rfl (lv_at hl 0 rfl) ?_
  refine lv_iconst (v := 0) hx hb dX3_clear_1 (by decide) ?_
  refine va_put (D := (dC, dI)) (ci := 3) (v := Value.int 0) (ty := FieldType.int) (C := RX3) (T := TX3) (N := 11) hx hb hts iw_X3_clear_X3 tyX3 tyX3_ok nmX3 hown hK hP hD hS 0 rfl rfl 0 (by decide) (hts _ kk_X3_clear_0) (fun _ h9 => h9) rfl (by decide +kernel) rfl rfl (Nat.le_of_ble_eq_true rfl) dX3_clear_2 (fun H locs hP hD hS => ?_)
  have hP : va_P (dC, dI) vwCl [(o, Sum.inr (3, [Value.int 0, Value.int v_works, Value.int v_whole, Value.int v_otherwise, Value.int v_least, Value.int v_rates, Value.ref a_brings, Value.ref a_costs, Value.ref a_chances, Value.ref a_rate, Value.ref a_mark])), (a_rate, Sum.inl (k_a_rate, 3, Sum.inl f_a_rate))] H := hP
  have hD : va_D A [(o, Sum.inr (3, [Value.int 0, Value.int v_works, Value.int v_whole, Value.int v_otherwise, Value.int v_least, Value.int v_rates, Value.ref a_brings, Value.ref a_costs, Value.ref a_chances, Value.ref a_rate, Value.ref a_mark])), (a_rate, Sum.inl (k_a_rate, 3, Sum.inl f_a_rate))] := hD
  refine lv_aload_n hx hb dX3_clear_5 rfl (lv_at hl 0 rfl) ?_
  refine lv_iconst (v := 0) hx hb dX3_clear_6 (by decide) ?_
  refine va_put (D := (dC, dI)) (ci := 3) (v := Value.int 0) (ty := FieldType.int) (C := RX3) (T := TX3) (N := 11) hx hb hts iw_X3_clear_X3 tyX3 tyX3_ok nmX3 hown hK hP hD hS 0 rfl rfl 1 (by decide) (hts _ kk_X3_clear_1) (fun _ h9 => h9) rfl (by decide +kernel) rfl rfl (Nat.le_of_ble_eq_true rfl) dX3_clear_7 (fun H locs hP hD hS => ?_)
  have hP : va_P (dC, dI) vwCl [(o, Sum.inr (3, [Value.int 0, Value.int 0, Value.int v_whole, Value.int v_otherwise, Value.int v_least, Value.int v_rates, Value.ref a_brings, Value.ref a_costs, Value.ref a_chances, Value.ref a_rate, Value.ref a_mark])), (a_rate, Sum.inl (k_a_rate, 3, Sum.inl f_a_rate))] H := hP
  have hD : va_D A [(o, Sum.inr (3, [Value.int 0, Value.int 0, Value.int v_whole, Value.int v_otherwise, Value.int v_least, Value.int v_rates, Value.ref a_brings, Value.ref a_costs, Value.ref a_chances, Value.ref a_rate, Value.ref a_mark])), (a_rate, Sum.inl (k_a_rate, 3, Sum.inl f_a_rate))] := hD
  refine lv_aload_n hx hb dX3_clear_10 rfl (lv_at hl 0 rfl) ?_
  refine lv_bipush (v := 10) hx hb dX3_clear_11 (by decide) ?_
  refine va_put (D := (dC, dI)) (ci := 3) (v := Value.int 10) (ty := FieldType.int) (C := RX3) (T := TX3) (N := 11) hx hb hts iw_X3_clear_X3 tyX3 tyX3_ok nmX3 hown hK hP hD hS 0 rfl rfl 2 (by decide) (hts _ kk_X3_clear_2) (fun _ h9 => h9) rfl (by decide +kernel) rfl rfl (Nat.le_of_ble_eq_true rfl) dX3_clear_13 (fun H locs hP hD hS => ?_)
  have hP : va_P (dC, dI) vwCl [(o, Sum.inr (3, [Value.int 0, Value.int 0, Value.int 10, Value.int v_otherwise, Value.int v_least, Value.int v_rates, Value.ref a_brings, Value.ref a_costs, Value.ref a_chances, Value.ref a_rate, Value.ref a_mark])), (a_rate, Sum.inl (k_a_rate, 3, Sum.inl f_a_rate))] H := hP
  have hD : va_D A [(o, Sum.inr (3, [Value.int 0, Value.int 0, Value.int 10, Value.int v_otherwise, Value.int v_least, Value.int v_rates, Value.ref a_brings, Value.ref a_costs, Value.ref a_chances, Value.ref a_rate, Value.ref a_mark])), (a_rate, Sum.inl (k_a_rate, 3, Sum.inl f_a_rate))] := hD
  refine lv_aload_n hx hb dX3_clear_16 rfl (lv_at hl 0 rfl) ?_
  refine lv_iconst (v := 0) hx hb dX3_clear_17 (by decide) ?_
  refine va_put (D := (dC, dI)) (ci := 3) (v := Value.int 0) (ty := FieldType.int) (C := RX3) (T := TX3) (N := 11) hx hb hts iw_X3_clear_X3 tyX3 tyX3_ok nmX3 hown hK hP hD hS 0 rfl rfl 3 (by decide) (hts _ kk_X3_clear_3) (fun _ h9 => h9) rfl (by decide +kernel) rfl rfl (Nat.le_of_ble_eq_true rfl) dX3_clear_18 (fun H locs hP hD hS => ?_)
  have hP : va_P (dC, dI) vwCl [(o, Sum.inr (3, [Value.int 0, Value.int 0, Value.int 10, Value.int 0, Value.int v_least, Value.int v_rates, Value.ref a_brings, Value.ref a_costs, Value.ref a_chances, Value.ref a_rate, Value.ref a_mark])), (a_rate, Sum.inl (k_a_rate, 3, Sum.inl f_a_rate))] H := hP
  have hD : va_D A [(o, Sum.inr (3, [Value.int 0, Value.int 0, Value.int 10, Value.int 0, Value.int v_least, Value.int v_rates, Value.ref a_brings, Value.ref a_costs, Value.ref a_chances, Value.ref a_rate, Value.ref a_mark])), (a_rate, Sum.inl (k_a_rate, 3, Sum.inl f_a_rate))] := hD
  refine lv_aload_n hx hb dX3_clear_21 rfl (lv_at hl 0 rfl) ?_
  refine lv_iconst (v := 0) hx hb dX3_clear_22 (by decide) ?_
  refine va_put (D := (dC, dI)) (ci := 3) (v := Value.int 0) (ty := FieldType.int) (C := RX3) (T := TX3) (N := 11) hx hb hts iw_X3_clear_X3 tyX3 tyX3_ok nmX3 hown hK hP hD hS 0 rfl rfl 4 (by decide) (hts _ kk_X3_clear_4) (fun _ h9 => h9) rfl (by decide +kernel) rfl rfl (Nat.le_of_ble_eq_true rfl) dX3_clear_23 (fun H locs hP hD hS => ?_)
  have hP : va_P (dC, dI) vwCl [(o, Sum.inr (3, [Value.int 0, Value.int 0, Value.int 10, Value.int 0, Value.int 0, Value.int v_rates, Value.ref a_brings, Value.ref a_costs, Value.ref a_chances, Value.ref a_rate, Value.ref a_mark])), (a_rate, Sum.inl (k_a_rate, 3, Sum.inl f_a_rate))] H := hP
  have hD : va_D A [(o, Sum.inr (3, [Value.int 0, Value.int 0, Value.int 10, Value.int 0, Value.int 0, Value.int v_rates, Value.ref a_brings, Value.ref a_costs, Value.ref a_chances, Value.ref a_rate, Value.ref a_mark])), (a_rate, Sum.inl (k_a_rate, 3, Sum.inl f_a_rate))] := hD
  refine lv_aload_n hx hb dX3_clear_26 rfl (lv_at hl 0 rfl) ?_
  refine lv_iconst (v := 1) hx hb dX3_clear_27 (by decide) ?_
  refine va_put (D := (dC, dI)) (ci := 3) (v := Value.int 1) (ty := FieldType.int) (C := RX3) (T := TX3) (N := 11) hx hb hts iw_X3_clear_X3 tyX3 tyX3_ok nmX3 hown hK hP hD hS 0 rfl rfl 5 (by decide) (hts _ kk_X3_clear_5) (fun _ h9 => h9) rfl (by decide +kernel) rfl rfl (Nat.le_of_ble_eq_true rfl) dX3_clear_28 (fun H locs hP hD hS => ?_)
  have hP : va_P (dC, dI) vwCl [(o, Sum.inr (3, [Value.int 0, Value.int 0, Value.int 10, Value.int 0, Value.int 0, Value.int 1, Value.ref a_brings, Value.ref a_costs, Value.ref a_chances, Value.ref a_rate, Value.ref a_mark])), (a_rate, Sum.inl (k_a_rate, 3, Sum.inl f_a_rate))] H := hP
  have hD : va_D A [(o, Sum.inr (3, [Value.int 0, Value.int 0, Value.int 10, Value.int 0, Value.int 0, Value.int 1, Value.ref a_brings, Value.ref a_costs, Value.ref a_chances, Value.ref a_rate, Value.ref a_mark])), (a_rate, Sum.inl (k_a_rate, 3, Sum.inl f_a_rate))] := hD
  refine lv_aload_n hx hb dX3_clear_31 rfl (lv_at hl 0 rfl) ?_
  refine va_get (D := (dC, dI)) (ci := 3) (v := Value.ref a_rate) (C := RX3) (T := TX3) (N := 11) hx hb hts iw_X3_clear_X3 hown hK hP 0 rfl rfl 9 (by decide) (hts _ kk_X3_clear_6) (fun _ h9 => h9) rfl dX3_clear_32 ?_
  refine lv_iconst (v := 0) hx hb dX3_clear_35 (by decide) ?_
  refine lv_iconst (v := 1) hx hb dX3_clear_36 (by decide) ?_
  refine va_iast hx hb hK hP hD hS 1 0 rfl rfl (vq_in 0 3 (by decide)) dX3_clear_37 (fun H locs hP hD hS => ?_)
  have hP : va_P (dC, dI) vwCl [(o, Sum.inr (3, [Value.int 0, Value.int 0, Value.int 10, Value.int 0, Value.int 0, Value.int 1, Value.ref a_brings, Value.ref a_costs, Value.ref a_chances, Value.ref a_rate, Value.ref a_mark])), (a_rate, Sum.inl (k_a_rate, 3, Sum.inl (upd f_a_rate (Int32.toNatClampNeg 0) 1)))] H := hP
  have hD : va_D A [(o, Sum.inr (3, [Value.int 0, Value.int 0, Value.int 10, Value.int 0, Value.int 0, Value.int 1, Value.ref a_brings, Value.ref a_costs, Value.ref a_chances, Value.ref a_rate, Value.ref a_mark])), (a_rate, Sum.inl (k_a_rate, 3, Sum.inl (upd f_a_rate (Int32.toNatClampNeg 0) 1)))] := hD
  have wf1 : (upd f_a_rate (Int32.toNatClampNeg 0) 1) (Int32.toNatClampNeg 0) = 1 := pk_us
  generalize upd f_a_rate (Int32.toNatClampNeg 0) 1 = f1 at hP hD wf1
  have hP : va_P (dC, dI) vwCl [(o, Sum.inr (3, [Value.int 0, Value.int 0, Value.int 10, Value.int 0, Value.int 0, Value.int 1, Value.ref a_brings, Value.ref a_costs, Value.ref a_chances, Value.ref a_rate, Value.ref a_mark])), (a_rate, Sum.inl (k_a_rate, 3, Sum.inl f1))] H := hP
  have hD : va_D A [(o, Sum.inr (3, [Value.int 0, Value.int 0, Value.int 10, Value.int 0, Value.int 0, Value.int 1, Value.ref a_brings, Value.ref a_costs, Value.ref a_chances, Value.ref a_rate, Value.ref a_mark])), (a_rate, Sum.inl (k_a_rate, 3, Sum.inl f1))] := hD
  have hP9 := hP.sub (ws' := [(o, Sum.inr (3, [Value.int 0, Value.int 0, Value.int 10, Value.int 0, Value.int 0, Value.int 1, Value.ref a_brings, Value.ref a_costs, Value.ref a_chances, Value.ref a_rate, Value.ref a_mark])), (a_rate, Sum.inl (k_a_rate, 3, Sum.inl f1))]) [0, 1] rfl
  have hD9 := hD.sub (ws' := [(o, Sum.inr (3, [Value.int 0, Value.int 0, Value.int 10, Value.int 0, Value.int 0, Value.int 1, Value.ref a_brings, Value.ref a_costs, Value.ref a_chances, Value.ref a_rate, Value.ref a_mark])), (a_rate, Sum.inl (k_a_rate, 3, Sum.inl f1))]) [0, 1] (by decide) rfl
  exact W.vret hx hb hr (fun t ht hW => ⟨⟨(), rfl, trivial, f1, by rw [ht]; exact hP9, hD9⟩, hS.F ht⟩) hS.2.2 dX3_clear_38

set_option maxHeartbeats 4000000 in
set_option maxRecDepth 100000 in
theorem ct_X3_wageOf (l : Launch) (dC : Nat → ClassId) (dI : Nat → Nat → Nat) (o : Nat) (p0 : Int64) (p1 : Int64) (p2 : Nat) (v_signs : Int32) (v_works : Int32) (v_whole : Int32) (v_otherwise : Int32) (v_least : Int32) (v_rates : Int32) (a_brings : Nat) (a_costs : Nat) (a_chances : Nat) (a_rate : Nat) (a_mark : Nat) (k_a_rate : ClassId) (f_a_rate : Nat → Int32) (k_a_mark : ClassId) (f_a_mark : Nat → Int32) (p2_v_upper : Int64) (p2_v_lower : Int64) (hv_rates : iv v_rates 1 3) (sz : Nat) : Met l yX3_wageOf wsX3_wageOf ({ frames := 2, cells := 0, slots := 0, locals := 56 }) (va_Pc [Value.ref o, Value.long p0, Value.long p1, Value.ref p2] (fun U => U.heap.size = sz ∧ va_P (dC, dI) vwCl [(o, Sum.inr (3, [Value.int v_signs, Value.int v_works, Value.int v_whole, Value.int v_otherwise, Value.int v_least, Value.int v_rates, Value.ref a_brings, Value.ref a_costs, Value.ref a_chances, Value.ref a_rate, Value.ref a_mark])), (a_rate, Sum.inl (k_a_rate, 3, Sum.inl f_a_rate)), (a_mark, Sum.inl (k_a_mark, 2, Sum.inl f_a_mark)), (p2, Sum.inr (2, [Value.long p2_v_upper, Value.long p2_v_lower]))] U.heap ∧ va_K (dC, dI) vwCl [(k_a_rate, FieldType.int), (k_a_mark, FieldType.int)] U ∧ va_D (fun _ => True) [(o, Sum.inr (3, [Value.int v_signs, Value.int v_works, Value.int v_whole, Value.int v_otherwise, Value.int v_least, Value.int v_rates, Value.ref a_brings, Value.ref a_costs, Value.ref a_chances, Value.ref a_rate, Value.ref a_mark])), (a_rate, Sum.inl (k_a_rate, 3, Sum.inl f_a_rate)), (a_mark, Sum.inl (k_a_mark, 2, Sum.inl f_a_mark)), (p2, Sum.inr (2, [Value.long p2_v_upper, Value.long p2_v_lower]))])) (va_Qv (fun _ : Unit => True) (fun _ t => ∃ (e_p2_v_upper : Int64) (e_p2_v_lower : Int64), va_P (dC, dI) vwCl [(o, Sum.inr (3, [Value.int v_signs, Value.int v_works, Value.int v_whole, Value.int v_otherwise, Value.int v_least, Value.int v_rates, Value.ref a_brings, Value.ref a_costs, Value.ref a_chances, Value.ref a_rate, Value.ref a_mark])), (a_rate, Sum.inl (k_a_rate, 3, Sum.inl f_a_rate)), (a_mark, Sum.inl (k_a_mark, 2, Sum.inl f_a_mark)), (p2, Sum.inr (2, [Value.long e_p2_v_upper, Value.long e_p2_v_lower]))] t.heap ∧ va_D (va_A [(o, Sum.inr (3, [Value.int v_signs, Value.int v_works, Value.int v_whole, Value.int v_otherwise, Value.int v_least, Value.int v_rates, Value.ref a_brings, Value.ref a_costs, Value.ref a_chances, Value.ref a_rate, Value.ref a_mark])), (a_rate, Sum.inl (k_a_rate, 3, Sum.inl f_a_rate)), (a_mark, Sum.inl (k_a_mark, 2, Sum.inl f_a_mark)), (p2, Sum.inr (2, [Value.long p2_v_upper, Value.long p2_v_lower]))] sz) [(o, Sum.inr (3, [Value.int v_signs, Value.int v_works, Value.int v_whole, Value.int v_otherwise, Value.int v_least, Value.int v_rates, Value.ref a_brings, Value.ref a_costs, Value.ref a_chances, Value.ref a_rate, Value.ref a_mark])), (a_rate, Sum.inl (k_a_rate, 3, Sum.inl f_a_rate)), (a_mark, Sum.inl (k_a_mark, 2, Sum.inl f_a_mark)), (p2, Sum.inr (2, [Value.long e_p2_v_upper, Value.long e_p2_v_lower]))]) (va_A [(o, Sum.inr (3, [Value.int v_signs, Value.int v_works, Value.int v_whole, Value.int v_otherwise, Value.int v_least, Value.int v_rates, Value.ref a_brings, Value.ref a_costs, Value.ref a_chances, Value.ref a_rate, Value.ref a_mark])), (a_rate, Sum.inl (k_a_rate, 3, Sum.inl f_a_rate)), (a_mark, Sum.inl (k_a_mark, 2, Sum.inl f_a_mark)), (p2, Sum.inr (2, [Value.long p2_v_upper, Value.long p2_v_lower]))] sz)) 0 0 (va_A [(o, Sum.inr (3, [Value.int v_signs, Value.int v_works, Value.int v_whole, Value.int v_otherwise, Value.int v_least, Value.int v_rates, Value.ref a_brings, Value.ref a_costs, Value.ref a_chances, Value.ref a_rate, Value.ref a_mark])), (a_rate, Sum.inl (k_a_rate, 3, Sum.inl f_a_rate)), (a_mark, Sum.inl (k_a_mark, 2, Sum.inl f_a_mark)), (p2, Sum.inr (2, [Value.long p2_v_upper, Value.long p2_v_lower]))] sz) := by
  refine Met.ofW (cc := cX3_wageOf) (maxL := 13) (ret := none) pn_X3 rfl ?_
  intro p e s m args below meth c s₁ B hml hv
  obtain ⟨rfl, hsz, hP, hK, hD0⟩ := hv
  have hx := B.exec
  have hb := B.bytes
  have hr := B.returns
  have hts := atoms_spec (ws := wsX3_wageOf) B.pre
  have hown : s.vm.findClass RX3 = some m.cls := findClass_of_methodNamed B.named
  have hlocks := B.notSynchronized
  subst hsz
  have hD := hD0.self (sz := s.heap.size)
  generalize hAe : va_A [(o, Sum.inr (3, [Value.int v_signs, Value.int v_works, Value.int v_whole, Value.int v_otherwise, Value.int v_least, Value.int v_rates, Value.ref a_brings, Value.ref a_costs, Value.ref a_chances, Value.ref a_rate, Value.ref a_mark])), (a_rate, Sum.inl (k_a_rate, 3, Sum.inl f_a_rate)), (a_mark, Sum.inl (k_a_mark, 2, Sum.inl f_a_mark)), (p2, Sum.inr (2, [Value.long p2_v_upper, Value.long p2_v_lower]))] s.heap.size = A at hD ⊢
  have hA : ∀ q : Nat, s.heap.size ≤ q → A q := fun q h => by rw [← hAe]; exact Or.inr h
  have hS : va_S A s.heap s.heap [] := va_S.rf
  have hP : va_P (dC, dI) vwCl [(o, Sum.inr (3, [Value.int v_signs, Value.int v_works, Value.int v_whole, Value.int v_otherwise, Value.int v_least, Value.int v_rates, Value.ref a_brings, Value.ref a_costs, Value.ref a_chances, Value.ref a_rate, Value.ref a_mark])), (a_rate, Sum.inl (k_a_rate, 3, Sum.inl f_a_rate)), (a_mark, Sum.inl (k_a_mark, 2, Sum.inl f_a_mark)), (p2, Sum.inr (2, [Value.long p2_v_upper, Value.long p2_v_lower]))] s.heap := hP
  have hl := lv_entry ([Value.ref o, Value.long p0, Value.long p1, Value.ref p2]) (n := 13) (Nat.le_of_ble_eq_true rfl)
  rw [lg_entry_eq]
  generalize (lg_sl ([Value.ref o, Value.long p0, Value.long p1, Value.ref p2]) ++ List.replicate (13 - (lg_sl ([Value.ref o, Value.long p0, Value.long p1, Value.ref p2])).length) Slot.unset).toArray = ls at hl ⊢
  have hl : lv_has ls 13 [(0, Value.ref o), (1, Value.long p0), (3, Value.long p1), (5, Value.ref p2)] := hl
  refine lv_lconst (v := 0) hx hb dX3_wageOf_0 (by decide) ?_
  refine lv_lstore (lv' := [(6, Value.long 0), (0, Value.ref o), (1, Value.long p0), (3, Value.long p1), (5, Value.ref p2)]) hx hb dX3_wageOf_1 hl (by decide) rfl (fun ls hl => ?_)
  refine lv_lconst (v := 0) hx hb dX3_wageOf_3 (by decide) ?_
  refine lv_lstore (lv' := [(8, Value.long 0), (6, Value.long 0), (0, Value.ref o), (1, Value.long p0), (3, Value.long p1), (5, Value.ref p2)]) hx hb dX3_wageOf_4 hl (by decide) rfl (fun ls hl => ?_)
  refine lv_iconst (v := 0) hx hb dX3_wageOf_6 (by decide) ?_
  refine lv_istore (lv' := [(10, Value.int 0), (8, Value.long 0), (6, Value.long 0), (0, Value.ref o), (1, Value.long p0), (3, Value.long p1), (5, Value.ref p2)]) hx hb dX3_wageOf_7 hl (by decide) rfl (fun ls hl => ?_)
  refine tl_loop (I := fun nn H locs ls => ∃ (v1 : Int32) (v2 : Int64) (v3 : Int64), nn = (2 - v1.toInt).toNat ∧ iv v1 0 2 ∧ jv v3 (-2147483649) 2147483647 ∧  va_P (dC, dI) vwCl [(o, Sum.inr (3, [Value.int v_signs, Value.int v_works, Value.int v_whole, Value.int v_otherwise, Value.int v_least, Value.int v_rates, Value.ref a_brings, Value.ref a_costs, Value.ref a_chances, Value.ref a_rate, Value.ref a_mark])), (a_rate, Sum.inl (k_a_rate, 3, Sum.inl f_a_rate)), (a_mark, Sum.inl (k_a_mark, 2, Sum.inl f_a_mark)), (p2, Sum.inr (2, [Value.long p2_v_upper, Value.long p2_v_lower]))] H ∧ va_D A [(o, Sum.inr (3, [Value.int v_signs, Value.int v_works, Value.int v_whole, Value.int v_otherwise, Value.int v_least, Value.int v_rates, Value.ref a_brings, Value.ref a_costs, Value.ref a_chances, Value.ref a_rate, Value.ref a_mark])), (a_rate, Sum.inl (k_a_rate, 3, Sum.inl f_a_rate)), (a_mark, Sum.inl (k_a_mark, 2, Sum.inl f_a_mark)), (p2, Sum.inr (2, [Value.long p2_v_upper, Value.long p2_v_lower]))] ∧ va_S A s.heap H locs ∧ lv_has ls 13 [(10, Value.int v1), (8, Value.long v2), (6, Value.long v3), (0, Value.ref o), (1, Value.long p0), (3, Value.long p1), (5, Value.ref p2)]) ?_ ⟨0, 0, 0, rfl, (iv.m (by decide)), (jv.m (show (-2147483649) ≤ (0 : Int64).toInt ∧ (0 : Int64).toInt ≤ 2147483647 by decide)), hP, hD, hS, lv_sub hl [0, 1, 2, 3, 4, 5, 6] rfl⟩
  clear hP hD hS hl
  intro nn9 H locs ls hI ih9
  obtain ⟨v1, v2, v3, hn9, hv1, hv3, hP, hD, hS, hl⟩ := hI
  have bv1 := hv1.u
  refine lv_iload hx hb dX3_wageOf_9 (lv_at hl 0 rfl) ?_
  refine lv_aload_n hx hb dX3_wageOf_11 rfl (lv_at hl 3 rfl) ?_
  refine va_get (D := (dC, dI)) (ci := 3) (v := Value.int v_rates) (C := RX3) (T := TX3) (N := 11) hx hb hts iw_X3_wageOf_X3 hown hK hP 0 rfl rfl 5 (by decide) (hts _ kk_X3_wageOf_0) (fun _ h9 => h9) rfl dX3_wageOf_12 ?_
  refine lv_iconst (v := 1) hx hb dX3_wageOf_15 (by decide) ?_
  refine lv_isub hx hb dX3_wageOf_16 ?_
  refine lv_topi (fun x4 ex4 => ?_)
  have bv_rates := hv_rates.u
  have tx4 := i32_sub ex4 rfl (show (1 : Int32).toInt = 1 by decide) (by omega) (by omega)
  refine lv_icmp_ge (tgt := 77) hx hb dX3_wageOf_17 (by decide) (fun c5 => ?_) (fun c5 => ?_)
  · have c59 := i32_le c5 rfl rfl
    refine lv_aload hx hb dX3_wageOf_77 (lv_at hl 6 rfl) ?_
    refine lv_lload_n hx hb dX3_wageOf_79 rfl (lv_at hl 4 rfl) ?_
    refine lv_lload hx hb dX3_wageOf_80 (lv_at hl 1 rfl) ?_
    refine lv_lload_n hx hb dX3_wageOf_82 rfl (lv_at hl 5 rfl) ?_
    refine lv_lmul hx hb dX3_wageOf_83 ?_
    refine lv_topl (fun y6 ey6 => ?_)
    refine lv_lsub hx hb dX3_wageOf_84 ?_
    refine lv_topl (fun y7 ey7 => ?_)
    refine lv_lload hx hb dX3_wageOf_85 (lv_at hl 2 rfl) ?_
    refine lv_aload_n hx hb dX3_wageOf_87 rfl (lv_at hl 3 rfl) ?_
    refine va_get (D := (dC, dI)) (ci := 3) (v := Value.ref a_rate) (C := RX3) (T := TX3) (N := 11) hx hb hts iw_X3_wageOf_X3 hown hK hP 0 rfl rfl 9 (by decide) (hts _ kk_X3_wageOf_1) (fun _ h9 => h9) rfl dX3_wageOf_88 ?_
    refine lv_iload hx hb dX3_wageOf_91 (lv_at hl 0 rfl) ?_
    refine va_iald hx hb hK hP 1 0 rfl rfl (vq_in v1 3 (by omega)) dX3_wageOf_93 ?_
    refine lv_topi (fun x8 ex8 => ?_)
    refine lv_i2l (v := (x8).toInt64) hx hb dX3_wageOf_94 rfl ?_
    refine lv_lmul hx hb dX3_wageOf_95 ?_
    refine lv_topl (fun y9 ey9 => ?_)
    have hy9 : jv y9 (-4611686020574871552) 4611686020574871552 := jv.mula (B := 2147483649) (D := 2147483648) ey9 hv3 (jv.i (show iv x8 (-2147483648) 2147483647 from i32_rng x8)) (by decide) (by decide) (by decide) (by decide) (by decide) (by decide)
    refine lv_lload_n hx hb dX3_wageOf_96 rfl (lv_at hl 5 rfl) ?_
    refine lv_lmul hx hb dX3_wageOf_97 ?_
    refine lv_topl (fun y10 ey10 => ?_)
    refine lv_ladd hx hb dX3_wageOf_98 ?_
    refine lv_topl (fun y11 ey11 => ?_)
    refine lv_aload_n hx hb dX3_wageOf_99 rfl (lv_at hl 3 rfl) ?_
    refine va_get (D := (dC, dI)) (ci := 3) (v := Value.ref a_rate) (C := RX3) (T := TX3) (N := 11) hx hb hts iw_X3_wageOf_X3 hown hK hP 0 rfl rfl 9 (by decide) (hts _ kk_X3_wageOf_1) (fun _ h9 => h9) rfl dX3_wageOf_100 ?_
    refine lv_iload hx hb dX3_wageOf_103 (lv_at hl 0 rfl) ?_
    refine va_iald hx hb hK hP 1 0 rfl rfl (vq_in v1 3 (by omega)) dX3_wageOf_105 ?_
    refine lv_topi (fun x12 ex12 => ?_)
    refine lv_i2l (v := (x12).toInt64) hx hb dX3_wageOf_106 rfl ?_
    refine lv_lload_n hx hb dX3_wageOf_107 rfl (lv_at hl 5 rfl) ?_
    refine lv_lmul hx hb dX3_wageOf_108 ?_
    refine lv_topl (fun y13 ey13 => ?_)
    have hPc := hP.sub (ws' := [(p2, Sum.inr (2, [Value.long p2_v_upper, Value.long p2_v_lower]))]) [3] rfl
    have hDc := hD.sub (ws' := [(p2, Sum.inr (2, [Value.long p2_v_upper, Value.long p2_v_lower]))]) [3] (by decide) rfl
    have hKc := hK.sub (tys' := []) [] rfl
    have hFc := va_free (wc := [(p2, Sum.inr (2, [Value.long p2_v_upper, Value.long p2_v_lower]))]) hD hS hA [3] rfl
    refine va_callv (va_runV (As := [Value.long y11, Value.long y13]) (rest := []) ⟨hx, hb, hml, hown, hts⟩ (ct_X2_become l dC dI p2 y11 y13 p2_v_upper p2_v_lower H.size) (cwV 2 hts gX3_wageOf_X2_become rfl rfl rfl ⟨rfl, cn_X2.1, cn_X2.2, ds_13⟩ ⟨Nat.le_of_ble_eq_true rfl, Nat.le_of_ble_eq_true rfl⟩) ⟨fun a U g mk q => by obtain ⟨q0, q1, qP, qK, qD⟩ := q; exact ⟨q0, q1, qP, va_K.moved (u := U) (U := U.calling g mk a) (Vm.Alike.refl U.vm) qK, qD⟩, va_recv hKc hPc (ci := 2) (q0 := 0) rfl rfl, fun U hU hW => ⟨rfl, by rw [hU], by rw [hU]; exact hPc, va_K.moved hW.alike hKc, hDc.weaken (fun _ _ _ _ => trivial)⟩⟩ rfl rfl hl.1 rfl (lv_room (Nat.le_of_ble_eq_true rfl)) dX3_wageOf_109 ⟨Nat.le_of_ble_eq_true rfl, Nat.le_of_ble_eq_true rfl⟩) hS (fun q _ h => hFc q h) hFc (fun u t H1 locs ht hvm hw hB hz1 hk1 hS => ?_)
    obtain ⟨y15, y16, hP1, hD1⟩ := hB
    rw [ht] at hP1
    obtain ⟨hP, hD⟩ := va_join (wr := [(o, Sum.inr (3, [Value.int v_signs, Value.int v_works, Value.int v_whole, Value.int v_otherwise, Value.int v_least, Value.int v_rates, Value.ref a_brings, Value.ref a_costs, Value.ref a_chances, Value.ref a_rate, Value.ref a_mark])), (a_rate, Sum.inl (k_a_rate, 3, Sum.inl f_a_rate)), (a_mark, Sum.inl (k_a_mark, 2, Sum.inl f_a_mark))]) (w1 := [(p2, Sum.inr (2, [Value.long y15, Value.long y16]))]) hP hD [3] [0, 1, 2] rfl rfl (by decide) (by decide) hk1 hFc hP1 hD1
    clear hPc hDc hKc hFc hP1 hD1 hk1 hz1
    generalize H1 = H at hP hS ⊢
    have hP : va_P (dC, dI) vwCl [(o, Sum.inr (3, [Value.int v_signs, Value.int v_works, Value.int v_whole, Value.int v_otherwise, Value.int v_least, Value.int v_rates, Value.ref a_brings, Value.ref a_costs, Value.ref a_chances, Value.ref a_rate, Value.ref a_mark])), (a_rate, Sum.inl (k_a_rate, 3, Sum.inl f_a_rate)), (a_mark, Sum.inl (k_a_mark, 2, Sum.inl f_a_mark)), (p2, Sum.inr (2, [Value.long y15, Value.long y16]))] H := hP
    have hD : va_D A [(o, Sum.inr (3, [Value.int v_signs, Value.int v_works, Value.int v_whole, Value.int v_otherwise, Value.int v_least, Value.int v_rates, Value.ref a_brings, Value.ref a_costs, Value.ref a_chances, Value.ref a_rate, Value.ref a_mark])), (a_rate, Sum.inl (k_a_rate, 3, Sum.inl f_a_rate)), (a_mark, Sum.inl (k_a_mark, 2, Sum.inl f_a_mark)), (p2, Sum.inr (2, [Value.long y15, Value.long y16]))] := hD
    refine W.widen (k := 0) (n := 0) (by decide) (by decide) ?_
    have hP9 := hP.sub (ws' := [(o, Sum.inr (3, [Value.int v_signs, Value.int v_works, Value.int v_whole, Value.int v_otherwise, Value.int v_least, Value.int v_rates, Value.ref a_brings, Value.ref a_costs, Value.ref a_chances, Value.ref a_rate, Value.ref a_mark])), (a_rate, Sum.inl (k_a_rate, 3, Sum.inl f_a_rate)), (a_mark, Sum.inl (k_a_mark, 2, Sum.inl f_a_mark)), (p2, Sum.inr (2, [Value.long y15, Value.long y16]))]) [0, 1, 2, 3] rfl
    have hD9 := hD.sub (ws' := [(o, Sum.inr (3, [Value.int v_signs, Value.int v_works, Value.int v_whole, Value.int v_otherwise, Value.int v_least, Value.int v_rates, Value.ref a_brings, Value.ref a_costs, Value.ref a_chances, Value.ref a_rate, Value.ref a_mark])), (a_rate, Sum.inl (k_a_rate, 3, Sum.inl f_a_rate)), (a_mark, Sum.inl (k_a_mark, 2, Sum.inl f_a_mark)), (p2, Sum.inr (2, [Value.long y15, Value.long y16]))]) [0, 1, 2, 3] (by decide) rfl
    exact W.vret hx hb hr (fun t ht hW => ⟨⟨(), rfl, trivial, y15, y16, by rw [ht]; exact hP9, hD9⟩, hS.F ht⟩) hS.2.2 dX3_wageOf_112
  · have c59 := i32_nle c5 rfl rfl
    refine lv_lload hx hb dX3_wageOf_20 (lv_at hl 1 rfl) ?_
    refine lv_aload_n hx hb dX3_wageOf_22 rfl (lv_at hl 3 rfl) ?_
    refine va_get (D := (dC, dI)) (ci := 3) (v := Value.ref a_rate) (C := RX3) (T := TX3) (N := 11) hx hb hts iw_X3_wageOf_X3 hown hK hP 0 rfl rfl 9 (by decide) (hts _ kk_X3_wageOf_1) (fun _ h9 => h9) rfl dX3_wageOf_23 ?_
    refine lv_iload hx hb dX3_wageOf_26 (lv_at hl 0 rfl) ?_
    refine va_iald hx hb hK hP 1 0 rfl rfl (vq_in v1 3 (by omega)) dX3_wageOf_28 ?_
    refine lv_topi (fun x17 ex17 => ?_)
    refine lv_i2l (v := (x17).toInt64) hx hb dX3_wageOf_29 rfl ?_
    refine lv_aload_n hx hb dX3_wageOf_30 rfl (lv_at hl 3 rfl) ?_
    refine va_get (D := (dC, dI)) (ci := 3) (v := Value.ref a_mark) (C := RX3) (T := TX3) (N := 11) hx hb hts iw_X3_wageOf_X3 hown hK hP 0 rfl rfl 10 (by decide) (hts _ kk_X3_wageOf_2) (fun _ h9 => h9) rfl dX3_wageOf_31 ?_
    refine lv_iload hx hb dX3_wageOf_34 (lv_at hl 0 rfl) ?_
    refine va_iald hx hb hK hP 2 1 rfl rfl (vq_in v1 2 (by omega)) dX3_wageOf_36 ?_
    refine lv_topi (fun x18 ex18 => ?_)
    refine lv_i2l (v := (x18).toInt64) hx hb dX3_wageOf_37 rfl ?_
    refine lv_lload hx hb dX3_wageOf_38 (lv_at hl 2 rfl) ?_
    refine lv_lsub hx hb dX3_wageOf_40 ?_
    refine lv_topl (fun y19 ey19 => ?_)
    have hy19 : jv y19 (-4294967295) 4294967296 := jv.sub ey19 (jv.i (show iv x18 (-2147483648) 2147483647 from i32_rng x18)) hv3 (by decide) (by decide) (by decide) (by decide)
    refine lv_lmul hx hb dX3_wageOf_41 ?_
    refine lv_topl (fun y20 ey20 => ?_)
    refine lv_ladd hx hb dX3_wageOf_42 ?_
    refine lv_topl (fun y21 ey21 => ?_)
    refine lv_lstore (lv' := [(11, Value.long y21), (10, Value.int v1), (8, Value.long v2), (6, Value.long v3), (0, Value.ref o), (1, Value.long p0), (3, Value.long p1), (5, Value.ref p2)]) hx hb dX3_wageOf_43 hl (by decide) rfl (fun ls hl => ?_)
    refine lv_lload_n hx hb dX3_wageOf_45 rfl (lv_at hl 5 rfl) ?_
    refine lv_lload hx hb dX3_wageOf_46 (lv_at hl 0 rfl) ?_
    refine lv_lload_n hx hb dX3_wageOf_48 rfl (lv_at hl 6 rfl) ?_
    refine lv_lmul hx hb dX3_wageOf_49 ?_
    refine lv_topl (fun y22 ey22 => ?_)
    refine W.lcmp hx hb dX3_wageOf_50 ?_
    refine lv_if_gt (tgt := 57) hx hb dX3_wageOf_51 (by decide) (fun c23 => ?_) (fun c23 => ?_)
    · skip
      have c239 := lc_gt c23
      refine lv_lload hx hb dX3_wageOf_57 (lv_at hl 0 rfl) ?_
      refine lv_lstore (lv' := [(8, Value.long y21), (11, Value.long y21), (10, Value.int v1), (6, Value.long v3), (0, Value.ref o), (1, Value.long p0), (3, Value.long p1), (5, Value.ref p2)]) hx hb dX3_wageOf_59 hl (by decide) rfl (fun ls hl => ?_)
      refine lv_aload_n hx hb dX3_wageOf_61 rfl (lv_at hl 4 rfl) ?_
      refine va_get (D := (dC, dI)) (ci := 3) (v := Value.ref a_mark) (C := RX3) (T := TX3) (N := 11) hx hb hts iw_X3_wageOf_X3 hown hK hP 0 rfl rfl 10 (by decide) (hts _ kk_X3_wageOf_2) (fun _ h9 => h9) rfl dX3_wageOf_62 ?_
      refine lv_iload hx hb dX3_wageOf_65 (lv_at hl 2 rfl) ?_
      refine va_iald hx hb hK hP 2 1 rfl rfl (vq_in v1 2 (by omega)) dX3_wageOf_67 ?_
      refine lv_topi (fun x24 ex24 => ?_)
      refine lv_i2l (v := (x24).toInt64) hx hb dX3_wageOf_68 rfl ?_
      refine lv_lstore (lv' := [(6, Value.long ((x24).toInt64)), (8, Value.long y21), (11, Value.long y21), (10, Value.int v1), (0, Value.ref o), (1, Value.long p0), (3, Value.long p1), (5, Value.ref p2)]) hx hb dX3_wageOf_69 hl (by decide) rfl (fun ls hl => ?_)
      obtain ⟨x25, ex25⟩ : ∃ z : Int32, v1 + Int32.ofInt 1 = z := ⟨_, rfl⟩
      have tx25 := i32_inc ex25 rfl (by decide) (by omega) (by omega)
      refine lv_iinc (v := x25) (lv' := [(10, Value.int x25), (6, Value.long ((x24).toInt64)), (8, Value.long y21), (11, Value.long y21), (0, Value.ref o), (1, Value.long p0), (3, Value.long p1), (5, Value.ref p2)]) hx hb dX3_wageOf_71 hl (k := 3) rfl ex25 (by decide) rfl (fun ls hl => ?_)
      refine lv_goto (tgt := 9) hx hb dX3_wageOf_74 (by decide) ?_
      exact ih9 _ _ _ _ (by omega) ⟨x25, y21, (x24).toInt64, rfl, (iv.m (by omega)), ((jv.i (show iv x24 (-2147483648) 2147483647 from i32_rng x24)).w (by decide) (by decide)), hP, hD, hS, lv_sub hl [0, 2, 1, 4, 5, 6, 7] rfl⟩
    · skip
      have c239 := lc_ngt c23
      refine lv_goto (tgt := 77) hx hb dX3_wageOf_54 (by decide) ?_
      refine lv_aload hx hb dX3_wageOf_77 (lv_at hl 7 rfl) ?_
      refine lv_lload_n hx hb dX3_wageOf_79 rfl (lv_at hl 5 rfl) ?_
      refine lv_lload hx hb dX3_wageOf_80 (lv_at hl 2 rfl) ?_
      refine lv_lload_n hx hb dX3_wageOf_82 rfl (lv_at hl 6 rfl) ?_
      refine lv_lmul hx hb dX3_wageOf_83 ?_
      refine lv_topl (fun y26 ey26 => ?_)
      refine lv_lsub hx hb dX3_wageOf_84 ?_
      refine lv_topl (fun y27 ey27 => ?_)
      refine lv_lload hx hb dX3_wageOf_85 (lv_at hl 3 rfl) ?_
      refine lv_aload_n hx hb dX3_wageOf_87 rfl (lv_at hl 4 rfl) ?_
      refine va_get (D := (dC, dI)) (ci := 3) (v := Value.ref a_rate) (C := RX3) (T := TX3) (N := 11) hx hb hts iw_X3_wageOf_X3 hown hK hP 0 rfl rfl 9 (by decide) (hts _ kk_X3_wageOf_1) (fun _ h9 => h9) rfl dX3_wageOf_88 ?_
      refine lv_iload hx hb dX3_wageOf_91 (lv_at hl 1 rfl) ?_
      refine va_iald hx hb hK hP 1 0 rfl rfl (vq_in v1 3 (by omega)) dX3_wageOf_93 ?_
      refine lv_topi (fun x28 ex28 => ?_)
      refine lv_i2l (v := (x28).toInt64) hx hb dX3_wageOf_94 rfl ?_
      refine lv_lmul hx hb dX3_wageOf_95 ?_
      refine lv_topl (fun y29 ey29 => ?_)
      have hy29 : jv y29 (-4611686020574871552) 4611686020574871552 := jv.mula (B := 2147483649) (D := 2147483648) ey29 hv3 (jv.i (show iv x28 (-2147483648) 2147483647 from i32_rng x28)) (by decide) (by decide) (by decide) (by decide) (by decide) (by decide)
      refine lv_lload_n hx hb dX3_wageOf_96 rfl (lv_at hl 6 rfl) ?_
      refine lv_lmul hx hb dX3_wageOf_97 ?_
      refine lv_topl (fun y30 ey30 => ?_)
      refine lv_ladd hx hb dX3_wageOf_98 ?_
      refine lv_topl (fun y31 ey31 => ?_)
      refine lv_aload_n hx hb dX3_wageOf_99 rfl (lv_at hl 4 rfl) ?_
      refine va_get (D := (dC, dI)) (ci := 3) (v := Value.ref a_rate) (C := RX3) (T := TX3) (N := 11) hx hb hts iw_X3_wageOf_X3 hown hK hP 0 rfl rfl 9 (by decide) (hts _ kk_X3_wageOf_1) (fun _ h9 => h9) rfl dX3_wageOf_100 ?_
      refine lv_iload hx hb dX3_wageOf_103 (lv_at hl 1 rfl) ?_
      refine va_iald hx hb hK hP 1 0 rfl rfl (vq_in v1 3 (by omega)) dX3_wageOf_105 ?_
      refine lv_topi (fun x32 ex32 => ?_)
      refine lv_i2l (v := (x32).toInt64) hx hb dX3_wageOf_106 rfl ?_
      refine lv_lload_n hx hb dX3_wageOf_107 rfl (lv_at hl 6 rfl) ?_
      refine lv_lmul hx hb dX3_wageOf_108 ?_
      refine lv_topl (fun y33 ey33 => ?_)
      have hPc := hP.sub (ws' := [(p2, Sum.inr (2, [Value.long p2_v_upper, Value.long p2_v_lower]))]) [3] rfl
      have hDc := hD.sub (ws' := [(p2, Sum.inr (2, [Value.long p2_v_upper, Value.long p2_v_lower]))]) [3] (by decide) rfl
      have hKc := hK.sub (tys' := []) [] rfl
      have hFc := va_free (wc := [(p2, Sum.inr (2, [Value.long p2_v_upper, Value.long p2_v_lower]))]) hD hS hA [3] rfl
      refine va_callv (va_runV (As := [Value.long y31, Value.long y33]) (rest := []) ⟨hx, hb, hml, hown, hts⟩ (ct_X2_become l dC dI p2 y31 y33 p2_v_upper p2_v_lower H.size) (cwV 2 hts gX3_wageOf_X2_become rfl rfl rfl ⟨rfl, cn_X2.1, cn_X2.2, ds_13⟩ ⟨Nat.le_of_ble_eq_true rfl, Nat.le_of_ble_eq_true rfl⟩) ⟨fun a U g mk q => by obtain ⟨q0, q1, qP, qK, qD⟩ := q; exact ⟨q0, q1, qP, va_K.moved (u := U) (U := U.calling g mk a) (Vm.Alike.refl U.vm) qK, qD⟩, va_recv hKc hPc (ci := 2) (q0 := 0) rfl rfl, fun U hU hW => ⟨rfl, by rw [hU], by rw [hU]; exact hPc, va_K.moved hW.alike hKc, hDc.weaken (fun _ _ _ _ => trivial)⟩⟩ rfl rfl hl.1 rfl (lv_room (Nat.le_of_ble_eq_true rfl)) dX3_wageOf_109 ⟨Nat.le_of_ble_eq_true rfl, Nat.le_of_ble_eq_true rfl⟩) hS (fun q _ h => hFc q h) hFc (fun u t H1 locs ht hvm hw hB hz1 hk1 hS => ?_)
      obtain ⟨y35, y36, hP1, hD1⟩ := hB
      rw [ht] at hP1
      obtain ⟨hP, hD⟩ := va_join (wr := [(o, Sum.inr (3, [Value.int v_signs, Value.int v_works, Value.int v_whole, Value.int v_otherwise, Value.int v_least, Value.int v_rates, Value.ref a_brings, Value.ref a_costs, Value.ref a_chances, Value.ref a_rate, Value.ref a_mark])), (a_rate, Sum.inl (k_a_rate, 3, Sum.inl f_a_rate)), (a_mark, Sum.inl (k_a_mark, 2, Sum.inl f_a_mark))]) (w1 := [(p2, Sum.inr (2, [Value.long y35, Value.long y36]))]) hP hD [3] [0, 1, 2] rfl rfl (by decide) (by decide) hk1 hFc hP1 hD1
      clear hPc hDc hKc hFc hP1 hD1 hk1 hz1
      generalize H1 = H at hP hS ⊢
      have hP : va_P (dC, dI) vwCl [(o, Sum.inr (3, [Value.int v_signs, Value.int v_works, Value.int v_whole, Value.int v_otherwise, Value.int v_least, Value.int v_rates, Value.ref a_brings, Value.ref a_costs, Value.ref a_chances, Value.ref a_rate, Value.ref a_mark])), (a_rate, Sum.inl (k_a_rate, 3, Sum.inl f_a_rate)), (a_mark, Sum.inl (k_a_mark, 2, Sum.inl f_a_mark)), (p2, Sum.inr (2, [Value.long y35, Value.long y36]))] H := hP
      have hD : va_D A [(o, Sum.inr (3, [Value.int v_signs, Value.int v_works, Value.int v_whole, Value.int v_otherwise, Value.int v_least, Value.int v_rates, Value.ref a_brings, Value.ref a_costs, Value.ref a_chances, Value.ref a_rate, Value.ref a_mark])), (a_rate, Sum.inl (k_a_rate, 3, Sum.inl f_a_rate)), (a_mark, Sum.inl (k_a_mark, 2, Sum.inl f_a_mark)), (p2, Sum.inr (2, [Value.long y35, Value.long y36]))] := hD
      refine W.widen (k := 0) (n := 0) (by decide) (by decide) ?_
      have hP9 := hP.sub (ws' := [(o, Sum.inr (3, [Value.int v_signs, Value.int v_works, Value.int v_whole, Value.int v_otherwise, Value.int v_least, Value.int v_rates, Value.ref a_brings, Value.ref a_costs, Value.ref a_chances, Value.ref a_rate, Value.ref a_mark])), (a_rate, Sum.inl (k_a_rate, 3, Sum.inl f_a_rate)), (a_mark, Sum.inl (k_a_mark, 2, Sum.inl f_a_mark)), (p2, Sum.inr (2, [Value.long y35, Value.long y36]))]) [0, 1, 2, 3] rfl
      have hD9 := hD.sub (ws' := [(o, Sum.inr (3, [Value.int v_signs, Value.int v_works, Value.int v_whole, Value.int v_otherwise, Value.int v_least, Value.int v_rates, Value.ref a_brings, Value.ref a_costs, Value.ref a_chances, Value.ref a_rate, Value.ref a_mark])), (a_rate, Sum.inl (k_a_rate, 3, Sum.inl f_a_rate)), (a_mark, Sum.inl (k_a_mark, 2, Sum.inl f_a_mark)), (p2, Sum.inr (2, [Value.long y35, Value.long y36]))]) [0, 1, 2, 3] (by decide) rfl
      exact W.vret hx hb hr (fun t ht hW => ⟨⟨(), rfl, trivial, y35, y36, by rw [ht]; exact hP9, hD9⟩, hS.F ht⟩) hS.2.2 dX3_wageOf_112

set_option maxHeartbeats 4000000 in
set_option maxRecDepth 100000 in
theorem ct_X3_broughtBy (l : Launch) (dC : Nat → ClassId) (dI : Nat → Nat → Nat) (o : Nat) (p0 : Int32) (v_signs : Int32) (v_works : Int32) (v_whole : Int32) (v_otherwise : Int32) (v_least : Int32) (v_rates : Int32) (a_brings : Nat) (a_costs : Nat) (a_chances : Nat) (a_rate : Nat) (a_mark : Nat) (k_a_brings : ClassId) (f_a_brings : Nat → Int32) (k_a_chances : ClassId) (R_a_chances : Nat → Nat) (LP : List Nat) (sh : Nat → Nat) (fp : Nat → va_E) (cI : ClassId) (cJ : ClassId) (hp0 : iv p0 0 4) (hv_signs : iv v_signs 0 4) (hfp : pok cI cJ LP sh fp) (hRR_a_chances : ∀ i : Nat, i < 5 → R_a_chances i ∈ LP ∧ sh (R_a_chances i) = 104) (sz : Nat) : Met l yX3_broughtBy wsX3_broughtBy ({ frames := 0, cells := 0, slots := 0, locals := 0 }) (va_Pc [Value.ref o, Value.int p0] (fun U => U.heap.size = sz ∧ va_P (dC, dI) vwCl ([(o, Sum.inr (3, [Value.int v_signs, Value.int v_works, Value.int v_whole, Value.int v_otherwise, Value.int v_least, Value.int v_rates, Value.ref a_brings, Value.ref a_costs, Value.ref a_chances, Value.ref a_rate, Value.ref a_mark])), (a_brings, Sum.inl (k_a_brings, 4, Sum.inl f_a_brings)), (a_chances, Sum.inl (k_a_chances, 5, Sum.inr (Sum.inr (Sum.inr (Sum.inr (rows_of 5 R_a_chances))))))] ++ va_pl LP fp) U.heap ∧ va_K (dC, dI) vwCl [(k_a_brings, FieldType.int), (k_a_chances, (FieldType.array FieldType.int)), (cI, FieldType.int), (cJ, FieldType.long)] U ∧ va_D (fun _ => True) ([(o, Sum.inr (3, [Value.int v_signs, Value.int v_works, Value.int v_whole, Value.int v_otherwise, Value.int v_least, Value.int v_rates, Value.ref a_brings, Value.ref a_costs, Value.ref a_chances, Value.ref a_rate, Value.ref a_mark])), (a_brings, Sum.inl (k_a_brings, 4, Sum.inl f_a_brings)), (a_chances, Sum.inl (k_a_chances, 5, Sum.inr (Sum.inr (Sum.inr (Sum.inr (rows_of 5 R_a_chances))))))] ++ va_pl LP fp))) (va_Qi (fun (r u : Int32) => u = r) (fun (r : Int32) t => va_P (dC, dI) vwCl ([(o, Sum.inr (3, [Value.int v_signs, Value.int v_works, Value.int v_whole, Value.int v_otherwise, Value.int v_least, Value.int v_rates, Value.ref a_brings, Value.ref a_costs, Value.ref a_chances, Value.ref a_rate, Value.ref a_mark])), (a_brings, Sum.inl (k_a_brings, 4, Sum.inl f_a_brings)), (a_chances, Sum.inl (k_a_chances, 5, Sum.inr (Sum.inr (Sum.inr (Sum.inr (rows_of 5 R_a_chances))))))] ++ va_pl LP fp) t.heap ∧ va_D (va_A ([(o, Sum.inr (3, [Value.int v_signs, Value.int v_works, Value.int v_whole, Value.int v_otherwise, Value.int v_least, Value.int v_rates, Value.ref a_brings, Value.ref a_costs, Value.ref a_chances, Value.ref a_rate, Value.ref a_mark])), (a_brings, Sum.inl (k_a_brings, 4, Sum.inl f_a_brings)), (a_chances, Sum.inl (k_a_chances, 5, Sum.inr (Sum.inr (Sum.inr (Sum.inr (rows_of 5 R_a_chances))))))] ++ va_pl LP fp) sz) ([(o, Sum.inr (3, [Value.int v_signs, Value.int v_works, Value.int v_whole, Value.int v_otherwise, Value.int v_least, Value.int v_rates, Value.ref a_brings, Value.ref a_costs, Value.ref a_chances, Value.ref a_rate, Value.ref a_mark])), (a_brings, Sum.inl (k_a_brings, 4, Sum.inl f_a_brings)), (a_chances, Sum.inl (k_a_chances, 5, Sum.inr (Sum.inr (Sum.inr (Sum.inr (rows_of 5 R_a_chances))))))] ++ va_pl LP fp)) (va_A ([(o, Sum.inr (3, [Value.int v_signs, Value.int v_works, Value.int v_whole, Value.int v_otherwise, Value.int v_least, Value.int v_rates, Value.ref a_brings, Value.ref a_costs, Value.ref a_chances, Value.ref a_rate, Value.ref a_mark])), (a_brings, Sum.inl (k_a_brings, 4, Sum.inl f_a_brings)), (a_chances, Sum.inl (k_a_chances, 5, Sum.inr (Sum.inr (Sum.inr (Sum.inr (rows_of 5 R_a_chances))))))] ++ va_pl LP fp) sz)) 0 0 (va_A ([(o, Sum.inr (3, [Value.int v_signs, Value.int v_works, Value.int v_whole, Value.int v_otherwise, Value.int v_least, Value.int v_rates, Value.ref a_brings, Value.ref a_costs, Value.ref a_chances, Value.ref a_rate, Value.ref a_mark])), (a_brings, Sum.inl (k_a_brings, 4, Sum.inl f_a_brings)), (a_chances, Sum.inl (k_a_chances, 5, Sum.inr (Sum.inr (Sum.inr (Sum.inr (rows_of 5 R_a_chances))))))] ++ va_pl LP fp) sz) := by
  refine Met.ofW (cc := cX3_broughtBy) (maxL := 4) (ret := (some .int)) pn_X3 rfl ?_
  intro p e s m args below meth c s₁ B hml hv
  obtain ⟨rfl, hsz, hP, hK, hD0⟩ := hv
  have hx := B.exec
  have hb := B.bytes
  have hr := B.returns
  have hts := atoms_spec (ws := wsX3_broughtBy) B.pre
  have hown : s.vm.findClass RX3 = some m.cls := findClass_of_methodNamed B.named
  have hlocks := B.notSynchronized
  subst hsz
  have hD := hD0.self (sz := s.heap.size)
  generalize hAe : va_A ([(o, Sum.inr (3, [Value.int v_signs, Value.int v_works, Value.int v_whole, Value.int v_otherwise, Value.int v_least, Value.int v_rates, Value.ref a_brings, Value.ref a_costs, Value.ref a_chances, Value.ref a_rate, Value.ref a_mark])), (a_brings, Sum.inl (k_a_brings, 4, Sum.inl f_a_brings)), (a_chances, Sum.inl (k_a_chances, 5, Sum.inr (Sum.inr (Sum.inr (Sum.inr (rows_of 5 R_a_chances))))))] ++ va_pl LP fp) s.heap.size = A at hD ⊢
  have hA : ∀ q : Nat, s.heap.size ≤ q → A q := fun q h => by rw [← hAe]; exact Or.inr h
  have hS : va_S A s.heap s.heap [] := va_S.rf
  have hP : va_P (dC, dI) vwCl ([(o, Sum.inr (3, [Value.int v_signs, Value.int v_works, Value.int v_whole, Value.int v_otherwise, Value.int v_least, Value.int v_rates, Value.ref a_brings, Value.ref a_costs, Value.ref a_chances, Value.ref a_rate, Value.ref a_mark])), (a_brings, Sum.inl (k_a_brings, 4, Sum.inl f_a_brings)), (a_chances, Sum.inl (k_a_chances, 5, Sum.inr (Sum.inr (Sum.inr (Sum.inr (rows_of 5 R_a_chances))))))] ++ va_pl LP fp) s.heap := hP
  have hl := lv_entry ([Value.ref o, Value.int p0]) (n := 4) (Nat.le_of_ble_eq_true rfl)
  rw [lg_entry_eq]
  generalize (lg_sl ([Value.ref o, Value.int p0]) ++ List.replicate (4 - (lg_sl ([Value.ref o, Value.int p0])).length) Slot.unset).toArray = ls at hl ⊢
  have hl : lv_has ls 4 [(0, Value.ref o), (1, Value.int p0)] := hl
  refine lv_iconst (v := 0) hx hb dX3_broughtBy_0 (by decide) ?_
  refine lv_istore_n (lv' := [(2, Value.int 0), (0, Value.ref o), (1, Value.int p0)]) hx hb dX3_broughtBy_1 rfl hl (by decide) rfl (fun ls hl => ?_)
  refine lv_iconst (v := 0) hx hb dX3_broughtBy_2 (by decide) ?_
  refine lv_istore_n (lv' := [(3, Value.int 0), (2, Value.int 0), (0, Value.ref o), (1, Value.int p0)]) hx hb dX3_broughtBy_3 rfl hl (by decide) rfl (fun ls hl => ?_)
  refine tl_loop (I := fun nn H locs ls => ∃ (v1 : Int32) (v2 : Int32), nn = (4 - v1.toInt).toNat ∧ iv v1 0 4 ∧  va_P (dC, dI) vwCl ([(o, Sum.inr (3, [Value.int v_signs, Value.int v_works, Value.int v_whole, Value.int v_otherwise, Value.int v_least, Value.int v_rates, Value.ref a_brings, Value.ref a_costs, Value.ref a_chances, Value.ref a_rate, Value.ref a_mark])), (a_brings, Sum.inl (k_a_brings, 4, Sum.inl f_a_brings)), (a_chances, Sum.inl (k_a_chances, 5, Sum.inr (Sum.inr (Sum.inr (Sum.inr (rows_of 5 R_a_chances))))))] ++ va_pl LP fp) H ∧ va_D A ([(o, Sum.inr (3, [Value.int v_signs, Value.int v_works, Value.int v_whole, Value.int v_otherwise, Value.int v_least, Value.int v_rates, Value.ref a_brings, Value.ref a_costs, Value.ref a_chances, Value.ref a_rate, Value.ref a_mark])), (a_brings, Sum.inl (k_a_brings, 4, Sum.inl f_a_brings)), (a_chances, Sum.inl (k_a_chances, 5, Sum.inr (Sum.inr (Sum.inr (Sum.inr (rows_of 5 R_a_chances))))))] ++ va_pl LP fp) ∧ va_S A s.heap H locs ∧ lv_has ls 4 [(3, Value.int v1), (2, Value.int v2), (0, Value.ref o), (1, Value.int p0)]) ?_ ⟨0, 0, rfl, (iv.m (by decide)), hP, hD, hS, lv_sub hl [0, 1, 2, 3] rfl⟩
  clear hP hD hS hl
  intro nn4 H locs ls hI ih4
  obtain ⟨v1, v2, hn4, hv1, hP, hD, hS, hl⟩ := hI
  have bv1 := hv1.u
  have bv2 := i32_rng v2
  refine lv_iload_n hx hb dX3_broughtBy_4 rfl (lv_at hl 0 rfl) ?_
  refine lv_aload_n hx hb dX3_broughtBy_5 rfl (lv_at hl 2 rfl) ?_
  refine va_get (D := (dC, dI)) (ci := 3) (v := Value.int v_signs) (C := RX3) (T := TX3) (N := 11) hx hb hts iw_X3_broughtBy_X3 hown hK hP 0 rfl rfl 0 (by decide) (hts _ kk_X3_broughtBy_0) (fun _ h9 => h9) rfl dX3_broughtBy_6 ?_
  have bv_signs := hv_signs.u
  refine lv_icmp_ge (tgt := 36) hx hb dX3_broughtBy_9 (by decide) (fun c3 => ?_) (fun c3 => ?_)
  · have c39 := i32_le c3 rfl rfl
    refine lv_iload_n hx hb dX3_broughtBy_36 rfl (lv_at hl 1 rfl) ?_
    have hP9 := hP.part (cx := [(o, Sum.inr (3, [Value.int v_signs, Value.int v_works, Value.int v_whole, Value.int v_otherwise, Value.int v_least, Value.int v_rates, Value.ref a_brings, Value.ref a_costs, Value.ref a_chances, Value.ref a_rate, Value.ref a_mark])), (a_brings, Sum.inl (k_a_brings, 4, Sum.inl f_a_brings)), (a_chances, Sum.inl (k_a_chances, 5, Sum.inr (Sum.inr (Sum.inr (Sum.inr (rows_of 5 R_a_chances))))))]) [0, 1, 2] rfl
    have hD9 := hD.part (cx := [(o, Sum.inr (3, [Value.int v_signs, Value.int v_works, Value.int v_whole, Value.int v_otherwise, Value.int v_least, Value.int v_rates, Value.ref a_brings, Value.ref a_costs, Value.ref a_chances, Value.ref a_rate, Value.ref a_mark])), (a_brings, Sum.inl (k_a_brings, 4, Sum.inl f_a_brings)), (a_chances, Sum.inl (k_a_chances, 5, Sum.inr (Sum.inr (Sum.inr (Sum.inr (rows_of 5 R_a_chances))))))]) [0, 1, 2] (by decide) rfl
    exact W.iret (v := v2) hx hb hr (fun t ht hW => ⟨⟨v2, v2, rfl, rfl, by rw [ht]; exact hP9, hD9⟩, hS.F ht⟩) hS.2.2 dX3_broughtBy_37
  · have c39 := i32_nle c3 rfl rfl
    refine lv_iload_n hx hb dX3_broughtBy_12 rfl (lv_at hl 1 rfl) ?_
    refine lv_aload_n hx hb dX3_broughtBy_13 rfl (lv_at hl 2 rfl) ?_
    refine va_get (D := (dC, dI)) (ci := 3) (v := Value.ref a_chances) (C := RX3) (T := TX3) (N := 11) hx hb hts iw_X3_broughtBy_X3 hown hK hP 0 rfl rfl 8 (by decide) (hts _ kk_X3_broughtBy_1) (fun _ h9 => h9) rfl dX3_broughtBy_14 ?_
    refine lv_iload_n hx hb dX3_broughtBy_17 rfl (lv_at hl 3 rfl) ?_
    have bp0 := hp0.u
    have hinrw4 : vp_in p0 5 := (vq_in p0 5 (by omega))
    refine va_aldA hx hb hK hP 2 1 rfl rfl hinrw4 dX3_broughtBy_18 ?_
    refine px_v (row_sel hinrw4) ?_
    obtain ⟨rw4, erw4⟩ : ∃ z : Nat, z = R_a_chances (Int32.toNatClampNeg p0) := ⟨_, rfl⟩
    rw [← erw4]
    have mrw4 : rw4 ∈ LP ∧ sh rw4 = 104 := by rw [erw4]; exact hRR_a_chances _ (vin_lt hinrw4)
    refine lv_iload_n hx hb dX3_broughtBy_19 rfl (lv_at hl 0 rfl) ?_
    obtain ⟨gk5, hgk5, bgk5⟩ := pok_104 (hfp) mrw4
    obtain ⟨kk6, hkk6⟩ := va_pl_get (X := [(o, Sum.inr (3, [Value.int v_signs, Value.int v_works, Value.int v_whole, Value.int v_otherwise, Value.int v_least, Value.int v_rates, Value.ref a_brings, Value.ref a_costs, Value.ref a_chances, Value.ref a_rate, Value.ref a_mark])), (a_brings, Sum.inl (k_a_brings, 4, Sum.inl f_a_brings)), (a_chances, Sum.inl (k_a_chances, 5, Sum.inr (Sum.inr (Sum.inr (Sum.inr (rows_of 5 R_a_chances))))))]) (f := fp) mrw4.1
    have qkk6 := hkk6
    rw [hgk5] at qkk6
    refine va_iald hx hb hK hP kk6 2 qkk6 rfl (vq_in v1 4 (by omega)) dX3_broughtBy_20 ?_
    refine lv_topi (fun x7 ex7 => ?_)
    have hx7 : iv x7 0 10 := iv.of (bgk5 _) ex7
    refine lv_aload_n hx hb dX3_broughtBy_21 rfl (lv_at hl 2 rfl) ?_
    refine va_get (D := (dC, dI)) (ci := 3) (v := Value.ref a_brings) (C := RX3) (T := TX3) (N := 11) hx hb hts iw_X3_broughtBy_X3 hown hK hP 0 rfl rfl 6 (by decide) (hts _ kk_X3_broughtBy_2) (fun _ h9 => h9) rfl dX3_broughtBy_22 ?_
    refine lv_iload_n hx hb dX3_broughtBy_25 rfl (lv_at hl 0 rfl) ?_
    refine va_iald hx hb hK hP 1 0 rfl rfl (vq_in v1 4 (by omega)) dX3_broughtBy_26 ?_
    refine lv_topi (fun x8 ex8 => ?_)
    refine lv_imul hx hb dX3_broughtBy_27 ?_
    refine lv_topi (fun x9 ex9 => ?_)
    refine lv_iadd hx hb dX3_broughtBy_28 ?_
    refine lv_topi (fun x10 ex10 => ?_)
    refine lv_istore_n (lv' := [(2, Value.int x10), (3, Value.int v1), (0, Value.ref o), (1, Value.int p0)]) hx hb dX3_broughtBy_29 rfl hl (by decide) rfl (fun ls hl => ?_)
    obtain ⟨x11, ex11⟩ : ∃ z : Int32, v1 + Int32.ofInt 1 = z := ⟨_, rfl⟩
    have tx11 := i32_inc ex11 rfl (by decide) (by omega) (by omega)
    refine lv_iinc (v := x11) (lv' := [(3, Value.int x11), (2, Value.int x10), (0, Value.ref o), (1, Value.int p0)]) hx hb dX3_broughtBy_30 hl (k := 1) rfl ex11 (by decide) rfl (fun ls hl => ?_)
    refine lv_goto (tgt := 4) hx hb dX3_broughtBy_33 (by decide) ?_
    have bx10 := i32_rng x10
    exact ih4 _ _ _ _ (by omega) ⟨x11, x10, rfl, (iv.m (by omega)), hP, hD, hS, lv_sub hl [0, 1, 2, 3] rfl⟩

