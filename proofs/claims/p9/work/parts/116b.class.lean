set_option maxHeartbeats 4000000 in
set_option maxRecDepth 100000 in
theorem ct_X5_settleWatched (l : Launch) (dC : Nat → ClassId) (dI : Nat → Nat → Nat) (o : Nat) (p0 : Nat) (p1 : Int32) (p2 : Int32) (v_lowUpper : Int64) (v_lowLower : Int64) (v_capUpper : Int64) (v_capLower : Int64) (v_isBroken : Int32) (p0_v_signs : Int32) (p0_v_works : Int32) (p0_v_whole : Int32) (p0_v_otherwise : Int32) (p0_v_least : Int32) (p0_v_rates : Int32) (p0_a_brings : Nat) (p0_a_costs : Nat) (p0_a_chances : Nat) (p0_a_rate : Nat) (p0_a_mark : Nat) (k_p0_a_costs : ClassId) (f_p0_a_costs : Nat → Int32) (k_p0_a_rate : ClassId) (f_p0_a_rate : Nat → Int32) (k_p0_a_mark : ClassId) (f_p0_a_mark : Nat → Int32) (hp1 : iv p1 0 4) (hp0_v_works : iv p0_v_works 0 5) (hp0_v_whole : iv p0_v_whole 2 10) (hp0_v_rates : iv p0_v_rates 1 3) (hf_p0_a_costs : ivf f_p0_a_costs 0 99) (hf_p0_a_rate : ivf f_p0_a_rate 0 5) (hf_p0_a_mark : ivf f_p0_a_mark 0 99) (sz : Nat) : Met l yX5_settleWatched wsX5_settleWatched ({ frames := 3, cells := 0, slots := 0, locals := 60 }) (va_Pc [Value.ref o, Value.ref p0, Value.int p1, Value.int p2] (fun U => U.heap.size = sz ∧ va_P (dC, dI) vwCl [(o, Sum.inr (5, [Value.long v_lowUpper, Value.long v_lowLower, Value.long v_capUpper, Value.long v_capLower, Value.int v_isBroken])), (p0, Sum.inr (3, [Value.int p0_v_signs, Value.int p0_v_works, Value.int p0_v_whole, Value.int p0_v_otherwise, Value.int p0_v_least, Value.int p0_v_rates, Value.ref p0_a_brings, Value.ref p0_a_costs, Value.ref p0_a_chances, Value.ref p0_a_rate, Value.ref p0_a_mark])), (p0_a_costs, Sum.inl (k_p0_a_costs, 5, Sum.inl f_p0_a_costs)), (p0_a_rate, Sum.inl (k_p0_a_rate, 3, Sum.inl f_p0_a_rate)), (p0_a_mark, Sum.inl (k_p0_a_mark, 2, Sum.inl f_p0_a_mark))] U.heap ∧ va_K (dC, dI) vwCl [(k_p0_a_costs, FieldType.int), (k_p0_a_rate, FieldType.int), (k_p0_a_mark, FieldType.int)] U ∧ va_D (fun _ => True) [(o, Sum.inr (5, [Value.long v_lowUpper, Value.long v_lowLower, Value.long v_capUpper, Value.long v_capLower, Value.int v_isBroken])), (p0, Sum.inr (3, [Value.int p0_v_signs, Value.int p0_v_works, Value.int p0_v_whole, Value.int p0_v_otherwise, Value.int p0_v_least, Value.int p0_v_rates, Value.ref p0_a_brings, Value.ref p0_a_costs, Value.ref p0_a_chances, Value.ref p0_a_rate, Value.ref p0_a_mark])), (p0_a_costs, Sum.inl (k_p0_a_costs, 5, Sum.inl f_p0_a_costs)), (p0_a_rate, Sum.inl (k_p0_a_rate, 3, Sum.inl f_p0_a_rate)), (p0_a_mark, Sum.inl (k_p0_a_mark, 2, Sum.inl f_p0_a_mark))])) (va_Qi (fun (r u : Int32) => u = r) (fun (r : Int32) t => ∃ (e_v_lowUpper : Int64) (e_v_lowLower : Int64) (e_v_capUpper : Int64) (e_v_capLower : Int64) (e_v_isBroken : Int32), iv e_v_isBroken 0 1 ∧ ((r = 0) ∨ (r = 1)) ∧ va_P (dC, dI) vwCl [(o, Sum.inr (5, [Value.long e_v_lowUpper, Value.long e_v_lowLower, Value.long e_v_capUpper, Value.long e_v_capLower, Value.int e_v_isBroken])), (p0, Sum.inr (3, [Value.int p0_v_signs, Value.int p0_v_works, Value.int p0_v_whole, Value.int p0_v_otherwise, Value.int p0_v_least, Value.int p0_v_rates, Value.ref p0_a_brings, Value.ref p0_a_costs, Value.ref p0_a_chances, Value.ref p0_a_rate, Value.ref p0_a_mark])), (p0_a_costs, Sum.inl (k_p0_a_costs, 5, Sum.inl f_p0_a_costs)), (p0_a_rate, Sum.inl (k_p0_a_rate, 3, Sum.inl f_p0_a_rate)), (p0_a_mark, Sum.inl (k_p0_a_mark, 2, Sum.inl f_p0_a_mark))] t.heap ∧ va_D (va_A [(o, Sum.inr (5, [Value.long v_lowUpper, Value.long v_lowLower, Value.long v_capUpper, Value.long v_capLower, Value.int v_isBroken])), (p0, Sum.inr (3, [Value.int p0_v_signs, Value.int p0_v_works, Value.int p0_v_whole, Value.int p0_v_otherwise, Value.int p0_v_least, Value.int p0_v_rates, Value.ref p0_a_brings, Value.ref p0_a_costs, Value.ref p0_a_chances, Value.ref p0_a_rate, Value.ref p0_a_mark])), (p0_a_costs, Sum.inl (k_p0_a_costs, 5, Sum.inl f_p0_a_costs)), (p0_a_rate, Sum.inl (k_p0_a_rate, 3, Sum.inl f_p0_a_rate)), (p0_a_mark, Sum.inl (k_p0_a_mark, 2, Sum.inl f_p0_a_mark))] sz) [(o, Sum.inr (5, [Value.long e_v_lowUpper, Value.long e_v_lowLower, Value.long e_v_capUpper, Value.long e_v_capLower, Value.int e_v_isBroken])), (p0, Sum.inr (3, [Value.int p0_v_signs, Value.int p0_v_works, Value.int p0_v_whole, Value.int p0_v_otherwise, Value.int p0_v_least, Value.int p0_v_rates, Value.ref p0_a_brings, Value.ref p0_a_costs, Value.ref p0_a_chances, Value.ref p0_a_rate, Value.ref p0_a_mark])), (p0_a_costs, Sum.inl (k_p0_a_costs, 5, Sum.inl f_p0_a_costs)), (p0_a_rate, Sum.inl (k_p0_a_rate, 3, Sum.inl f_p0_a_rate)), (p0_a_mark, Sum.inl (k_p0_a_mark, 2, Sum.inl f_p0_a_mark))]) (va_A [(o, Sum.inr (5, [Value.long v_lowUpper, Value.long v_lowLower, Value.long v_capUpper, Value.long v_capLower, Value.int v_isBroken])), (p0, Sum.inr (3, [Value.int p0_v_signs, Value.int p0_v_works, Value.int p0_v_whole, Value.int p0_v_otherwise, Value.int p0_v_least, Value.int p0_v_rates, Value.ref p0_a_brings, Value.ref p0_a_costs, Value.ref p0_a_chances, Value.ref p0_a_rate, Value.ref p0_a_mark])), (p0_a_costs, Sum.inl (k_p0_a_costs, 5, Sum.inl f_p0_a_costs)), (p0_a_rate, Sum.inl (k_p0_a_rate, 3, Sum.inl f_p0_a_rate)), (p0_a_mark, Sum.inl (k_p0_a_mark, 2, Sum.inl f_p0_a_mark))] sz)) 0 0 (va_A [(o, Sum.inr (5, [Value.long v_lowUpper, Value.long v_lowLower, Value.long v_capUpper, Value.long v_capLower, Value.int v_isBroken])), (p0, Sum.inr (3, [Value.int p0_v_signs, Value.int p0_v_works, Value.int p0_v_whole, Value.int p0_v_otherwise, Value.int p0_v_least, Value.int p0_v_rates, Value.ref p0_a_brings, Value.ref p0_a_costs, Value.ref p0_a_chances, Value.ref p0_a_rate, Value.ref p0_a_mark])), (p0_a_costs, Sum.inl (k_p0_a_costs, 5, Sum.inl f_p0_a_costs)), (p0_a_rate, Sum.inl (k_p0_a_rate, 3, Sum.inl f_p0_a_rate)), (p0_a_mark, Sum.inl (k_p0_a_mark, 2, Sum.inl f_p0_a_mark))] sz) := by
  refine Met.ofW (cc := cX5_settleWatched) (maxL := 5) (ret := (some .boolean)) pn_X5 rfl ?_
  intro p e s m args below meth c s₁ B hml hv
  obtain ⟨rfl, hsz, hP, hK, hD0⟩ := hv
  have hx := B.exec
  have hb := B.bytes
  have hr := B.returns
  have hts := atoms_spec (ws := wsX5_settleWatched) B.pre
  have hown : s.vm.findClass RX5 = some m.cls := findClass_of_methodNamed B.named
  have hlocks := B.notSynchronized
  subst hsz
  have hD := hD0.self (sz := s.heap.size)
  generalize hAe : va_A [(o, Sum.inr (5, [Value.long v_lowUpper, Value.long v_lowLower, Value.long v_capUpper, Value.long v_capLower, Value.int v_isBroken])), (p0, Sum.inr (3, [Value.int p0_v_signs, Value.int p0_v_works, Value.int p0_v_whole, Value.int p0_v_otherwise, Value.int p0_v_least, Value.int p0_v_rates, Value.ref p0_a_brings, Value.ref p0_a_costs, Value.ref p0_a_chances, Value.ref p0_a_rate, Value.ref p0_a_mark])), (p0_a_costs, Sum.inl (k_p0_a_costs, 5, Sum.inl f_p0_a_costs)), (p0_a_rate, Sum.inl (k_p0_a_rate, 3, Sum.inl f_p0_a_rate)), (p0_a_mark, Sum.inl (k_p0_a_mark, 2, Sum.inl f_p0_a_mark))] s.heap.size = A at hD ⊢
  have hA : ∀ q : Nat, s.heap.size ≤ q → A q := fun q h => by rw [← hAe]; exact Or.inr h
  have hS : va_S A s.heap s.heap [] := va_S.rf
  have hP : va_P (dC, dI) vwCl [(o, Sum.inr (5, [Value.long v_lowUpper, Value.long v_lowLower, Value.long v_capUpper, Value.long v_capLower, Value.int v_isBroken])), (p0, Sum.inr (3, [Value.int p0_v_signs, Value.int p0_v_works, Value.int p0_v_whole, Value.int p0_v_otherwise, Value.int p0_v_least, Value.int p0_v_rates, Value.ref p0_a_brings, Value.ref p0_a_costs, Value.ref p0_a_chances, Value.ref p0_a_rate, Value.ref p0_a_mark])), (p0_a_costs, Sum.inl (k_p0_a_costs, 5, Sum.inl f_p0_a_costs)), (p0_a_rate, Sum.inl (k_p0_a_rate, 3, Sum.inl f_p0_a_rate)), (p0_a_mark, Sum.inl (k_p0_a_mark, 2, Sum.inl f_p0_a_mark))] s.heap := hP
  have hl := lv_entry ([Value.ref o, Value.ref p0, Value.int p1, Value.int p2]) (n := 5) (Nat.le_of_ble_eq_true rfl)
  rw [lg_entry_eq]
  generalize (lg_sl ([Value.ref o, Value.ref p0, Value.int p1, Value.int p2]) ++ List.replicate (5 - (lg_sl ([Value.ref o, Value.ref p0, Value.int p1, Value.int p2])).length) Slot.unset).toArray = ls at hl ⊢
  have hl : lv_has ls 5 [(0, Value.ref o), (1, Value.ref p0), (2, Value.int p1), (3, Value.int p2)] := hl
  refine lv_aload_n hx hb dX5_settleWatched_0 rfl (lv_at hl 0 rfl) ?_
  have hPc := hP.sub (ws' := [(o, Sum.inr (5, [Value.long v_lowUpper, Value.long v_lowLower, Value.long v_capUpper, Value.long v_capLower, Value.int v_isBroken]))]) [0] rfl
  have hDc := hD.sub (ws' := [(o, Sum.inr (5, [Value.long v_lowUpper, Value.long v_lowLower, Value.long v_capUpper, Value.long v_capLower, Value.int v_isBroken]))]) [0] (by decide) rfl
  have hKc := hK.sub (tys' := []) [] rfl
  have hFc := va_free (wc := [(o, Sum.inr (5, [Value.long v_lowUpper, Value.long v_lowLower, Value.long v_capUpper, Value.long v_capLower, Value.int v_isBroken]))]) hD hS hA [0] rfl
  refine va_callv (va_runV (As := []) (rest := []) ⟨hx, hb, hml, hown, hts⟩ (ct_X5_start l dC dI o v_lowUpper v_lowLower v_capUpper v_capLower v_isBroken s.heap.size) (cwV 0 hts gX5_settleWatched_X5_start rfl rfl rfl ⟨rfl, cn_X5.1, cn_X5.2, ds_7⟩ ⟨Nat.le_of_ble_eq_true rfl, Nat.le_of_ble_eq_true rfl⟩) ⟨fun a U g mk q => by obtain ⟨q0, q1, qP, qK, qD⟩ := q; exact ⟨q0, q1, qP, va_K.moved (u := U) (U := U.calling g mk a) (Vm.Alike.refl U.vm) qK, qD⟩, va_recv hKc hPc (ci := 5) (q0 := 0) rfl rfl, fun U hU hW => ⟨rfl, by rw [hU], by rw [hU]; exact hPc, va_K.moved hW.alike hKc, hDc.weaken (fun _ _ _ _ => trivial)⟩⟩ rfl rfl hl.1 rfl (lv_room (Nat.le_of_ble_eq_true rfl)) dX5_settleWatched_1 ⟨Nat.le_of_ble_eq_true rfl, Nat.le_of_ble_eq_true rfl⟩) hS (fun q _ h => hFc q h) hFc (fun u t H1 locs ht hvm hw hB hz1 hk1 hS => ?_)
  obtain ⟨hP1, hD1⟩ := hB
  rw [ht] at hP1
  obtain ⟨hP, hD⟩ := va_join (wr := [(p0, Sum.inr (3, [Value.int p0_v_signs, Value.int p0_v_works, Value.int p0_v_whole, Value.int p0_v_otherwise, Value.int p0_v_least, Value.int p0_v_rates, Value.ref p0_a_brings, Value.ref p0_a_costs, Value.ref p0_a_chances, Value.ref p0_a_rate, Value.ref p0_a_mark])), (p0_a_costs, Sum.inl (k_p0_a_costs, 5, Sum.inl f_p0_a_costs)), (p0_a_rate, Sum.inl (k_p0_a_rate, 3, Sum.inl f_p0_a_rate)), (p0_a_mark, Sum.inl (k_p0_a_mark, 2, Sum.inl f_p0_a_mark))]) (w1 := [(o, Sum.inr (5, [Value.long 0, Value.long 1, Value.long 0, Value.long 0, Value.int 0]))]) hP hD [0] [1, 2, 3, 4] rfl rfl (by decide) (by decide) hk1 hFc hP1 hD1
  clear hPc hDc hKc hFc hP1 hD1 hk1 hz1
  generalize H1 = H at hP hS ⊢
  have hP : va_P (dC, dI) vwCl [(p0, Sum.inr (3, [Value.int p0_v_signs, Value.int p0_v_works, Value.int p0_v_whole, Value.int p0_v_otherwise, Value.int p0_v_least, Value.int p0_v_rates, Value.ref p0_a_brings, Value.ref p0_a_costs, Value.ref p0_a_chances, Value.ref p0_a_rate, Value.ref p0_a_mark])), (p0_a_costs, Sum.inl (k_p0_a_costs, 5, Sum.inl f_p0_a_costs)), (p0_a_rate, Sum.inl (k_p0_a_rate, 3, Sum.inl f_p0_a_rate)), (p0_a_mark, Sum.inl (k_p0_a_mark, 2, Sum.inl f_p0_a_mark)), (o, Sum.inr (5, [Value.long 0, Value.long 1, Value.long 0, Value.long 0, Value.int 0]))] H := hP
  have hD : va_D A [(p0, Sum.inr (3, [Value.int p0_v_signs, Value.int p0_v_works, Value.int p0_v_whole, Value.int p0_v_otherwise, Value.int p0_v_least, Value.int p0_v_rates, Value.ref p0_a_brings, Value.ref p0_a_costs, Value.ref p0_a_chances, Value.ref p0_a_rate, Value.ref p0_a_mark])), (p0_a_costs, Sum.inl (k_p0_a_costs, 5, Sum.inl f_p0_a_costs)), (p0_a_rate, Sum.inl (k_p0_a_rate, 3, Sum.inl f_p0_a_rate)), (p0_a_mark, Sum.inl (k_p0_a_mark, 2, Sum.inl f_p0_a_mark)), (o, Sum.inr (5, [Value.long 0, Value.long 1, Value.long 0, Value.long 0, Value.int 0]))] := hD
  refine W.widen (k := 0) (n := 0) (by decide) (by decide) ?_
  refine lv_iconst (v := 0) hx hb dX5_settleWatched_4 (by decide) ?_
  refine lv_istore (lv' := [(4, Value.int 0), (0, Value.ref o), (1, Value.ref p0), (2, Value.int p1), (3, Value.int p2)]) hx hb dX5_settleWatched_5 hl (by decide) rfl (fun ls hl => ?_)
  refine tl_loop (I := fun nn H locs ls => ∃ (v2 : Int32) (v3 : Int64) (v4 : Int64) (v5 : Int64) (v6 : Int64) (v7 : Int32), nn = (5 - v2.toInt).toNat ∧ iv v2 0 5 ∧ iv v7 0 1 ∧  va_P (dC, dI) vwCl [(p0, Sum.inr (3, [Value.int p0_v_signs, Value.int p0_v_works, Value.int p0_v_whole, Value.int p0_v_otherwise, Value.int p0_v_least, Value.int p0_v_rates, Value.ref p0_a_brings, Value.ref p0_a_costs, Value.ref p0_a_chances, Value.ref p0_a_rate, Value.ref p0_a_mark])), (p0_a_costs, Sum.inl (k_p0_a_costs, 5, Sum.inl f_p0_a_costs)), (p0_a_rate, Sum.inl (k_p0_a_rate, 3, Sum.inl f_p0_a_rate)), (p0_a_mark, Sum.inl (k_p0_a_mark, 2, Sum.inl f_p0_a_mark)), (o, Sum.inr (5, [Value.long v3, Value.long v4, Value.long v5, Value.long v6, Value.int v7]))] H ∧ va_D A [(p0, Sum.inr (3, [Value.int p0_v_signs, Value.int p0_v_works, Value.int p0_v_whole, Value.int p0_v_otherwise, Value.int p0_v_least, Value.int p0_v_rates, Value.ref p0_a_brings, Value.ref p0_a_costs, Value.ref p0_a_chances, Value.ref p0_a_rate, Value.ref p0_a_mark])), (p0_a_costs, Sum.inl (k_p0_a_costs, 5, Sum.inl f_p0_a_costs)), (p0_a_rate, Sum.inl (k_p0_a_rate, 3, Sum.inl f_p0_a_rate)), (p0_a_mark, Sum.inl (k_p0_a_mark, 2, Sum.inl f_p0_a_mark)), (o, Sum.inr (5, [Value.long v3, Value.long v4, Value.long v5, Value.long v6, Value.int v7]))] ∧ va_S A s.heap H locs ∧ lv_has ls 5 [(4, Value.int v2), (0, Value.ref o), (1, Value.ref p0), (2, Value.int p1), (3, Value.int p2)]) ?_ ⟨0, 0, 1, 0, 0, 0, rfl, (iv.m (by decide)), (iv.m (by decide)), hP, hD, hS, lv_sub hl [0, 1, 2, 3, 4] rfl⟩
  clear hP hD hS hl
  intro nn7 H locs ls hI ih7
  obtain ⟨v2, v3, v4, v5, v6, v7, hn7, hv2, hv7, hP, hD, hS, hl⟩ := hI
  have bv2 := hv2.u
  refine lv_iload hx hb dX5_settleWatched_7 (lv_at hl 0 rfl) ?_
  refine lv_aload_n hx hb dX5_settleWatched_9 rfl (lv_at hl 2 rfl) ?_
  refine va_get (D := (dC, dI)) (ci := 3) (v := Value.int p0_v_works) (C := RX3) (T := TX3) (N := 11) hx hb hts iw_X5_settleWatched_X3 hown hK hP 0 rfl rfl 1 (by decide) (hts _ kk_X5_settleWatched_0) (fun _ h9 => h9) rfl dX5_settleWatched_10 ?_
  have bp0_v_works := hp0_v_works.u
  refine lv_icmp_ge (tgt := 56) hx hb dX5_settleWatched_13 (by decide) (fun c8 => ?_) (fun c8 => ?_)
  · have c89 := i32_le c8 rfl rfl
    refine lv_aload_n hx hb dX5_settleWatched_56 rfl (lv_at hl 1 rfl) ?_
    have hPc := hP.sub (ws' := [(o, Sum.inr (5, [Value.long v3, Value.long v4, Value.long v5, Value.long v6, Value.int v7]))]) [4] rfl
    have hDc := hD.sub (ws' := [(o, Sum.inr (5, [Value.long v3, Value.long v4, Value.long v5, Value.long v6, Value.int v7]))]) [4] (by decide) rfl
    have hKc := hK.sub (tys' := []) [] rfl
    have hFc := va_free (wc := [(o, Sum.inr (5, [Value.long v3, Value.long v4, Value.long v5, Value.long v6, Value.int v7]))]) hD hS hA [4] rfl
    refine va_calli (va_runV (As := []) (rest := []) ⟨hx, hb, hml, hown, hts⟩ (ct_X5_isMet l dC dI o v3 v4 v5 v6 v7 hv7 H.size) (cwV 0 hts gX5_settleWatched_X5_isMet rfl rfl rfl ⟨rfl, cn_X5.1, cn_X5.2, ds_25⟩ ⟨Nat.le_of_ble_eq_true rfl, Nat.le_of_ble_eq_true rfl⟩) ⟨fun a U g mk q => by obtain ⟨q0, q1, qP, qK, qD⟩ := q; exact ⟨q0, q1, qP, va_K.moved (u := U) (U := U.calling g mk a) (Vm.Alike.refl U.vm) qK, qD⟩, va_recv hKc hPc (ci := 5) (q0 := 0) rfl rfl, fun U hU hW => ⟨rfl, by rw [hU], by rw [hU]; exact hPc, va_K.moved hW.alike hKc, hDc.weaken (fun _ _ _ _ => trivial)⟩⟩ rfl rfl hl.1 rfl (lv_room (Nat.le_of_ble_eq_true rfl)) dX5_settleWatched_57 ⟨Nat.le_of_ble_eq_true rfl, Nat.le_of_ble_eq_true rfl⟩) hS (fun q _ h => hFc q h) hFc (fun r9 u t H1 locs ht hvm hw hB hz1 hk1 hS => ?_)
    have hw : r9 = u := hw.symm
    subst hw
    obtain ⟨w10, hP1, hD1⟩ := hB
    rw [ht] at hP1
    obtain ⟨hP, hD⟩ := va_join (wr := [(p0, Sum.inr (3, [Value.int p0_v_signs, Value.int p0_v_works, Value.int p0_v_whole, Value.int p0_v_otherwise, Value.int p0_v_least, Value.int p0_v_rates, Value.ref p0_a_brings, Value.ref p0_a_costs, Value.ref p0_a_chances, Value.ref p0_a_rate, Value.ref p0_a_mark])), (p0_a_costs, Sum.inl (k_p0_a_costs, 5, Sum.inl f_p0_a_costs)), (p0_a_rate, Sum.inl (k_p0_a_rate, 3, Sum.inl f_p0_a_rate)), (p0_a_mark, Sum.inl (k_p0_a_mark, 2, Sum.inl f_p0_a_mark))]) (w1 := [(o, Sum.inr (5, [Value.long v3, Value.long v4, Value.long v5, Value.long v6, Value.int v7]))]) hP hD [4] [0, 1, 2, 3] rfl rfl (by decide) (by decide) hk1 hFc hP1 hD1
    clear hPc hDc hKc hFc hP1 hD1 hk1 hz1
    generalize H1 = H at hP hS ⊢
    have hP : va_P (dC, dI) vwCl [(p0, Sum.inr (3, [Value.int p0_v_signs, Value.int p0_v_works, Value.int p0_v_whole, Value.int p0_v_otherwise, Value.int p0_v_least, Value.int p0_v_rates, Value.ref p0_a_brings, Value.ref p0_a_costs, Value.ref p0_a_chances, Value.ref p0_a_rate, Value.ref p0_a_mark])), (p0_a_costs, Sum.inl (k_p0_a_costs, 5, Sum.inl f_p0_a_costs)), (p0_a_rate, Sum.inl (k_p0_a_rate, 3, Sum.inl f_p0_a_rate)), (p0_a_mark, Sum.inl (k_p0_a_mark, 2, Sum.inl f_p0_a_mark)), (o, Sum.inr (5, [Value.long v3, Value.long v4, Value.long v5, Value.long v6, Value.int v7]))] H := hP
    have hD : va_D A [(p0, Sum.inr (3, [Value.int p0_v_signs, Value.int p0_v_works, Value.int p0_v_whole, Value.int p0_v_otherwise, Value.int p0_v_least, Value.int p0_v_rates, Value.ref p0_a_brings, Value.ref p0_a_costs, Value.ref p0_a_chances, Value.ref p0_a_rate, Value.ref p0_a_mark])), (p0_a_costs, Sum.inl (k_p0_a_costs, 5, Sum.inl f_p0_a_costs)), (p0_a_rate, Sum.inl (k_p0_a_rate, 3, Sum.inl f_p0_a_rate)), (p0_a_mark, Sum.inl (k_p0_a_mark, 2, Sum.inl f_p0_a_mark)), (o, Sum.inr (5, [Value.long v3, Value.long v4, Value.long v5, Value.long v6, Value.int v7]))] := hD
    refine W.widen (k := 0) (n := 0) (by decide) (by decide) ?_
    rcases w10 with hr9 | hr9
    · subst hr9
      have hP9 := hP.sub (ws' := [(o, Sum.inr (5, [Value.long v3, Value.long v4, Value.long v5, Value.long v6, Value.int v7])), (p0, Sum.inr (3, [Value.int p0_v_signs, Value.int p0_v_works, Value.int p0_v_whole, Value.int p0_v_otherwise, Value.int p0_v_least, Value.int p0_v_rates, Value.ref p0_a_brings, Value.ref p0_a_costs, Value.ref p0_a_chances, Value.ref p0_a_rate, Value.ref p0_a_mark])), (p0_a_costs, Sum.inl (k_p0_a_costs, 5, Sum.inl f_p0_a_costs)), (p0_a_rate, Sum.inl (k_p0_a_rate, 3, Sum.inl f_p0_a_rate)), (p0_a_mark, Sum.inl (k_p0_a_mark, 2, Sum.inl f_p0_a_mark))]) [4, 0, 1, 2, 3] rfl
      have hD9 := hD.sub (ws' := [(o, Sum.inr (5, [Value.long v3, Value.long v4, Value.long v5, Value.long v6, Value.int v7])), (p0, Sum.inr (3, [Value.int p0_v_signs, Value.int p0_v_works, Value.int p0_v_whole, Value.int p0_v_otherwise, Value.int p0_v_least, Value.int p0_v_rates, Value.ref p0_a_brings, Value.ref p0_a_costs, Value.ref p0_a_chances, Value.ref p0_a_rate, Value.ref p0_a_mark])), (p0_a_costs, Sum.inl (k_p0_a_costs, 5, Sum.inl f_p0_a_costs)), (p0_a_rate, Sum.inl (k_p0_a_rate, 3, Sum.inl f_p0_a_rate)), (p0_a_mark, Sum.inl (k_p0_a_mark, 2, Sum.inl f_p0_a_mark))]) [4, 0, 1, 2, 3] (by decide) rfl
      exact W.zret (v := 0) hx hb hr rfl (fun t ht hW => ⟨⟨0, 0, rfl, rfl, v3, v4, v5, v6, v7, hv7, (Or.inl rfl), by rw [ht]; exact hP9, hD9⟩, hS.F ht⟩) hS.2.2 dX5_settleWatched_60
    · subst hr9
      have hP9 := hP.sub (ws' := [(o, Sum.inr (5, [Value.long v3, Value.long v4, Value.long v5, Value.long v6, Value.int v7])), (p0, Sum.inr (3, [Value.int p0_v_signs, Value.int p0_v_works, Value.int p0_v_whole, Value.int p0_v_otherwise, Value.int p0_v_least, Value.int p0_v_rates, Value.ref p0_a_brings, Value.ref p0_a_costs, Value.ref p0_a_chances, Value.ref p0_a_rate, Value.ref p0_a_mark])), (p0_a_costs, Sum.inl (k_p0_a_costs, 5, Sum.inl f_p0_a_costs)), (p0_a_rate, Sum.inl (k_p0_a_rate, 3, Sum.inl f_p0_a_rate)), (p0_a_mark, Sum.inl (k_p0_a_mark, 2, Sum.inl f_p0_a_mark))]) [4, 0, 1, 2, 3] rfl
      have hD9 := hD.sub (ws' := [(o, Sum.inr (5, [Value.long v3, Value.long v4, Value.long v5, Value.long v6, Value.int v7])), (p0, Sum.inr (3, [Value.int p0_v_signs, Value.int p0_v_works, Value.int p0_v_whole, Value.int p0_v_otherwise, Value.int p0_v_least, Value.int p0_v_rates, Value.ref p0_a_brings, Value.ref p0_a_costs, Value.ref p0_a_chances, Value.ref p0_a_rate, Value.ref p0_a_mark])), (p0_a_costs, Sum.inl (k_p0_a_costs, 5, Sum.inl f_p0_a_costs)), (p0_a_rate, Sum.inl (k_p0_a_rate, 3, Sum.inl f_p0_a_rate)), (p0_a_mark, Sum.inl (k_p0_a_mark, 2, Sum.inl f_p0_a_mark))]) [4, 0, 1, 2, 3] (by decide) rfl
      exact W.zret (v := 1) hx hb hr rfl (fun t ht hW => ⟨⟨1, 1, rfl, rfl, v3, v4, v5, v6, v7, hv7, (Or.inr (rfl)), by rw [ht]; exact hP9, hD9⟩, hS.F ht⟩) hS.2.2 dX5_settleWatched_60
  · have c89 := i32_nle c8 rfl rfl
    refine lv_aload_n hx hb dX5_settleWatched_16 rfl (lv_at hl 1 rfl) ?_
    refine lv_iload hx hb dX5_settleWatched_17 (lv_at hl 0 rfl) ?_
    refine lv_iload_n hx hb dX5_settleWatched_19 rfl (lv_at hl 3 rfl) ?_
    have bp1 := hp1.u
    refine lv_icmp_ne (tgt := 31) hx hb dX5_settleWatched_20 (by decide) (fun c11 => ?_) (fun c11 => ?_)
    · have c119 := i32_ne c11 rfl rfl
      refine lv_iload_n hx hb dX5_settleWatched_31 rfl (lv_at hl 4 rfl) ?_
      refine lv_i2l (v := (p2).toInt64) hx hb dX5_settleWatched_32 rfl ?_
      refine lv_aload_n hx hb dX5_settleWatched_33 rfl (lv_at hl 2 rfl) ?_
      refine va_get (D := (dC, dI)) (ci := 3) (v := Value.int p0_v_whole) (C := RX3) (T := TX3) (N := 11) hx hb hts iw_X5_settleWatched_X3 hown hK hP 0 rfl rfl 2 (by decide) (hts _ kk_X5_settleWatched_1) (fun _ h9 => h9) rfl dX5_settleWatched_34 ?_
      refine lv_i2l (v := (p0_v_whole).toInt64) hx hb dX5_settleWatched_37 rfl ?_
      refine lv_aload_n hx hb dX5_settleWatched_38 rfl (lv_at hl 2 rfl) ?_
      refine lv_iload_n hx hb dX5_settleWatched_39 rfl (lv_at hl 3 rfl) ?_
      refine lv_iload hx hb dX5_settleWatched_40 (lv_at hl 0 rfl) ?_
      have hPc := hP.sub (ws' := [(p0, Sum.inr (3, [Value.int p0_v_signs, Value.int p0_v_works, Value.int p0_v_whole, Value.int p0_v_otherwise, Value.int p0_v_least, Value.int p0_v_rates, Value.ref p0_a_brings, Value.ref p0_a_costs, Value.ref p0_a_chances, Value.ref p0_a_rate, Value.ref p0_a_mark])), (p0_a_costs, Sum.inl (k_p0_a_costs, 5, Sum.inl f_p0_a_costs)), (p0_a_rate, Sum.inl (k_p0_a_rate, 3, Sum.inl f_p0_a_rate)), (p0_a_mark, Sum.inl (k_p0_a_mark, 2, Sum.inl f_p0_a_mark))]) [0, 1, 2, 3] rfl
      have hDc := hD.sub (ws' := [(p0, Sum.inr (3, [Value.int p0_v_signs, Value.int p0_v_works, Value.int p0_v_whole, Value.int p0_v_otherwise, Value.int p0_v_least, Value.int p0_v_rates, Value.ref p0_a_brings, Value.ref p0_a_costs, Value.ref p0_a_chances, Value.ref p0_a_rate, Value.ref p0_a_mark])), (p0_a_costs, Sum.inl (k_p0_a_costs, 5, Sum.inl f_p0_a_costs)), (p0_a_rate, Sum.inl (k_p0_a_rate, 3, Sum.inl f_p0_a_rate)), (p0_a_mark, Sum.inl (k_p0_a_mark, 2, Sum.inl f_p0_a_mark))]) [0, 1, 2, 3] (by decide) rfl
      have hKc := hK.sub (tys' := [(k_p0_a_costs, FieldType.int), (k_p0_a_rate, FieldType.int), (k_p0_a_mark, FieldType.int)]) [0, 1, 2] rfl
      have hFc := va_free (wc := [(p0, Sum.inr (3, [Value.int p0_v_signs, Value.int p0_v_works, Value.int p0_v_whole, Value.int p0_v_otherwise, Value.int p0_v_least, Value.int p0_v_rates, Value.ref p0_a_brings, Value.ref p0_a_costs, Value.ref p0_a_chances, Value.ref p0_a_rate, Value.ref p0_a_mark])), (p0_a_costs, Sum.inl (k_p0_a_costs, 5, Sum.inl f_p0_a_costs)), (p0_a_rate, Sum.inl (k_p0_a_rate, 3, Sum.inl f_p0_a_rate)), (p0_a_mark, Sum.inl (k_p0_a_mark, 2, Sum.inl f_p0_a_mark))]) hD hS hA [0, 1, 2, 3] rfl
      refine va_calli (va_runV (As := [Value.int p1, Value.int v2]) (rest := [Value.long ((p0_v_whole).toInt64), Value.long ((p2).toInt64), Value.ref o]) ⟨hx, hb, hml, hown, hts⟩ (ct_X3_lackOf l dC dI p0 p1 v2 p0_v_signs p0_v_works p0_v_whole p0_v_otherwise p0_v_least p0_v_rates p0_a_brings p0_a_costs p0_a_chances p0_a_rate p0_a_mark k_p0_a_costs f_p0_a_costs k_p0_a_rate f_p0_a_rate k_p0_a_mark f_p0_a_mark hp1 (iv.m (by omega)) hp0_v_rates hf_p0_a_costs hf_p0_a_rate hf_p0_a_mark H.size) (cwV 2 hts gX5_settleWatched_X3_lackOf rfl rfl rfl ⟨rfl, cn_X3.1, cn_X3.2, ds_9⟩ ⟨Nat.le_of_ble_eq_true rfl, Nat.le_of_ble_eq_true rfl⟩) ⟨fun a U g mk q => by obtain ⟨q0, q1, qP, qK, qD⟩ := q; exact ⟨q0, q1, qP, va_K.moved (u := U) (U := U.calling g mk a) (Vm.Alike.refl U.vm) qK, qD⟩, va_recv hKc hPc (ci := 3) (q0 := 0) rfl rfl, fun U hU hW => ⟨rfl, by rw [hU], by rw [hU]; exact hPc, va_K.moved hW.alike hKc, hDc.weaken (fun _ _ _ _ => trivial)⟩⟩ rfl rfl hl.1 rfl (lv_room (Nat.le_of_ble_eq_true rfl)) dX5_settleWatched_42 ⟨Nat.le_of_ble_eq_true rfl, Nat.le_of_ble_eq_true rfl⟩) hS (fun q _ h => hFc q h) hFc (fun r12 u t H1 locs ht hvm hw hB hz1 hk1 hS => ?_)
      have hw : r12 = u := hw.symm
      subst hw
      obtain ⟨hP1, hD1⟩ := hB
      rw [ht] at hP1
      obtain ⟨hP, hD⟩ := va_join (wr := [(o, Sum.inr (5, [Value.long v3, Value.long v4, Value.long v5, Value.long v6, Value.int v7]))]) (w1 := [(p0, Sum.inr (3, [Value.int p0_v_signs, Value.int p0_v_works, Value.int p0_v_whole, Value.int p0_v_otherwise, Value.int p0_v_least, Value.int p0_v_rates, Value.ref p0_a_brings, Value.ref p0_a_costs, Value.ref p0_a_chances, Value.ref p0_a_rate, Value.ref p0_a_mark])), (p0_a_costs, Sum.inl (k_p0_a_costs, 5, Sum.inl f_p0_a_costs)), (p0_a_rate, Sum.inl (k_p0_a_rate, 3, Sum.inl f_p0_a_rate)), (p0_a_mark, Sum.inl (k_p0_a_mark, 2, Sum.inl f_p0_a_mark))]) hP hD [0, 1, 2, 3] [4] rfl rfl (by decide) (by decide) hk1 hFc hP1 hD1
      clear hPc hDc hKc hFc hP1 hD1 hk1 hz1
      generalize H1 = H at hP hS ⊢
      have hP : va_P (dC, dI) vwCl [(o, Sum.inr (5, [Value.long v3, Value.long v4, Value.long v5, Value.long v6, Value.int v7])), (p0, Sum.inr (3, [Value.int p0_v_signs, Value.int p0_v_works, Value.int p0_v_whole, Value.int p0_v_otherwise, Value.int p0_v_least, Value.int p0_v_rates, Value.ref p0_a_brings, Value.ref p0_a_costs, Value.ref p0_a_chances, Value.ref p0_a_rate, Value.ref p0_a_mark])), (p0_a_costs, Sum.inl (k_p0_a_costs, 5, Sum.inl f_p0_a_costs)), (p0_a_rate, Sum.inl (k_p0_a_rate, 3, Sum.inl f_p0_a_rate)), (p0_a_mark, Sum.inl (k_p0_a_mark, 2, Sum.inl f_p0_a_mark))] H := hP
      have hD : va_D A [(o, Sum.inr (5, [Value.long v3, Value.long v4, Value.long v5, Value.long v6, Value.int v7])), (p0, Sum.inr (3, [Value.int p0_v_signs, Value.int p0_v_works, Value.int p0_v_whole, Value.int p0_v_otherwise, Value.int p0_v_least, Value.int p0_v_rates, Value.ref p0_a_brings, Value.ref p0_a_costs, Value.ref p0_a_chances, Value.ref p0_a_rate, Value.ref p0_a_mark])), (p0_a_costs, Sum.inl (k_p0_a_costs, 5, Sum.inl f_p0_a_costs)), (p0_a_rate, Sum.inl (k_p0_a_rate, 3, Sum.inl f_p0_a_rate)), (p0_a_mark, Sum.inl (k_p0_a_mark, 2, Sum.inl f_p0_a_mark))] := hD
      refine W.widen (k := 0) (n := 0) (by decide) (by decide) ?_
      refine lv_i2l (v := (r12).toInt64) hx hb dX5_settleWatched_45 rfl ?_
      refine lv_lmul hx hb dX5_settleWatched_46 ?_
      refine lv_topl (fun y13 ey13 => ?_)
      have hy13 : jv y13 (-21474836480) 21474836480 := jv.mula (B := 10) (D := 2147483648) ey13 (jv.i (show iv p0_v_whole 2 10 from hp0_v_whole)) (jv.i (show iv r12 (-2147483648) 2147483647 from i32_rng r12)) (by decide) (by decide) (by decide) (by decide) (by decide) (by decide)
      have hPc := hP.sub (ws' := [(o, Sum.inr (5, [Value.long v3, Value.long v4, Value.long v5, Value.long v6, Value.int v7]))]) [0] rfl
      have hDc := hD.sub (ws' := [(o, Sum.inr (5, [Value.long v3, Value.long v4, Value.long v5, Value.long v6, Value.int v7]))]) [0] (by decide) rfl
      have hKc := hK.sub (tys' := []) [] rfl
      have hFc := va_free (wc := [(o, Sum.inr (5, [Value.long v3, Value.long v4, Value.long v5, Value.long v6, Value.int v7]))]) hD hS hA [0] rfl
      refine va_callv (va_runV (As := [Value.long ((p2).toInt64), Value.long y13]) (rest := []) ⟨hx, hb, hml, hown, hts⟩ (ct_X5_need l dC dI o ((p2).toInt64) y13 v3 v4 v5 v6 v7 hv7 H.size) (cwV 2 hts gX5_settleWatched_X5_need rfl rfl rfl ⟨rfl, cn_X5.1, cn_X5.2, ds_13⟩ ⟨Nat.le_of_ble_eq_true rfl, Nat.le_of_ble_eq_true rfl⟩) ⟨fun a U g mk q => by obtain ⟨q0, q1, qP, qK, qD⟩ := q; exact ⟨q0, q1, qP, va_K.moved (u := U) (U := U.calling g mk a) (Vm.Alike.refl U.vm) qK, qD⟩, va_recv hKc hPc (ci := 5) (q0 := 0) rfl rfl, fun U hU hW => ⟨rfl, by rw [hU], by rw [hU]; exact hPc, va_K.moved hW.alike hKc, hDc.weaken (fun _ _ _ _ => trivial)⟩⟩ rfl rfl hl.1 rfl (lv_room (Nat.le_of_ble_eq_true rfl)) dX5_settleWatched_47 ⟨Nat.le_of_ble_eq_true rfl, Nat.le_of_ble_eq_true rfl⟩) hS (fun q _ h => hFc q h) hFc (fun u t H1 locs ht hvm hw hB hz1 hk1 hS => ?_)
      obtain ⟨y15, y16, y17, y18, v19, hv19, hP1, hD1⟩ := hB
      rw [ht] at hP1
      obtain ⟨hP, hD⟩ := va_join (wr := [(p0, Sum.inr (3, [Value.int p0_v_signs, Value.int p0_v_works, Value.int p0_v_whole, Value.int p0_v_otherwise, Value.int p0_v_least, Value.int p0_v_rates, Value.ref p0_a_brings, Value.ref p0_a_costs, Value.ref p0_a_chances, Value.ref p0_a_rate, Value.ref p0_a_mark])), (p0_a_costs, Sum.inl (k_p0_a_costs, 5, Sum.inl f_p0_a_costs)), (p0_a_rate, Sum.inl (k_p0_a_rate, 3, Sum.inl f_p0_a_rate)), (p0_a_mark, Sum.inl (k_p0_a_mark, 2, Sum.inl f_p0_a_mark))]) (w1 := [(o, Sum.inr (5, [Value.long y15, Value.long y16, Value.long y17, Value.long y18, Value.int v19]))]) hP hD [0] [1, 2, 3, 4] rfl rfl (by decide) (by decide) hk1 hFc hP1 hD1
      clear hPc hDc hKc hFc hP1 hD1 hk1 hz1
      generalize H1 = H at hP hS ⊢
      have hP : va_P (dC, dI) vwCl [(p0, Sum.inr (3, [Value.int p0_v_signs, Value.int p0_v_works, Value.int p0_v_whole, Value.int p0_v_otherwise, Value.int p0_v_least, Value.int p0_v_rates, Value.ref p0_a_brings, Value.ref p0_a_costs, Value.ref p0_a_chances, Value.ref p0_a_rate, Value.ref p0_a_mark])), (p0_a_costs, Sum.inl (k_p0_a_costs, 5, Sum.inl f_p0_a_costs)), (p0_a_rate, Sum.inl (k_p0_a_rate, 3, Sum.inl f_p0_a_rate)), (p0_a_mark, Sum.inl (k_p0_a_mark, 2, Sum.inl f_p0_a_mark)), (o, Sum.inr (5, [Value.long y15, Value.long y16, Value.long y17, Value.long y18, Value.int v19]))] H := hP
      have hD : va_D A [(p0, Sum.inr (3, [Value.int p0_v_signs, Value.int p0_v_works, Value.int p0_v_whole, Value.int p0_v_otherwise, Value.int p0_v_least, Value.int p0_v_rates, Value.ref p0_a_brings, Value.ref p0_a_costs, Value.ref p0_a_chances, Value.ref p0_a_rate, Value.ref p0_a_mark])), (p0_a_costs, Sum.inl (k_p0_a_costs, 5, Sum.inl f_p0_a_costs)), (p0_a_rate, Sum.inl (k_p0_a_rate, 3, Sum.inl f_p0_a_rate)), (p0_a_mark, Sum.inl (k_p0_a_mark, 2, Sum.inl f_p0_a_mark)), (o, Sum.inr (5, [Value.long y15, Value.long y16, Value.long y17, Value.long y18, Value.int v19]))] := hD
      refine W.widen (k := 0) (n := 0) (by decide) (by decide) ?_
      obtain ⟨x20, ex20⟩ : ∃ z : Int32, v2 + Int32.ofInt 1 = z := ⟨_, rfl⟩
      have tx20 := i32_inc ex20 rfl (by decide) (by omega) (by omega)
      refine lv_iinc (v := x20) (lv' := [(4, Value.int x20), (0, Value.ref o), (1, Value.ref p0), (2, Value.int p1), (3, Value.int p2)]) hx hb dX5_settleWatched_50 hl (k := 0) rfl ex20 (by decide) rfl (fun ls hl => ?_)
      refine lv_goto (tgt := 7) hx hb dX5_settleWatched_53 (by decide) ?_
      have bv19 := hv19.u
      have bv7 := hv7.u
      exact ih7 _ _ _ _ (ms_up hn7 tx20 (by decide) (by omega)) ⟨x20, y15, y16, y17, y18, v19, rfl, (iv.m (by omega)), hv19, hP, hD, hS, lv_sub hl [0, 1, 2, 3, 4] rfl⟩
    · have c119 := i32_eq c11 rfl rfl
      refine lv_aload_n hx hb dX5_settleWatched_23 rfl (lv_at hl 2 rfl) ?_
      refine va_get (D := (dC, dI)) (ci := 3) (v := Value.int p0_v_whole) (C := RX3) (T := TX3) (N := 11) hx hb hts iw_X5_settleWatched_X3 hown hK hP 0 rfl rfl 2 (by decide) (hts _ kk_X5_settleWatched_1) (fun _ h9 => h9) rfl dX5_settleWatched_24 ?_
      refine lv_i2l (v := (p0_v_whole).toInt64) hx hb dX5_settleWatched_27 rfl ?_
      refine lv_goto (tgt := 33) hx hb dX5_settleWatched_28 (by decide) ?_
      refine lv_aload_n hx hb dX5_settleWatched_33 rfl (lv_at hl 2 rfl) ?_
      refine va_get (D := (dC, dI)) (ci := 3) (v := Value.int p0_v_whole) (C := RX3) (T := TX3) (N := 11) hx hb hts iw_X5_settleWatched_X3 hown hK hP 0 rfl rfl 2 (by decide) (hts _ kk_X5_settleWatched_1) (fun _ h9 => h9) rfl dX5_settleWatched_34 ?_
      refine lv_i2l (v := (p0_v_whole).toInt64) hx hb dX5_settleWatched_37 rfl ?_
      refine lv_aload_n hx hb dX5_settleWatched_38 rfl (lv_at hl 2 rfl) ?_
      refine lv_iload_n hx hb dX5_settleWatched_39 rfl (lv_at hl 3 rfl) ?_
      refine lv_iload hx hb dX5_settleWatched_40 (lv_at hl 0 rfl) ?_
      have hPc := hP.sub (ws' := [(p0, Sum.inr (3, [Value.int p0_v_signs, Value.int p0_v_works, Value.int p0_v_whole, Value.int p0_v_otherwise, Value.int p0_v_least, Value.int p0_v_rates, Value.ref p0_a_brings, Value.ref p0_a_costs, Value.ref p0_a_chances, Value.ref p0_a_rate, Value.ref p0_a_mark])), (p0_a_costs, Sum.inl (k_p0_a_costs, 5, Sum.inl f_p0_a_costs)), (p0_a_rate, Sum.inl (k_p0_a_rate, 3, Sum.inl f_p0_a_rate)), (p0_a_mark, Sum.inl (k_p0_a_mark, 2, Sum.inl f_p0_a_mark))]) [0, 1, 2, 3] rfl
      have hDc := hD.sub (ws' := [(p0, Sum.inr (3, [Value.int p0_v_signs, Value.int p0_v_works, Value.int p0_v_whole, Value.int p0_v_otherwise, Value.int p0_v_least, Value.int p0_v_rates, Value.ref p0_a_brings, Value.ref p0_a_costs, Value.ref p0_a_chances, Value.ref p0_a_rate, Value.ref p0_a_mark])), (p0_a_costs, Sum.inl (k_p0_a_costs, 5, Sum.inl f_p0_a_costs)), (p0_a_rate, Sum.inl (k_p0_a_rate, 3, Sum.inl f_p0_a_rate)), (p0_a_mark, Sum.inl (k_p0_a_mark, 2, Sum.inl f_p0_a_mark))]) [0, 1, 2, 3] (by decide) rfl
      have hKc := hK.sub (tys' := [(k_p0_a_costs, FieldType.int), (k_p0_a_rate, FieldType.int), (k_p0_a_mark, FieldType.int)]) [0, 1, 2] rfl
      have hFc := va_free (wc := [(p0, Sum.inr (3, [Value.int p0_v_signs, Value.int p0_v_works, Value.int p0_v_whole, Value.int p0_v_otherwise, Value.int p0_v_least, Value.int p0_v_rates, Value.ref p0_a_brings, Value.ref p0_a_costs, Value.ref p0_a_chances, Value.ref p0_a_rate, Value.ref p0_a_mark])), (p0_a_costs, Sum.inl (k_p0_a_costs, 5, Sum.inl f_p0_a_costs)), (p0_a_rate, Sum.inl (k_p0_a_rate, 3, Sum.inl f_p0_a_rate)), (p0_a_mark, Sum.inl (k_p0_a_mark, 2, Sum.inl f_p0_a_mark))]) hD hS hA [0, 1, 2, 3] rfl
      refine va_calli (va_runV (As := [Value.int p1, Value.int v2]) (rest := [Value.long ((p0_v_whole).toInt64), Value.long ((p0_v_whole).toInt64), Value.ref o]) ⟨hx, hb, hml, hown, hts⟩ (ct_X3_lackOf l dC dI p0 p1 v2 p0_v_signs p0_v_works p0_v_whole p0_v_otherwise p0_v_least p0_v_rates p0_a_brings p0_a_costs p0_a_chances p0_a_rate p0_a_mark k_p0_a_costs f_p0_a_costs k_p0_a_rate f_p0_a_rate k_p0_a_mark f_p0_a_mark hp1 (iv.m (by omega)) hp0_v_rates hf_p0_a_costs hf_p0_a_rate hf_p0_a_mark H.size) (cwV 2 hts gX5_settleWatched_X3_lackOf rfl rfl rfl ⟨rfl, cn_X3.1, cn_X3.2, ds_9⟩ ⟨Nat.le_of_ble_eq_true rfl, Nat.le_of_ble_eq_true rfl⟩) ⟨fun a U g mk q => by obtain ⟨q0, q1, qP, qK, qD⟩ := q; exact ⟨q0, q1, qP, va_K.moved (u := U) (U := U.calling g mk a) (Vm.Alike.refl U.vm) qK, qD⟩, va_recv hKc hPc (ci := 3) (q0 := 0) rfl rfl, fun U hU hW => ⟨rfl, by rw [hU], by rw [hU]; exact hPc, va_K.moved hW.alike hKc, hDc.weaken (fun _ _ _ _ => trivial)⟩⟩ rfl rfl hl.1 rfl (lv_room (Nat.le_of_ble_eq_true rfl)) dX5_settleWatched_42 ⟨Nat.le_of_ble_eq_true rfl, Nat.le_of_ble_eq_true rfl⟩) hS (fun q _ h => hFc q h) hFc (fun r21 u t H1 locs ht hvm hw hB hz1 hk1 hS => ?_)
      have hw : r21 = u := hw.symm
      subst hw
      obtain ⟨hP1, hD1⟩ := hB
      rw [ht] at hP1
      obtain ⟨hP, hD⟩ := va_join (wr := [(o, Sum.inr (5, [Value.long v3, Value.long v4, Value.long v5, Value.long v6, Value.int v7]))]) (w1 := [(p0, Sum.inr (3, [Value.int p0_v_signs, Value.int p0_v_works, Value.int p0_v_whole, Value.int p0_v_otherwise, Value.int p0_v_least, Value.int p0_v_rates, Value.ref p0_a_brings, Value.ref p0_a_costs, Value.ref p0_a_chances, Value.ref p0_a_rate, Value.ref p0_a_mark])), (p0_a_costs, Sum.inl (k_p0_a_costs, 5, Sum.inl f_p0_a_costs)), (p0_a_rate, Sum.inl (k_p0_a_rate, 3, Sum.inl f_p0_a_rate)), (p0_a_mark, Sum.inl (k_p0_a_mark, 2, Sum.inl f_p0_a_mark))]) hP hD [0, 1, 2, 3] [4] rfl rfl (by decide) (by decide) hk1 hFc hP1 hD1
      clear hPc hDc hKc hFc hP1 hD1 hk1 hz1
      generalize H1 = H at hP hS ⊢
      have hP : va_P (dC, dI) vwCl [(o, Sum.inr (5, [Value.long v3, Value.long v4, Value.long v5, Value.long v6, Value.int v7])), (p0, Sum.inr (3, [Value.int p0_v_signs, Value.int p0_v_works, Value.int p0_v_whole, Value.int p0_v_otherwise, Value.int p0_v_least, Value.int p0_v_rates, Value.ref p0_a_brings, Value.ref p0_a_costs, Value.ref p0_a_chances, Value.ref p0_a_rate, Value.ref p0_a_mark])), (p0_a_costs, Sum.inl (k_p0_a_costs, 5, Sum.inl f_p0_a_costs)), (p0_a_rate, Sum.inl (k_p0_a_rate, 3, Sum.inl f_p0_a_rate)), (p0_a_mark, Sum.inl (k_p0_a_mark, 2, Sum.inl f_p0_a_mark))] H := hP
      have hD : va_D A [(o, Sum.inr (5, [Value.long v3, Value.long v4, Value.long v5, Value.long v6, Value.int v7])), (p0, Sum.inr (3, [Value.int p0_v_signs, Value.int p0_v_works, Value.int p0_v_whole, Value.int p0_v_otherwise, Value.int p0_v_least, Value.int p0_v_rates, Value.ref p0_a_brings, Value.ref p0_a_costs, Value.ref p0_a_chances, Value.ref p0_a_rate, Value.ref p0_a_mark])), (p0_a_costs, Sum.inl (k_p0_a_costs, 5, Sum.inl f_p0_a_costs)), (p0_a_rate, Sum.inl (k_p0_a_rate, 3, Sum.inl f_p0_a_rate)), (p0_a_mark, Sum.inl (k_p0_a_mark, 2, Sum.inl f_p0_a_mark))] := hD
      refine W.widen (k := 0) (n := 0) (by decide) (by decide) ?_
      refine lv_i2l (v := (r21).toInt64) hx hb dX5_settleWatched_45 rfl ?_
      refine lv_lmul hx hb dX5_settleWatched_46 ?_
      refine lv_topl (fun y22 ey22 => ?_)
      have hy22 : jv y22 (-21474836480) 21474836480 := jv.mula (B := 10) (D := 2147483648) ey22 (jv.i (show iv p0_v_whole 2 10 from hp0_v_whole)) (jv.i (show iv r21 (-2147483648) 2147483647 from i32_rng r21)) (by decide) (by decide) (by decide) (by decide) (by decide) (by decide)
      have hPc := hP.sub (ws' := [(o, Sum.inr (5, [Value.long v3, Value.long v4, Value.long v5, Value.long v6, Value.int v7]))]) [0] rfl
      have hDc := hD.sub (ws' := [(o, Sum.inr (5, [Value.long v3, Value.long v4, Value.long v5, Value.long v6, Value.int v7]))]) [0] (by decide) rfl
      have hKc := hK.sub (tys' := []) [] rfl
      have hFc := va_free (wc := [(o, Sum.inr (5, [Value.long v3, Value.long v4, Value.long v5, Value.long v6, Value.int v7]))]) hD hS hA [0] rfl
      refine va_callv (va_runV (As := [Value.long ((p0_v_whole).toInt64), Value.long y22]) (rest := []) ⟨hx, hb, hml, hown, hts⟩ (ct_X5_need l dC dI o ((p0_v_whole).toInt64) y22 v3 v4 v5 v6 v7 hv7 H.size) (cwV 2 hts gX5_settleWatched_X5_need rfl rfl rfl ⟨rfl, cn_X5.1, cn_X5.2, ds_13⟩ ⟨Nat.le_of_ble_eq_true rfl, Nat.le_of_ble_eq_true rfl⟩) ⟨fun a U g mk q => by obtain ⟨q0, q1, qP, qK, qD⟩ := q; exact ⟨q0, q1, qP, va_K.moved (u := U) (U := U.calling g mk a) (Vm.Alike.refl U.vm) qK, qD⟩, va_recv hKc hPc (ci := 5) (q0 := 0) rfl rfl, fun U hU hW => ⟨rfl, by rw [hU], by rw [hU]; exact hPc, va_K.moved hW.alike hKc, hDc.weaken (fun _ _ _ _ => trivial)⟩⟩ rfl rfl hl.1 rfl (lv_room (Nat.le_of_ble_eq_true rfl)) dX5_settleWatched_47 ⟨Nat.le_of_ble_eq_true rfl, Nat.le_of_ble_eq_true rfl⟩) hS (fun q _ h => hFc q h) hFc (fun u t H1 locs ht hvm hw hB hz1 hk1 hS => ?_)
      obtain ⟨y24, y25, y26, y27, v28, hv28, hP1, hD1⟩ := hB
      rw [ht] at hP1
      obtain ⟨hP, hD⟩ := va_join (wr := [(p0, Sum.inr (3, [Value.int p0_v_signs, Value.int p0_v_works, Value.int p0_v_whole, Value.int p0_v_otherwise, Value.int p0_v_least, Value.int p0_v_rates, Value.ref p0_a_brings, Value.ref p0_a_costs, Value.ref p0_a_chances, Value.ref p0_a_rate, Value.ref p0_a_mark])), (p0_a_costs, Sum.inl (k_p0_a_costs, 5, Sum.inl f_p0_a_costs)), (p0_a_rate, Sum.inl (k_p0_a_rate, 3, Sum.inl f_p0_a_rate)), (p0_a_mark, Sum.inl (k_p0_a_mark, 2, Sum.inl f_p0_a_mark))]) (w1 := [(o, Sum.inr (5, [Value.long y24, Value.long y25, Value.long y26, Value.long y27, Value.int v28]))]) hP hD [0] [1, 2, 3, 4] rfl rfl (by decide) (by decide) hk1 hFc hP1 hD1
      clear hPc hDc hKc hFc hP1 hD1 hk1 hz1
      generalize H1 = H at hP hS ⊢
      have hP : va_P (dC, dI) vwCl [(p0, Sum.inr (3, [Value.int p0_v_signs, Value.int p0_v_works, Value.int p0_v_whole, Value.int p0_v_otherwise, Value.int p0_v_least, Value.int p0_v_rates, Value.ref p0_a_brings, Value.ref p0_a_costs, Value.ref p0_a_chances, Value.ref p0_a_rate, Value.ref p0_a_mark])), (p0_a_costs, Sum.inl (k_p0_a_costs, 5, Sum.inl f_p0_a_costs)), (p0_a_rate, Sum.inl (k_p0_a_rate, 3, Sum.inl f_p0_a_rate)), (p0_a_mark, Sum.inl (k_p0_a_mark, 2, Sum.inl f_p0_a_mark)), (o, Sum.inr (5, [Value.long y24, Value.long y25, Value.long y26, Value.long y27, Value.int v28]))] H := hP
      have hD : va_D A [(p0, Sum.inr (3, [Value.int p0_v_signs, Value.int p0_v_works, Value.int p0_v_whole, Value.int p0_v_otherwise, Value.int p0_v_least, Value.int p0_v_rates, Value.ref p0_a_brings, Value.ref p0_a_costs, Value.ref p0_a_chances, Value.ref p0_a_rate, Value.ref p0_a_mark])), (p0_a_costs, Sum.inl (k_p0_a_costs, 5, Sum.inl f_p0_a_costs)), (p0_a_rate, Sum.inl (k_p0_a_rate, 3, Sum.inl f_p0_a_rate)), (p0_a_mark, Sum.inl (k_p0_a_mark, 2, Sum.inl f_p0_a_mark)), (o, Sum.inr (5, [Value.long y24, Value.long y25, Value.long y26, Value.long y27, Value.int v28]))] := hD
      refine W.widen (k := 0) (n := 0) (by decide) (by decide) ?_
      obtain ⟨x29, ex29⟩ : ∃ z : Int32, v2 + Int32.ofInt 1 = z := ⟨_, rfl⟩
      have tx29 := i32_inc ex29 rfl (by decide) (by omega) (by omega)
      refine lv_iinc (v := x29) (lv' := [(4, Value.int x29), (0, Value.ref o), (1, Value.ref p0), (2, Value.int p1), (3, Value.int p2)]) hx hb dX5_settleWatched_50 hl (k := 0) rfl ex29 (by decide) rfl (fun ls hl => ?_)
      refine lv_goto (tgt := 7) hx hb dX5_settleWatched_53 (by decide) ?_
      have bv28 := hv28.u
      have bv7 := hv7.u
      exact ih7 _ _ _ _ (ms_up hn7 tx29 (by decide) (by omega)) ⟨x29, y24, y25, y26, y27, v28, rfl, (iv.m (by omega)), hv28, hP, hD, hS, lv_sub hl [0, 1, 2, 3, 4] rfl⟩

set_option maxHeartbeats 4000000 in
set_option maxRecDepth 100000 in
theorem ct_X5_meanInto (l : Launch) (dC : Nat → ClassId) (dI : Nat → Nat → Nat) (o : Nat) (p0 : Nat) (p1 : Nat) (p2 : Int32) (p3 : Int32) (v_lowUpper : Int64) (v_lowLower : Int64) (v_capUpper : Int64) (v_capLower : Int64) (v_isBroken : Int32) (p0_v_upper : Int64) (p0_v_lower : Int64) (p1_v_signs : Int32) (p1_v_works : Int32) (p1_v_whole : Int32) (p1_v_otherwise : Int32) (p1_v_least : Int32) (p1_v_rates : Int32) (p1_a_brings : Nat) (p1_a_costs : Nat) (p1_a_chances : Nat) (p1_a_rate : Nat) (p1_a_mark : Nat) (k_p1_a_rate : ClassId) (f_p1_a_rate : Nat → Int32) (k_p1_a_mark : ClassId) (f_p1_a_mark : Nat → Int32) (hp1_v_rates : iv p1_v_rates 1 3) (hf_p1_a_rate : ivf f_p1_a_rate 0 5) (hf_p1_a_mark : ivf f_p1_a_mark 0 99) (sz : Nat) : Met l yX5_meanInto wsX5_meanInto ({ frames := 3, cells := 0, slots := 0, locals := 88 }) (va_Pc [Value.ref o, Value.ref p0, Value.ref p1, Value.int p2, Value.int p3] (fun U => U.heap.size = sz ∧ va_P (dC, dI) vwCl [(o, Sum.inr (5, [Value.long v_lowUpper, Value.long v_lowLower, Value.long v_capUpper, Value.long v_capLower, Value.int v_isBroken])), (p0, Sum.inr (2, [Value.long p0_v_upper, Value.long p0_v_lower])), (p1, Sum.inr (3, [Value.int p1_v_signs, Value.int p1_v_works, Value.int p1_v_whole, Value.int p1_v_otherwise, Value.int p1_v_least, Value.int p1_v_rates, Value.ref p1_a_brings, Value.ref p1_a_costs, Value.ref p1_a_chances, Value.ref p1_a_rate, Value.ref p1_a_mark])), (p1_a_rate, Sum.inl (k_p1_a_rate, 3, Sum.inl f_p1_a_rate)), (p1_a_mark, Sum.inl (k_p1_a_mark, 2, Sum.inl f_p1_a_mark))] U.heap ∧ va_K (dC, dI) vwCl [(k_p1_a_rate, FieldType.int), (k_p1_a_mark, FieldType.int)] U ∧ va_D (fun _ => True) [(o, Sum.inr (5, [Value.long v_lowUpper, Value.long v_lowLower, Value.long v_capUpper, Value.long v_capLower, Value.int v_isBroken])), (p0, Sum.inr (2, [Value.long p0_v_upper, Value.long p0_v_lower])), (p1, Sum.inr (3, [Value.int p1_v_signs, Value.int p1_v_works, Value.int p1_v_whole, Value.int p1_v_otherwise, Value.int p1_v_least, Value.int p1_v_rates, Value.ref p1_a_brings, Value.ref p1_a_costs, Value.ref p1_a_chances, Value.ref p1_a_rate, Value.ref p1_a_mark])), (p1_a_rate, Sum.inl (k_p1_a_rate, 3, Sum.inl f_p1_a_rate)), (p1_a_mark, Sum.inl (k_p1_a_mark, 2, Sum.inl f_p1_a_mark))])) (va_Qv (fun _ : Unit => True) (fun _ t => ∃ (e_p0_v_upper : Int64) (e_p0_v_lower : Int64), va_P (dC, dI) vwCl [(o, Sum.inr (5, [Value.long v_lowUpper, Value.long v_lowLower, Value.long v_capUpper, Value.long v_capLower, Value.int v_isBroken])), (p0, Sum.inr (2, [Value.long e_p0_v_upper, Value.long e_p0_v_lower])), (p1, Sum.inr (3, [Value.int p1_v_signs, Value.int p1_v_works, Value.int p1_v_whole, Value.int p1_v_otherwise, Value.int p1_v_least, Value.int p1_v_rates, Value.ref p1_a_brings, Value.ref p1_a_costs, Value.ref p1_a_chances, Value.ref p1_a_rate, Value.ref p1_a_mark])), (p1_a_rate, Sum.inl (k_p1_a_rate, 3, Sum.inl f_p1_a_rate)), (p1_a_mark, Sum.inl (k_p1_a_mark, 2, Sum.inl f_p1_a_mark))] t.heap ∧ va_D (va_A [(o, Sum.inr (5, [Value.long v_lowUpper, Value.long v_lowLower, Value.long v_capUpper, Value.long v_capLower, Value.int v_isBroken])), (p0, Sum.inr (2, [Value.long p0_v_upper, Value.long p0_v_lower])), (p1, Sum.inr (3, [Value.int p1_v_signs, Value.int p1_v_works, Value.int p1_v_whole, Value.int p1_v_otherwise, Value.int p1_v_least, Value.int p1_v_rates, Value.ref p1_a_brings, Value.ref p1_a_costs, Value.ref p1_a_chances, Value.ref p1_a_rate, Value.ref p1_a_mark])), (p1_a_rate, Sum.inl (k_p1_a_rate, 3, Sum.inl f_p1_a_rate)), (p1_a_mark, Sum.inl (k_p1_a_mark, 2, Sum.inl f_p1_a_mark))] sz) [(o, Sum.inr (5, [Value.long v_lowUpper, Value.long v_lowLower, Value.long v_capUpper, Value.long v_capLower, Value.int v_isBroken])), (p0, Sum.inr (2, [Value.long e_p0_v_upper, Value.long e_p0_v_lower])), (p1, Sum.inr (3, [Value.int p1_v_signs, Value.int p1_v_works, Value.int p1_v_whole, Value.int p1_v_otherwise, Value.int p1_v_least, Value.int p1_v_rates, Value.ref p1_a_brings, Value.ref p1_a_costs, Value.ref p1_a_chances, Value.ref p1_a_rate, Value.ref p1_a_mark])), (p1_a_rate, Sum.inl (k_p1_a_rate, 3, Sum.inl f_p1_a_rate)), (p1_a_mark, Sum.inl (k_p1_a_mark, 2, Sum.inl f_p1_a_mark))]) (va_A [(o, Sum.inr (5, [Value.long v_lowUpper, Value.long v_lowLower, Value.long v_capUpper, Value.long v_capLower, Value.int v_isBroken])), (p0, Sum.inr (2, [Value.long p0_v_upper, Value.long p0_v_lower])), (p1, Sum.inr (3, [Value.int p1_v_signs, Value.int p1_v_works, Value.int p1_v_whole, Value.int p1_v_otherwise, Value.int p1_v_least, Value.int p1_v_rates, Value.ref p1_a_brings, Value.ref p1_a_costs, Value.ref p1_a_chances, Value.ref p1_a_rate, Value.ref p1_a_mark])), (p1_a_rate, Sum.inl (k_p1_a_rate, 3, Sum.inl f_p1_a_rate)), (p1_a_mark, Sum.inl (k_p1_a_mark, 2, Sum.inl f_p1_a_mark))] sz)) 0 0 (va_A [(o, Sum.inr (5, [Value.long v_lowUpper, Value.long v_lowLower, Value.long v_capUpper, Value.long v_capLower, Value.int v_isBroken])), (p0, Sum.inr (2, [Value.long p0_v_upper, Value.long p0_v_lower])), (p1, Sum.inr (3, [Value.int p1_v_signs, Value.int p1_v_works, Value.int p1_v_whole, Value.int p1_v_otherwise, Value.int p1_v_least, Value.int p1_v_rates, Value.ref p1_a_brings, Value.ref p1_a_costs, Value.ref p1_a_chances, Value.ref p1_a_rate, Value.ref p1_a_mark])), (p1_a_rate, Sum.inl (k_p1_a_rate, 3, Sum.inl f_p1_a_rate)), (p1_a_mark, Sum.inl (k_p1_a_mark, 2, Sum.inl f_p1_a_mark))] sz) := by
  refine Met.ofW (cc := cX5_meanInto) (maxL := 9) (ret := none) pn_X5 rfl ?_
  intro p e s m args below meth c s₁ B hml hv
  obtain ⟨rfl, hsz, hP, hK, hD0⟩ := hv
  have hx := B.exec
  have hb := B.bytes
  have hr := B.returns
  have hts := atoms_spec (ws := wsX5_meanInto) B.pre
  have hown : s.vm.findClass RX5 = some m.cls := findClass_of_methodNamed B.named
  have hlocks := B.notSynchronized
  subst hsz
  have hD := hD0.self (sz := s.heap.size)
  generalize hAe : va_A [(o, Sum.inr (5, [Value.long v_lowUpper, Value.long v_lowLower, Value.long v_capUpper, Value.long v_capLower, Value.int v_isBroken])), (p0, Sum.inr (2, [Value.long p0_v_upper, Value.long p0_v_lower])), (p1, Sum.inr (3, [Value.int p1_v_signs, Value.int p1_v_works, Value.int p1_v_whole, Value.int p1_v_otherwise, Value.int p1_v_least, Value.int p1_v_rates, Value.ref p1_a_brings, Value.ref p1_a_costs, Value.ref p1_a_chances, Value.ref p1_a_rate, Value.ref p1_a_mark])), (p1_a_rate, Sum.inl (k_p1_a_rate, 3, Sum.inl f_p1_a_rate)), (p1_a_mark, Sum.inl (k_p1_a_mark, 2, Sum.inl f_p1_a_mark))] s.heap.size = A at hD ⊢
  have hA : ∀ q : Nat, s.heap.size ≤ q → A q := fun q h => by rw [← hAe]; exact Or.inr h
  have hS : va_S A s.heap s.heap [] := va_S.rf
  have hP : va_P (dC, dI) vwCl [(o, Sum.inr (5, [Value.long v_lowUpper, Value.long v_lowLower, Value.long v_capUpper, Value.long v_capLower, Value.int v_isBroken])), (p0, Sum.inr (2, [Value.long p0_v_upper, Value.long p0_v_lower])), (p1, Sum.inr (3, [Value.int p1_v_signs, Value.int p1_v_works, Value.int p1_v_whole, Value.int p1_v_otherwise, Value.int p1_v_least, Value.int p1_v_rates, Value.ref p1_a_brings, Value.ref p1_a_costs, Value.ref p1_a_chances, Value.ref p1_a_rate, Value.ref p1_a_mark])), (p1_a_rate, Sum.inl (k_p1_a_rate, 3, Sum.inl f_p1_a_rate)), (p1_a_mark, Sum.inl (k_p1_a_mark, 2, Sum.inl f_p1_a_mark))] s.heap := hP
  have hl := lv_entry ([Value.ref o, Value.ref p0, Value.ref p1, Value.int p2, Value.int p3]) (n := 9) (Nat.le_of_ble_eq_true rfl)
  rw [lg_entry_eq]
  generalize (lg_sl ([Value.ref o, Value.ref p0, Value.ref p1, Value.int p2, Value.int p3]) ++ List.replicate (9 - (lg_sl ([Value.ref o, Value.ref p0, Value.ref p1, Value.int p2, Value.int p3])).length) Slot.unset).toArray = ls at hl ⊢
  have hl : lv_has ls 9 [(0, Value.ref o), (1, Value.ref p0), (2, Value.ref p1), (3, Value.int p2), (4, Value.int p3)] := hl
  refine lv_aload_n hx hb dX5_meanInto_0 rfl (lv_at hl 2 rfl) ?_
  refine lv_aload_n hx hb dX5_meanInto_1 rfl (lv_at hl 2 rfl) ?_
  refine va_get (D := (dC, dI)) (ci := 3) (v := Value.int p1_v_least) (C := RX3) (T := TX3) (N := 11) hx hb hts iw_X5_meanInto_X3 hown hK hP 2 rfl rfl 4 (by decide) (hts _ kk_X5_meanInto_0) (fun _ h9 => h9) rfl dX5_meanInto_2 ?_
  have hPc := hP.sub (ws' := [(p1, Sum.inr (3, [Value.int p1_v_signs, Value.int p1_v_works, Value.int p1_v_whole, Value.int p1_v_otherwise, Value.int p1_v_least, Value.int p1_v_rates, Value.ref p1_a_brings, Value.ref p1_a_costs, Value.ref p1_a_chances, Value.ref p1_a_rate, Value.ref p1_a_mark])), (p1_a_rate, Sum.inl (k_p1_a_rate, 3, Sum.inl f_p1_a_rate)), (p1_a_mark, Sum.inl (k_p1_a_mark, 2, Sum.inl f_p1_a_mark))]) [2, 3, 4] rfl
  have hDc := hD.sub (ws' := [(p1, Sum.inr (3, [Value.int p1_v_signs, Value.int p1_v_works, Value.int p1_v_whole, Value.int p1_v_otherwise, Value.int p1_v_least, Value.int p1_v_rates, Value.ref p1_a_brings, Value.ref p1_a_costs, Value.ref p1_a_chances, Value.ref p1_a_rate, Value.ref p1_a_mark])), (p1_a_rate, Sum.inl (k_p1_a_rate, 3, Sum.inl f_p1_a_rate)), (p1_a_mark, Sum.inl (k_p1_a_mark, 2, Sum.inl f_p1_a_mark))]) [2, 3, 4] (by decide) rfl
  have hKc := hK.sub (tys' := [(k_p1_a_rate, FieldType.int), (k_p1_a_mark, FieldType.int)]) [0, 1] rfl
  have hFc := va_free (wc := [(p1, Sum.inr (3, [Value.int p1_v_signs, Value.int p1_v_works, Value.int p1_v_whole, Value.int p1_v_otherwise, Value.int p1_v_least, Value.int p1_v_rates, Value.ref p1_a_brings, Value.ref p1_a_costs, Value.ref p1_a_chances, Value.ref p1_a_rate, Value.ref p1_a_mark])), (p1_a_rate, Sum.inl (k_p1_a_rate, 3, Sum.inl f_p1_a_rate)), (p1_a_mark, Sum.inl (k_p1_a_mark, 2, Sum.inl f_p1_a_mark))]) hD hS hA [2, 3, 4] rfl
  refine va_calli (va_runV (As := [Value.int p1_v_least]) (rest := []) ⟨hx, hb, hml, hown, hts⟩ (ct_X3_feltOf l dC dI p1 p1_v_least p1_v_signs p1_v_works p1_v_whole p1_v_otherwise p1_v_least p1_v_rates p1_a_brings p1_a_costs p1_a_chances p1_a_rate p1_a_mark k_p1_a_rate f_p1_a_rate k_p1_a_mark f_p1_a_mark hp1_v_rates hf_p1_a_rate hf_p1_a_mark s.heap.size) (cwV 1 hts gX5_meanInto_X3_feltOf rfl rfl rfl ⟨rfl, cn_X3.1, cn_X3.2, ds_5⟩ ⟨Nat.le_of_ble_eq_true rfl, Nat.le_of_ble_eq_true rfl⟩) ⟨fun a U g mk q => by obtain ⟨q0, q1, qP, qK, qD⟩ := q; exact ⟨q0, q1, qP, va_K.moved (u := U) (U := U.calling g mk a) (Vm.Alike.refl U.vm) qK, qD⟩, va_recv hKc hPc (ci := 3) (q0 := 0) rfl rfl, fun U hU hW => ⟨rfl, by rw [hU], by rw [hU]; exact hPc, va_K.moved hW.alike hKc, hDc.weaken (fun _ _ _ _ => trivial)⟩⟩ rfl rfl hl.1 rfl (lv_room (Nat.le_of_ble_eq_true rfl)) dX5_meanInto_5 ⟨Nat.le_of_ble_eq_true rfl, Nat.le_of_ble_eq_true rfl⟩) hS (fun q _ h => hFc q h) hFc (fun r1 u t H1 locs ht hvm hw hB hz1 hk1 hS => ?_)
  have hw : r1 = u := hw.symm
  subst hw
  obtain ⟨w2, hP1, hD1⟩ := hB
  rw [ht] at hP1
  obtain ⟨hP, hD⟩ := va_join (wr := [(o, Sum.inr (5, [Value.long v_lowUpper, Value.long v_lowLower, Value.long v_capUpper, Value.long v_capLower, Value.int v_isBroken])), (p0, Sum.inr (2, [Value.long p0_v_upper, Value.long p0_v_lower]))]) (w1 := [(p1, Sum.inr (3, [Value.int p1_v_signs, Value.int p1_v_works, Value.int p1_v_whole, Value.int p1_v_otherwise, Value.int p1_v_least, Value.int p1_v_rates, Value.ref p1_a_brings, Value.ref p1_a_costs, Value.ref p1_a_chances, Value.ref p1_a_rate, Value.ref p1_a_mark])), (p1_a_rate, Sum.inl (k_p1_a_rate, 3, Sum.inl f_p1_a_rate)), (p1_a_mark, Sum.inl (k_p1_a_mark, 2, Sum.inl f_p1_a_mark))]) hP hD [2, 3, 4] [0, 1] rfl rfl (by decide) (by decide) hk1 hFc hP1 hD1
  clear hPc hDc hKc hFc hP1 hD1 hk1 hz1
  generalize H1 = H at hP hS ⊢
  have hP : va_P (dC, dI) vwCl [(o, Sum.inr (5, [Value.long v_lowUpper, Value.long v_lowLower, Value.long v_capUpper, Value.long v_capLower, Value.int v_isBroken])), (p0, Sum.inr (2, [Value.long p0_v_upper, Value.long p0_v_lower])), (p1, Sum.inr (3, [Value.int p1_v_signs, Value.int p1_v_works, Value.int p1_v_whole, Value.int p1_v_otherwise, Value.int p1_v_least, Value.int p1_v_rates, Value.ref p1_a_brings, Value.ref p1_a_costs, Value.ref p1_a_chances, Value.ref p1_a_rate, Value.ref p1_a_mark])), (p1_a_rate, Sum.inl (k_p1_a_rate, 3, Sum.inl f_p1_a_rate)), (p1_a_mark, Sum.inl (k_p1_a_mark, 2, Sum.inl f_p1_a_mark))] H := hP
  have hD : va_D A [(o, Sum.inr (5, [Value.long v_lowUpper, Value.long v_lowLower, Value.long v_capUpper, Value.long v_capLower, Value.int v_isBroken])), (p0, Sum.inr (2, [Value.long p0_v_upper, Value.long p0_v_lower])), (p1, Sum.inr (3, [Value.int p1_v_signs, Value.int p1_v_works, Value.int p1_v_whole, Value.int p1_v_otherwise, Value.int p1_v_least, Value.int p1_v_rates, Value.ref p1_a_brings, Value.ref p1_a_costs, Value.ref p1_a_chances, Value.ref p1_a_rate, Value.ref p1_a_mark])), (p1_a_rate, Sum.inl (k_p1_a_rate, 3, Sum.inl f_p1_a_rate)), (p1_a_mark, Sum.inl (k_p1_a_mark, 2, Sum.inl f_p1_a_mark))] := hD
  refine W.widen (k := 0) (n := 0) (by decide) (by decide) ?_
  have br1 := i32_rng r1
  refine lv_i2l (v := (r1).toInt64) hx hb dX5_meanInto_8 rfl ?_
  refine lv_lstore (lv' := [(5, Value.long ((r1).toInt64)), (0, Value.ref o), (1, Value.ref p0), (2, Value.ref p1), (3, Value.int p2), (4, Value.int p3)]) hx hb dX5_meanInto_9 hl (by decide) rfl (fun ls hl => ?_)
  refine lv_aload_n hx hb dX5_meanInto_11 rfl (lv_at hl 3 rfl) ?_
  refine lv_lload hx hb dX5_meanInto_12 (lv_at hl 0 rfl) ?_
  refine lv_aload_n hx hb dX5_meanInto_14 rfl (lv_at hl 1 rfl) ?_
  refine va_get (D := (dC, dI)) (ci := 5) (v := Value.long v_lowLower) (C := RX5) (T := TX5) (N := 5) hx hb hts iw_X5_meanInto_X5 hown hK hP 0 rfl rfl 1 (by decide) (hts _ kk_X5_meanInto_1) (fun _ h9 => h9) rfl dX5_meanInto_15 ?_
  refine lv_lmul hx hb dX5_meanInto_18 ?_
  refine lv_topl (fun y3 ey3 => ?_)
  refine lv_aload_n hx hb dX5_meanInto_19 rfl (lv_at hl 1 rfl) ?_
  refine va_get (D := (dC, dI)) (ci := 5) (v := Value.long v_lowUpper) (C := RX5) (T := TX5) (N := 5) hx hb hts iw_X5_meanInto_X5 hown hK hP 0 rfl rfl 0 (by decide) (hts _ kk_X5_meanInto_2) (fun _ h9 => h9) rfl dX5_meanInto_20 ?_
  refine lv_ladd hx hb dX5_meanInto_23 ?_
  refine lv_topl (fun y4 ey4 => ?_)
  refine lv_aload_n hx hb dX5_meanInto_24 rfl (lv_at hl 1 rfl) ?_
  refine va_get (D := (dC, dI)) (ci := 5) (v := Value.long v_lowLower) (C := RX5) (T := TX5) (N := 5) hx hb hts iw_X5_meanInto_X5 hown hK hP 0 rfl rfl 1 (by decide) (hts _ kk_X5_meanInto_1) (fun _ h9 => h9) rfl dX5_meanInto_25 ?_
  refine lv_aload_n hx hb dX5_meanInto_28 rfl (lv_at hl 2 rfl) ?_
  have hPc := hP.sub (ws' := [(p1, Sum.inr (3, [Value.int p1_v_signs, Value.int p1_v_works, Value.int p1_v_whole, Value.int p1_v_otherwise, Value.int p1_v_least, Value.int p1_v_rates, Value.ref p1_a_brings, Value.ref p1_a_costs, Value.ref p1_a_chances, Value.ref p1_a_rate, Value.ref p1_a_mark])), (p1_a_rate, Sum.inl (k_p1_a_rate, 3, Sum.inl f_p1_a_rate)), (p1_a_mark, Sum.inl (k_p1_a_mark, 2, Sum.inl f_p1_a_mark)), (p0, Sum.inr (2, [Value.long p0_v_upper, Value.long p0_v_lower]))]) [2, 3, 4, 1] rfl
  have hDc := hD.sub (ws' := [(p1, Sum.inr (3, [Value.int p1_v_signs, Value.int p1_v_works, Value.int p1_v_whole, Value.int p1_v_otherwise, Value.int p1_v_least, Value.int p1_v_rates, Value.ref p1_a_brings, Value.ref p1_a_costs, Value.ref p1_a_chances, Value.ref p1_a_rate, Value.ref p1_a_mark])), (p1_a_rate, Sum.inl (k_p1_a_rate, 3, Sum.inl f_p1_a_rate)), (p1_a_mark, Sum.inl (k_p1_a_mark, 2, Sum.inl f_p1_a_mark)), (p0, Sum.inr (2, [Value.long p0_v_upper, Value.long p0_v_lower]))]) [2, 3, 4, 1] (by decide) rfl
  have hKc := hK.sub (tys' := [(k_p1_a_rate, FieldType.int), (k_p1_a_mark, FieldType.int)]) [0, 1] rfl
  have hFc := va_free (wc := [(p1, Sum.inr (3, [Value.int p1_v_signs, Value.int p1_v_works, Value.int p1_v_whole, Value.int p1_v_otherwise, Value.int p1_v_least, Value.int p1_v_rates, Value.ref p1_a_brings, Value.ref p1_a_costs, Value.ref p1_a_chances, Value.ref p1_a_rate, Value.ref p1_a_mark])), (p1_a_rate, Sum.inl (k_p1_a_rate, 3, Sum.inl f_p1_a_rate)), (p1_a_mark, Sum.inl (k_p1_a_mark, 2, Sum.inl f_p1_a_mark)), (p0, Sum.inr (2, [Value.long p0_v_upper, Value.long p0_v_lower]))]) hD hS hA [2, 3, 4, 1] rfl
  refine va_callv (va_runV (As := [Value.long y4, Value.long v_lowLower, Value.ref p0]) (rest := []) ⟨hx, hb, hml, hown, hts⟩ (ct_X3_wageOf l dC dI p1 y4 v_lowLower p0 p1_v_signs p1_v_works p1_v_whole p1_v_otherwise p1_v_least p1_v_rates p1_a_brings p1_a_costs p1_a_chances p1_a_rate p1_a_mark k_p1_a_rate f_p1_a_rate k_p1_a_mark f_p1_a_mark p0_v_upper p0_v_lower hp1_v_rates hf_p1_a_rate hf_p1_a_mark H.size) (cwV 3 hts gX5_meanInto_X3_wageOf rfl rfl rfl ⟨rfl, cn_X3.1, cn_X3.2, ds_16⟩ ⟨Nat.le_of_ble_eq_true rfl, Nat.le_of_ble_eq_true rfl⟩) ⟨fun a U g mk q => by obtain ⟨q0, q1, qP, qK, qD⟩ := q; exact ⟨q0, q1, qP, va_K.moved (u := U) (U := U.calling g mk a) (Vm.Alike.refl U.vm) qK, qD⟩, va_recv hKc hPc (ci := 3) (q0 := 0) rfl rfl, fun U hU hW => ⟨rfl, by rw [hU], by rw [hU]; exact hPc, va_K.moved hW.alike hKc, hDc.weaken (fun _ _ _ _ => trivial)⟩⟩ rfl rfl hl.1 rfl (lv_room (Nat.le_of_ble_eq_true rfl)) dX5_meanInto_29 ⟨Nat.le_of_ble_eq_true rfl, Nat.le_of_ble_eq_true rfl⟩) hS (fun q _ h => hFc q h) hFc (fun u t H1 locs ht hvm hw hB hz1 hk1 hS => ?_)
  obtain ⟨y6, y7, hP1, hD1⟩ := hB
  rw [ht] at hP1
  obtain ⟨hP, hD⟩ := va_join (wr := [(o, Sum.inr (5, [Value.long v_lowUpper, Value.long v_lowLower, Value.long v_capUpper, Value.long v_capLower, Value.int v_isBroken]))]) (w1 := [(p1, Sum.inr (3, [Value.int p1_v_signs, Value.int p1_v_works, Value.int p1_v_whole, Value.int p1_v_otherwise, Value.int p1_v_least, Value.int p1_v_rates, Value.ref p1_a_brings, Value.ref p1_a_costs, Value.ref p1_a_chances, Value.ref p1_a_rate, Value.ref p1_a_mark])), (p1_a_rate, Sum.inl (k_p1_a_rate, 3, Sum.inl f_p1_a_rate)), (p1_a_mark, Sum.inl (k_p1_a_mark, 2, Sum.inl f_p1_a_mark)), (p0, Sum.inr (2, [Value.long y6, Value.long y7]))]) hP hD [2, 3, 4, 1] [0] rfl rfl (by decide) (by decide) hk1 hFc hP1 hD1
  clear hPc hDc hKc hFc hP1 hD1 hk1 hz1
  generalize H1 = H at hP hS ⊢
  have hP : va_P (dC, dI) vwCl [(o, Sum.inr (5, [Value.long v_lowUpper, Value.long v_lowLower, Value.long v_capUpper, Value.long v_capLower, Value.int v_isBroken])), (p1, Sum.inr (3, [Value.int p1_v_signs, Value.int p1_v_works, Value.int p1_v_whole, Value.int p1_v_otherwise, Value.int p1_v_least, Value.int p1_v_rates, Value.ref p1_a_brings, Value.ref p1_a_costs, Value.ref p1_a_chances, Value.ref p1_a_rate, Value.ref p1_a_mark])), (p1_a_rate, Sum.inl (k_p1_a_rate, 3, Sum.inl f_p1_a_rate)), (p1_a_mark, Sum.inl (k_p1_a_mark, 2, Sum.inl f_p1_a_mark)), (p0, Sum.inr (2, [Value.long y6, Value.long y7]))] H := hP
  have hD : va_D A [(o, Sum.inr (5, [Value.long v_lowUpper, Value.long v_lowLower, Value.long v_capUpper, Value.long v_capLower, Value.int v_isBroken])), (p1, Sum.inr (3, [Value.int p1_v_signs, Value.int p1_v_works, Value.int p1_v_whole, Value.int p1_v_otherwise, Value.int p1_v_least, Value.int p1_v_rates, Value.ref p1_a_brings, Value.ref p1_a_costs, Value.ref p1_a_chances, Value.ref p1_a_rate, Value.ref p1_a_mark])), (p1_a_rate, Sum.inl (k_p1_a_rate, 3, Sum.inl f_p1_a_rate)), (p1_a_mark, Sum.inl (k_p1_a_mark, 2, Sum.inl f_p1_a_mark)), (p0, Sum.inr (2, [Value.long y6, Value.long y7]))] := hD
  refine W.widen (k := 0) (n := 0) (by decide) (by decide) ?_
  refine lv_iload_n hx hb dX5_meanInto_32 rfl (lv_at hl 4 rfl) ?_
  refine lv_i2l (v := (p2).toInt64) hx hb dX5_meanInto_33 rfl ?_
  refine lv_aload_n hx hb dX5_meanInto_34 rfl (lv_at hl 2 rfl) ?_
  refine va_get (D := (dC, dI)) (ci := 2) (v := Value.long y6) (C := RX2) (T := TX2) (N := 2) hx hb hts iw_X5_meanInto_X2 hown hK hP 4 rfl rfl 0 (by decide) (hts _ kk_X5_meanInto_3) (fun _ h9 => h9) rfl dX5_meanInto_35 ?_
  refine lv_lmul hx hb dX5_meanInto_38 ?_
  refine lv_topl (fun y8 ey8 => ?_)
  refine lv_iload hx hb dX5_meanInto_39 (lv_at hl 5 rfl) ?_
  refine lv_iload_n hx hb dX5_meanInto_41 rfl (lv_at hl 4 rfl) ?_
  refine lv_isub hx hb dX5_meanInto_42 ?_
  refine lv_topi (fun x9 ex9 => ?_)
  refine lv_i2l (v := (x9).toInt64) hx hb dX5_meanInto_43 rfl ?_
  refine lv_aload_n hx hb dX5_meanInto_44 rfl (lv_at hl 3 rfl) ?_
  refine va_get (D := (dC, dI)) (ci := 3) (v := Value.int p1_v_least) (C := RX3) (T := TX3) (N := 11) hx hb hts iw_X5_meanInto_X3 hown hK hP 1 rfl rfl 4 (by decide) (hts _ kk_X5_meanInto_0) (fun _ h9 => h9) rfl dX5_meanInto_45 ?_
  refine lv_i2l (v := (p1_v_least).toInt64) hx hb dX5_meanInto_48 rfl ?_
  refine lv_lmul hx hb dX5_meanInto_49 ?_
  refine lv_topl (fun y10 ey10 => ?_)
  have hy10 : jv y10 (-4611686018427387904) 4611686018427387904 := jv.mula (B := 2147483648) (D := 2147483648) ey10 (jv.i (show iv x9 (-2147483648) 2147483647 from i32_rng x9)) (jv.i (show iv p1_v_least (-2147483648) 2147483647 from i32_rng p1_v_least)) (by decide) (by decide) (by decide) (by decide) (by decide) (by decide)
  refine lv_aload_n hx hb dX5_meanInto_50 rfl (lv_at hl 2 rfl) ?_
  refine va_get (D := (dC, dI)) (ci := 2) (v := Value.long y7) (C := RX2) (T := TX2) (N := 2) hx hb hts iw_X5_meanInto_X2 hown hK hP 4 rfl rfl 1 (by decide) (hts _ kk_X5_meanInto_4) (fun _ h9 => h9) rfl dX5_meanInto_51 ?_
  refine lv_lmul hx hb dX5_meanInto_54 ?_
  refine lv_topl (fun y11 ey11 => ?_)
  refine lv_ladd hx hb dX5_meanInto_55 ?_
  refine lv_topl (fun y12 ey12 => ?_)
  refine lv_lstore (lv' := [(7, Value.long y12), (5, Value.long ((r1).toInt64)), (0, Value.ref o), (1, Value.ref p0), (2, Value.ref p1), (3, Value.int p2), (4, Value.int p3)]) hx hb dX5_meanInto_56 hl (by decide) rfl (fun ls hl => ?_)
  refine lv_aload_n hx hb dX5_meanInto_58 rfl (lv_at hl 3 rfl) ?_
  refine lv_lload hx hb dX5_meanInto_59 (lv_at hl 0 rfl) ?_
  refine lv_iload hx hb dX5_meanInto_61 (lv_at hl 6 rfl) ?_
  refine lv_i2l (v := (p3).toInt64) hx hb dX5_meanInto_63 rfl ?_
  refine lv_aload_n hx hb dX5_meanInto_64 rfl (lv_at hl 3 rfl) ?_
  refine va_get (D := (dC, dI)) (ci := 2) (v := Value.long y7) (C := RX2) (T := TX2) (N := 2) hx hb hts iw_X5_meanInto_X2 hown hK hP 4 rfl rfl 1 (by decide) (hts _ kk_X5_meanInto_4) (fun _ h9 => h9) rfl dX5_meanInto_65 ?_
  refine lv_lmul hx hb dX5_meanInto_68 ?_
  refine lv_topl (fun y13 ey13 => ?_)
  have hPc := hP.sub (ws' := [(p0, Sum.inr (2, [Value.long y6, Value.long y7]))]) [4] rfl
  have hDc := hD.sub (ws' := [(p0, Sum.inr (2, [Value.long y6, Value.long y7]))]) [4] (by decide) rfl
  have hKc := hK.sub (tys' := []) [] rfl
  have hFc := va_free (wc := [(p0, Sum.inr (2, [Value.long y6, Value.long y7]))]) hD hS hA [4] rfl
  refine va_callv (va_runV (As := [Value.long y12, Value.long y13]) (rest := []) ⟨hx, hb, hml, hown, hts⟩ (ct_X2_become l dC dI p0 y12 y13 y6 y7 H.size) (cwV 2 hts gX5_meanInto_X2_become rfl rfl rfl ⟨rfl, cn_X2.1, cn_X2.2, ds_13⟩ ⟨Nat.le_of_ble_eq_true rfl, Nat.le_of_ble_eq_true rfl⟩) ⟨fun a U g mk q => by obtain ⟨q0, q1, qP, qK, qD⟩ := q; exact ⟨q0, q1, qP, va_K.moved (u := U) (U := U.calling g mk a) (Vm.Alike.refl U.vm) qK, qD⟩, va_recv hKc hPc (ci := 2) (q0 := 0) rfl rfl, fun U hU hW => ⟨rfl, by rw [hU], by rw [hU]; exact hPc, va_K.moved hW.alike hKc, hDc.weaken (fun _ _ _ _ => trivial)⟩⟩ rfl rfl hl.1 rfl (lv_room (Nat.le_of_ble_eq_true rfl)) dX5_meanInto_69 ⟨Nat.le_of_ble_eq_true rfl, Nat.le_of_ble_eq_true rfl⟩) hS (fun q _ h => hFc q h) hFc (fun u t H1 locs ht hvm hw hB hz1 hk1 hS => ?_)
  obtain ⟨y15, y16, hP1, hD1⟩ := hB
  rw [ht] at hP1
  obtain ⟨hP, hD⟩ := va_join (wr := [(o, Sum.inr (5, [Value.long v_lowUpper, Value.long v_lowLower, Value.long v_capUpper, Value.long v_capLower, Value.int v_isBroken])), (p1, Sum.inr (3, [Value.int p1_v_signs, Value.int p1_v_works, Value.int p1_v_whole, Value.int p1_v_otherwise, Value.int p1_v_least, Value.int p1_v_rates, Value.ref p1_a_brings, Value.ref p1_a_costs, Value.ref p1_a_chances, Value.ref p1_a_rate, Value.ref p1_a_mark])), (p1_a_rate, Sum.inl (k_p1_a_rate, 3, Sum.inl f_p1_a_rate)), (p1_a_mark, Sum.inl (k_p1_a_mark, 2, Sum.inl f_p1_a_mark))]) (w1 := [(p0, Sum.inr (2, [Value.long y15, Value.long y16]))]) hP hD [4] [0, 1, 2, 3] rfl rfl (by decide) (by decide) hk1 hFc hP1 hD1
  clear hPc hDc hKc hFc hP1 hD1 hk1 hz1
  generalize H1 = H at hP hS ⊢
  have hP : va_P (dC, dI) vwCl [(o, Sum.inr (5, [Value.long v_lowUpper, Value.long v_lowLower, Value.long v_capUpper, Value.long v_capLower, Value.int v_isBroken])), (p1, Sum.inr (3, [Value.int p1_v_signs, Value.int p1_v_works, Value.int p1_v_whole, Value.int p1_v_otherwise, Value.int p1_v_least, Value.int p1_v_rates, Value.ref p1_a_brings, Value.ref p1_a_costs, Value.ref p1_a_chances, Value.ref p1_a_rate, Value.ref p1_a_mark])), (p1_a_rate, Sum.inl (k_p1_a_rate, 3, Sum.inl f_p1_a_rate)), (p1_a_mark, Sum.inl (k_p1_a_mark, 2, Sum.inl f_p1_a_mark)), (p0, Sum.inr (2, [Value.long y15, Value.long y16]))] H := hP
  have hD : va_D A [(o, Sum.inr (5, [Value.long v_lowUpper, Value.long v_lowLower, Value.long v_capUpper, Value.long v_capLower, Value.int v_isBroken])), (p1, Sum.inr (3, [Value.int p1_v_signs, Value.int p1_v_works, Value.int p1_v_whole, Value.int p1_v_otherwise, Value.int p1_v_least, Value.int p1_v_rates, Value.ref p1_a_brings, Value.ref p1_a_costs, Value.ref p1_a_chances, Value.ref p1_a_rate, Value.ref p1_a_mark])), (p1_a_rate, Sum.inl (k_p1_a_rate, 3, Sum.inl f_p1_a_rate)), (p1_a_mark, Sum.inl (k_p1_a_mark, 2, Sum.inl f_p1_a_mark)), (p0, Sum.inr (2, [Value.long y15, Value.long y16]))] := hD
  refine W.widen (k := 0) (n := 0) (by decide) (by decide) ?_
  have hP9 := hP.sub (ws' := [(o, Sum.inr (5, [Value.long v_lowUpper, Value.long v_lowLower, Value.long v_capUpper, Value.long v_capLower, Value.int v_isBroken])), (p0, Sum.inr (2, [Value.long y15, Value.long y16])), (p1, Sum.inr (3, [Value.int p1_v_signs, Value.int p1_v_works, Value.int p1_v_whole, Value.int p1_v_otherwise, Value.int p1_v_least, Value.int p1_v_rates, Value.ref p1_a_brings, Value.ref p1_a_costs, Value.ref p1_a_chances, Value.ref p1_a_rate, Value.ref p1_a_mark])), (p1_a_rate, Sum.inl (k_p1_a_rate, 3, Sum.inl f_p1_a_rate)), (p1_a_mark, Sum.inl (k_p1_a_mark, 2, Sum.inl f_p1_a_mark))]) [0, 4, 1, 2, 3] rfl
  have hD9 := hD.sub (ws' := [(o, Sum.inr (5, [Value.long v_lowUpper, Value.long v_lowLower, Value.long v_capUpper, Value.long v_capLower, Value.int v_isBroken])), (p0, Sum.inr (2, [Value.long y15, Value.long y16])), (p1, Sum.inr (3, [Value.int p1_v_signs, Value.int p1_v_works, Value.int p1_v_whole, Value.int p1_v_otherwise, Value.int p1_v_least, Value.int p1_v_rates, Value.ref p1_a_brings, Value.ref p1_a_costs, Value.ref p1_a_chances, Value.ref p1_a_rate, Value.ref p1_a_mark])), (p1_a_rate, Sum.inl (k_p1_a_rate, 3, Sum.inl f_p1_a_rate)), (p1_a_mark, Sum.inl (k_p1_a_mark, 2, Sum.inl f_p1_a_mark))]) [0, 4, 1, 2, 3] (by decide) rfl
  exact W.vret hx hb hr (fun t ht hW => ⟨⟨(), rfl, trivial, y15, y16, by rw [ht]; exact hP9, hD9⟩, hS.F ht⟩) hS.2.2 dX5_meanInto_72

set_option maxHeartbeats 4000000 in
set_option maxRecDepth 100000 in
theorem ct_J7_fill_53178_5 (l : Launch) (dC : Nat → ClassId) (dI : Nat → Nat → Nat) (p0 : Nat) (p1 : Int32) (k_p0 : ClassId) (f_p0 : Nat → Int32) (sz : Nat) : Met l yJ7_fill_53178 wsJ7_fill_53178 ({ frames := 0, cells := 0, slots := 0, locals := 0 }) (va_Pc [Value.ref p0, Value.int p1] (fun U => U.heap.size = sz ∧ va_P (dC, dI) vwCl [(p0, Sum.inl (k_p0, 5, Sum.inl f_p0))] U.heap ∧ va_K (dC, dI) vwCl [(k_p0, FieldType.int)] U ∧ va_D (fun _ => True) [(p0, Sum.inl (k_p0, 5, Sum.inl f_p0))])) (va_Qv (fun _ : Unit => True) (fun _ t => ∃ (e_f_p0 : Nat → Int32), (flK 5 e_f_p0 p1) ∧ va_P (dC, dI) vwCl [(p0, Sum.inl (k_p0, 5, Sum.inl e_f_p0))] t.heap ∧ va_D (va_A [(p0, Sum.inl (k_p0, 5, Sum.inl f_p0))] sz) [(p0, Sum.inl (k_p0, 5, Sum.inl e_f_p0))]) (va_A [(p0, Sum.inl (k_p0, 5, Sum.inl f_p0))] sz)) 0 0 (va_A [(p0, Sum.inl (k_p0, 5, Sum.inl f_p0))] sz) := by
  refine Met.ofW (cc := cJ7_fill_53178) (maxL := 4) (ret := none) pn_J7 rfl ?_
  intro p e s m args below meth c s₁ B hml hv
  obtain ⟨rfl, hsz, hP, hK, hD0⟩ := hv
  have hx := B.exec
  have hb := B.bytes
  have hr := B.returns
  have hts := atoms_spec (ws := wsJ7_fill_53178) B.pre
  have hown : s.vm.findClass RJ7 = some m.cls := findClass_of_methodNamed B.named
  have hlocks := B.notSynchronized
  subst hsz
  have hD := hD0.self (sz := s.heap.size)
  generalize hAe : va_A [(p0, Sum.inl (k_p0, 5, Sum.inl f_p0))] s.heap.size = A at hD ⊢
  have hA : ∀ q : Nat, s.heap.size ≤ q → A q := fun q h => by rw [← hAe]; exact Or.inr h
  have hS : va_S A s.heap s.heap [] := va_S.rf
  have hP : va_P (dC, dI) vwCl [(p0, Sum.inl (k_p0, 5, Sum.inl f_p0))] s.heap := hP
  have hl := lv_entry ([Value.ref p0, Value.int p1]) (n := 4) (Nat.le_of_ble_eq_true rfl)
  rw [lg_entry_eq]
  generalize (lg_sl ([Value.ref p0, Value.int p1]) ++ List.replicate (4 - (lg_sl ([Value.ref p0, Value.int p1])).length) Slot.unset).toArray = ls at hl ⊢
  have hl : lv_has ls 4 [(0, Value.ref p0), (1, Value.int p1)] := hl
  refine lv_iconst (v := 0) hx hb dJ7_fill_53178_0 (by decide) ?_
  refine lv_istore_n (lv' := [(2, Value.int 0), (0, Value.ref p0), (1, Value.int p1)]) hx hb dJ7_fill_53178_1 rfl hl (by decide) rfl (fun ls hl => ?_)
  refine lv_aload_n hx hb dJ7_fill_53178_2 rfl (lv_at hl 1 rfl) ?_
  refine va_alen hx hb hK hP 0 0 rfl rfl (v := 5) (show Int32.ofNat 5 = 5 by decide) dJ7_fill_53178_3 ?_
  refine lv_istore_n (lv' := [(3, Value.int 5), (2, Value.int 0), (0, Value.ref p0), (1, Value.int p1)]) hx hb dJ7_fill_53178_4 rfl hl (by decide) rfl (fun ls hl => ?_)
  refine tl_loop (I := fun nn H locs ls => ∃ (v1 : Int32) (f2 : Nat → Int32), nn = (5 - v1.toInt).toNat ∧ iv v1 0 5 ∧ (flK (v1).toNatClampNeg f2 p1) ∧  va_P (dC, dI) vwCl [(p0, Sum.inl (k_p0, 5, Sum.inl f2))] H ∧ va_D A [(p0, Sum.inl (k_p0, 5, Sum.inl f2))] ∧ va_S A s.heap H locs ∧ lv_has ls 4 [(3, Value.int 5), (2, Value.int v1), (0, Value.ref p0), (1, Value.int p1)]) ?_ ⟨0, f_p0, rfl, (iv.m (by decide)), (by exact fl_0), hP, hD, hS, lv_sub hl [0, 1, 2, 3] rfl⟩
  clear hP hD hS hl
  intro nn5 H locs ls hI ih5
  obtain ⟨v1, f2, hn5, hv1, hi5_0, hP, hD, hS, hl⟩ := hI
  have bv1 := hv1.u
  refine lv_iload_n hx hb dJ7_fill_53178_5 rfl (lv_at hl 1 rfl) ?_
  refine lv_iload_n hx hb dJ7_fill_53178_6 rfl (lv_at hl 0 rfl) ?_
  refine lv_icmp_ge (tgt := 20) hx hb dJ7_fill_53178_7 (by decide) (fun c3 => ?_) (fun c3 => ?_)
  · have c39 := i32_le c3 (show (5 : Int32).toInt = 5 by decide) rfl
    have hP9 := hP.sub (ws' := [(p0, Sum.inl (k_p0, 5, Sum.inl f2))]) [0] rfl
    have hD9 := hD.sub (ws' := [(p0, Sum.inl (k_p0, 5, Sum.inl f2))]) [0] (by decide) rfl
    exact W.vret hx hb hr (fun t ht hW => ⟨⟨(), rfl, trivial, f2, (by exact fl_end hi5_0 (by omega)), by rw [ht]; exact hP9, hD9⟩, hS.F ht⟩) hS.2.2 dJ7_fill_53178_20
  · have c39 := i32_nle c3 (show (5 : Int32).toInt = 5 by decide) rfl
    refine lv_aload_n hx hb dJ7_fill_53178_10 rfl (lv_at hl 2 rfl) ?_
    refine lv_iload_n hx hb dJ7_fill_53178_11 rfl (lv_at hl 1 rfl) ?_
    refine lv_iload_n hx hb dJ7_fill_53178_12 rfl (lv_at hl 3 rfl) ?_
    refine va_iast hx hb hK hP hD hS 0 0 rfl rfl (vq_in v1 5 (by omega)) dJ7_fill_53178_13 (fun H locs hP hD hS => ?_)
    have hP : va_P (dC, dI) vwCl [(p0, Sum.inl (k_p0, 5, Sum.inl (upd f2 (Int32.toNatClampNeg v1) p1)))] H := hP
    have hD : va_D A [(p0, Sum.inl (k_p0, 5, Sum.inl (upd f2 (Int32.toNatClampNeg v1) p1)))] := hD
    have wf4 : (upd f2 (Int32.toNatClampNeg v1) p1) (Int32.toNatClampNeg v1) = p1 := pk_us
    have of4 : ∀ j : Nat, ¬ j = Int32.toNatClampNeg v1 → (upd f2 (Int32.toNatClampNeg v1) p1) j = f2 j := fun j hj => if_neg hj
    generalize upd f2 (Int32.toNatClampNeg v1) p1 = f4 at hP hD wf4 of4
    have hP : va_P (dC, dI) vwCl [(p0, Sum.inl (k_p0, 5, Sum.inl f4))] H := hP
    have hD : va_D A [(p0, Sum.inl (k_p0, 5, Sum.inl f4))] := hD
    obtain ⟨x5, ex5⟩ : ∃ z : Int32, v1 + Int32.ofInt 1 = z := ⟨_, rfl⟩
    have tx5 := i32_inc ex5 rfl (by decide) (by omega) (by omega)
    refine lv_iinc (v := x5) (lv' := [(2, Value.int x5), (3, Value.int 5), (0, Value.ref p0), (1, Value.int p1)]) hx hb dJ7_fill_53178_14 hl (k := 1) rfl ex5 (by decide) rfl (fun ls hl => ?_)
    refine lv_goto (tgt := 5) hx hb dJ7_fill_53178_17 (by decide) ?_
    exact ih5 _ _ _ _ (ms_up hn5 tx5 (by decide) (by omega)) ⟨x5, f4, rfl, (iv.m (by omega)), (fl_up hi5_0 wf4 of4 tx5 (by omega)), hP, hD, hS, lv_sub hl [1, 0, 2, 3] rfl⟩

set_option maxHeartbeats 4000000 in
set_option maxRecDepth 100000 in
theorem ct_X6_forget (l : Launch) (dC : Nat → ClassId) (dI : Nat → Nat → Nat) (o : Nat) (v_lowerNumber : Int32) (a_press : Nat) (v_pressOfElse : Int32) (a_mixed : Nat) (k_a_press : ClassId) (f_a_press : Nat → Int32) (k_a_mixed : ClassId) (f_a_mixed : Nat → Int32) (sz : Nat) : Met l yX6_forget wsX6_forget ({ frames := 1, cells := 0, slots := 0, locals := 23 }) (va_Pc [Value.ref o] (fun U => U.heap.size = sz ∧ va_P (dC, dI) vwCl [(o, Sum.inr (6, [Value.int v_lowerNumber, Value.ref a_press, Value.int v_pressOfElse, Value.ref a_mixed])), (a_press, Sum.inl (k_a_press, 5, Sum.inl f_a_press)), (a_mixed, Sum.inl (k_a_mixed, 5, Sum.inl f_a_mixed))] U.heap ∧ va_K (dC, dI) vwCl [(k_a_press, FieldType.int), (k_a_mixed, FieldType.int)] U ∧ va_D (fun _ => True) [(o, Sum.inr (6, [Value.int v_lowerNumber, Value.ref a_press, Value.int v_pressOfElse, Value.ref a_mixed])), (a_press, Sum.inl (k_a_press, 5, Sum.inl f_a_press)), (a_mixed, Sum.inl (k_a_mixed, 5, Sum.inl f_a_mixed))])) (va_Qv (fun _ : Unit => True) (fun _ t => ∃ (e_f_a_press : Nat → Int32) (e_f_a_mixed : Nat → Int32), (flK 5 e_f_a_press 0) ∧ (flK 5 e_f_a_mixed 0) ∧ ((1 : Int32).toInt = 1 ∧ (0 : Int32).toInt = 0) ∧ va_P (dC, dI) vwCl [(o, Sum.inr (6, [Value.int 1, Value.ref a_press, Value.int 0, Value.ref a_mixed])), (a_press, Sum.inl (k_a_press, 5, Sum.inl e_f_a_press)), (a_mixed, Sum.inl (k_a_mixed, 5, Sum.inl e_f_a_mixed))] t.heap ∧ va_D (va_A [(o, Sum.inr (6, [Value.int v_lowerNumber, Value.ref a_press, Value.int v_pressOfElse, Value.ref a_mixed])), (a_press, Sum.inl (k_a_press, 5, Sum.inl f_a_press)), (a_mixed, Sum.inl (k_a_mixed, 5, Sum.inl f_a_mixed))] sz) [(o, Sum.inr (6, [Value.int 1, Value.ref a_press, Value.int 0, Value.ref a_mixed])), (a_press, Sum.inl (k_a_press, 5, Sum.inl e_f_a_press)), (a_mixed, Sum.inl (k_a_mixed, 5, Sum.inl e_f_a_mixed))]) (va_A [(o, Sum.inr (6, [Value.int v_lowerNumber, Value.ref a_press, Value.int v_pressOfElse, Value.ref a_mixed])), (a_press, Sum.inl (k_a_press, 5, Sum.inl f_a_press)), (a_mixed, Sum.inl (k_a_mixed, 5, Sum.inl f_a_mixed))] sz)) 0 0 (va_A [(o, Sum.inr (6, [Value.int v_lowerNumber, Value.ref a_press, Value.int v_pressOfElse, Value.ref a_mixed])), (a_press, Sum.inl (k_a_press, 5, Sum.inl f_a_press)), (a_mixed, Sum.inl (k_a_mixed, 5, Sum.inl f_a_mixed))] sz) := by
  refine Met.ofW (cc := cX6_forget) (maxL := 1) (ret := none) pn_X6 rfl ?_
  intro p e s m args below meth c s₁ B hml hv
  obtain ⟨rfl, hsz, hP, hK, hD0⟩ := hv
  have hx := B.exec
  have hb := B.bytes
  have hr := B.returns
  have hts := atoms_spec (ws := wsX6_forget) B.pre
  have hown : s.vm.findClass RX6 = some m.cls := findClass_of_methodNamed B.named
  have hlocks := B.notSynchronized
  subst hsz
  have hD := hD0.self (sz := s.heap.size)
  generalize hAe : va_A [(o, Sum.inr (6, [Value.int v_lowerNumber, Value.ref a_press, Value.int v_pressOfElse, Value.ref a_mixed])), (a_press, Sum.inl (k_a_press, 5, Sum.inl f_a_press)), (a_mixed, Sum.inl (k_a_mixed, 5, Sum.inl f_a_mixed))] s.heap.size = A at hD ⊢
  have hA : ∀ q : Nat, s.heap.size ≤ q → A q := fun q h => by rw [← hAe]; exact Or.inr h
  have hS : va_S A s.heap s.heap [] := va_S.rf
  have hP : va_P (dC, dI) vwCl [(o, Sum.inr (6, [Value.int v_lowerNumber, Value.ref a_press, Value.int v_pressOfElse, Value.ref a_mixed])), (a_press, Sum.inl (k_a_press, 5, Sum.inl f_a_press)), (a_mixed, Sum.inl (k_a_mixed, 5, Sum.inl f_a_mixed))] s.heap := hP
  have hl := lv_entry ([Value.ref o]) (n := 1) (Nat.le_of_ble_eq_true rfl)
  rw [lg_entry_eq]
  generalize (lg_sl ([Value.ref o]) ++ List.replicate (1 - (lg_sl ([Value.ref o])).length) Slot.unset).toArray = ls at hl ⊢
  have hl : lv_has ls 1 [(0, Value.ref o)] := hl
  refine lv_aload_n hx hb dX6_forget_0 rfl (lv_at hl 0 rfl) ?_
  refine lv_iconst (v := 1) hx hb dX6_forget_1 (by decide) ?_
  refine va_put (D := (dC, dI)) (ci := 6) (v := Value.int 1) (ty := FieldType.int) (C := RX6) (T := TX6) (N := 4) hx hb hts iw_X6_forget_X6 tyX6 tyX6_ok nmX6 hown hK hP hD hS 0 rfl rfl 0 (by decide) (hts _ kk_X6_forget_0) (fun _ h9 => h9) rfl (by decide +kernel) rfl rfl (Nat.le_of_ble_eq_true rfl) dX6_forget_2 (fun H locs hP hD hS => ?_)
  have hP : va_P (dC, dI) vwCl [(o, Sum.inr (6, [Value.int 1, Value.ref a_press, Value.int v_pressOfElse, Value.ref a_mixed])), (a_press, Sum.inl (k_a_press, 5, Sum.inl f_a_press)), (a_mixed, Sum.inl (k_a_mixed, 5, Sum.inl f_a_mixed))] H := hP
  have hD : va_D A [(o, Sum.inr (6, [Value.int 1, Value.ref a_press, Value.int v_pressOfElse, Value.ref a_mixed])), (a_press, Sum.inl (k_a_press, 5, Sum.inl f_a_press)), (a_mixed, Sum.inl (k_a_mixed, 5, Sum.inl f_a_mixed))] := hD
  refine lv_aload_n hx hb dX6_forget_5 rfl (lv_at hl 0 rfl) ?_
  refine lv_iconst (v := 0) hx hb dX6_forget_6 (by decide) ?_
  refine va_put (D := (dC, dI)) (ci := 6) (v := Value.int 0) (ty := FieldType.int) (C := RX6) (T := TX6) (N := 4) hx hb hts iw_X6_forget_X6 tyX6 tyX6_ok nmX6 hown hK hP hD hS 0 rfl rfl 2 (by decide) (hts _ kk_X6_forget_1) (fun _ h9 => h9) rfl (by decide +kernel) rfl rfl (Nat.le_of_ble_eq_true rfl) dX6_forget_7 (fun H locs hP hD hS => ?_)
  have hP : va_P (dC, dI) vwCl [(o, Sum.inr (6, [Value.int 1, Value.ref a_press, Value.int 0, Value.ref a_mixed])), (a_press, Sum.inl (k_a_press, 5, Sum.inl f_a_press)), (a_mixed, Sum.inl (k_a_mixed, 5, Sum.inl f_a_mixed))] H := hP
  have hD : va_D A [(o, Sum.inr (6, [Value.int 1, Value.ref a_press, Value.int 0, Value.ref a_mixed])), (a_press, Sum.inl (k_a_press, 5, Sum.inl f_a_press)), (a_mixed, Sum.inl (k_a_mixed, 5, Sum.inl f_a_mixed))] := hD
  refine lv_aload_n hx hb dX6_forget_10 rfl (lv_at hl 0 rfl) ?_
  refine va_get (D := (dC, dI)) (ci := 6) (v := Value.ref a_press) (C := RX6) (T := TX6) (N := 4) hx hb hts iw_X6_forget_X6 hown hK hP 0 rfl rfl 1 (by decide) (hts _ kk_X6_forget_2) (fun _ h9 => h9) rfl dX6_forget_11 ?_
  refine lv_iconst (v := 0) hx hb dX6_forget_14 (by decide) ?_
  have hPc := hP.sub (ws' := [(a_press, Sum.inl (k_a_press, 5, Sum.inl f_a_press))]) [1] rfl
  have hDc := hD.sub (ws' := [(a_press, Sum.inl (k_a_press, 5, Sum.inl f_a_press))]) [1] (by decide) rfl
  have hKc := hK.sub (tys' := [(k_a_press, FieldType.int)]) [0] rfl
  have hFc := va_free (wc := [(a_press, Sum.inl (k_a_press, 5, Sum.inl f_a_press))]) hD hS hA [1] rfl
  refine va_callv (va_runS (As := [Value.ref a_press, Value.int 0]) (rest := []) ⟨hx, hb, hml, hown, hts⟩ (ct_J7_fill_53178_5 l dC dI a_press 0 k_a_press f_a_press H.size) (va_cwS 2 hts gX6_forget_J7_fill_53178 rfl rfl rfl ⟨cn_J7.1, cn_J7.2, ds_50⟩ ⟨Nat.le_of_ble_eq_true rfl, Nat.le_of_ble_eq_true rfl⟩) ⟨fun a U g mk q => by obtain ⟨q0, q1, qP, qK, qD⟩ := q; exact ⟨q0, q1, qP, va_K.moved (u := U) (U := U.calling g mk a) (Vm.Alike.refl U.vm) qK, qD⟩, fun U hU hW => ⟨rfl, by rw [hU], by rw [hU]; exact hPc, va_K.moved hW.alike hKc, hDc.weaken (fun _ _ _ _ => trivial)⟩⟩ rfl rfl hl.1 rfl (lv_room (Nat.le_of_ble_eq_true rfl)) dX6_forget_15 ⟨Nat.le_of_ble_eq_true rfl, Nat.le_of_ble_eq_true rfl⟩) hS (fun q _ h => hFc q h) hFc (fun u t H1 locs ht hvm hw hB hz1 hk1 hS => ?_)
  obtain ⟨f2, w3, hP1, hD1⟩ := hB
  rw [ht] at hP1
  obtain ⟨hP, hD⟩ := va_join (wr := [(o, Sum.inr (6, [Value.int 1, Value.ref a_press, Value.int 0, Value.ref a_mixed])), (a_mixed, Sum.inl (k_a_mixed, 5, Sum.inl f_a_mixed))]) (w1 := [(a_press, Sum.inl (k_a_press, 5, Sum.inl f2))]) hP hD [1] [0, 2] rfl rfl (by decide) (by decide) hk1 hFc hP1 hD1
  clear hPc hDc hKc hFc hP1 hD1 hk1 hz1
  generalize H1 = H at hP hS ⊢
  have hP : va_P (dC, dI) vwCl [(o, Sum.inr (6, [Value.int 1, Value.ref a_press, Value.int 0, Value.ref a_mixed])), (a_mixed, Sum.inl (k_a_mixed, 5, Sum.inl f_a_mixed)), (a_press, Sum.inl (k_a_press, 5, Sum.inl f2))] H := hP
  have hD : va_D A [(o, Sum.inr (6, [Value.int 1, Value.ref a_press, Value.int 0, Value.ref a_mixed])), (a_mixed, Sum.inl (k_a_mixed, 5, Sum.inl f_a_mixed)), (a_press, Sum.inl (k_a_press, 5, Sum.inl f2))] := hD
  refine W.widen (k := 0) (n := 0) (by decide) (by decide) ?_
  have hq15_1 : (0 : Int32).toInt = 0 := (by decide)
  refine lv_aload_n hx hb dX6_forget_18 rfl (lv_at hl 0 rfl) ?_
  refine va_get (D := (dC, dI)) (ci := 6) (v := Value.ref a_mixed) (C := RX6) (T := TX6) (N := 4) hx hb hts iw_X6_forget_X6 hown hK hP 0 rfl rfl 3 (by decide) (hts _ kk_X6_forget_3) (fun _ h9 => h9) rfl dX6_forget_19 ?_
  refine lv_iconst (v := 0) hx hb dX6_forget_22 (by decide) ?_
  have hPc := hP.sub (ws' := [(a_mixed, Sum.inl (k_a_mixed, 5, Sum.inl f_a_mixed))]) [1] rfl
  have hDc := hD.sub (ws' := [(a_mixed, Sum.inl (k_a_mixed, 5, Sum.inl f_a_mixed))]) [1] (by decide) rfl
  have hKc := hK.sub (tys' := [(k_a_mixed, FieldType.int)]) [1] rfl
  have hFc := va_free (wc := [(a_mixed, Sum.inl (k_a_mixed, 5, Sum.inl f_a_mixed))]) hD hS hA [1] rfl
  refine va_callv (va_runS (As := [Value.ref a_mixed, Value.int 0]) (rest := []) ⟨hx, hb, hml, hown, hts⟩ (ct_J7_fill_53178_5 l dC dI a_mixed 0 k_a_mixed f_a_mixed H.size) (va_cwS 2 hts gX6_forget_J7_fill_53178 rfl rfl rfl ⟨cn_J7.1, cn_J7.2, ds_50⟩ ⟨Nat.le_of_ble_eq_true rfl, Nat.le_of_ble_eq_true rfl⟩) ⟨fun a U g mk q => by obtain ⟨q0, q1, qP, qK, qD⟩ := q; exact ⟨q0, q1, qP, va_K.moved (u := U) (U := U.calling g mk a) (Vm.Alike.refl U.vm) qK, qD⟩, fun U hU hW => ⟨rfl, by rw [hU], by rw [hU]; exact hPc, va_K.moved hW.alike hKc, hDc.weaken (fun _ _ _ _ => trivial)⟩⟩ rfl rfl hl.1 rfl (lv_room (Nat.le_of_ble_eq_true rfl)) dX6_forget_23 ⟨Nat.le_of_ble_eq_true rfl, Nat.le_of_ble_eq_true rfl⟩) hS (fun q _ h => hFc q h) hFc (fun u t H1 locs ht hvm hw hB hz1 hk1 hS => ?_)
  obtain ⟨f5, w6, hP1, hD1⟩ := hB
  rw [ht] at hP1
  obtain ⟨hP, hD⟩ := va_join (wr := [(o, Sum.inr (6, [Value.int 1, Value.ref a_press, Value.int 0, Value.ref a_mixed])), (a_press, Sum.inl (k_a_press, 5, Sum.inl f2))]) (w1 := [(a_mixed, Sum.inl (k_a_mixed, 5, Sum.inl f5))]) hP hD [1] [0, 2] rfl rfl (by decide) (by decide) hk1 hFc hP1 hD1
  clear hPc hDc hKc hFc hP1 hD1 hk1 hz1
  generalize H1 = H at hP hS ⊢
  have hP : va_P (dC, dI) vwCl [(o, Sum.inr (6, [Value.int 1, Value.ref a_press, Value.int 0, Value.ref a_mixed])), (a_press, Sum.inl (k_a_press, 5, Sum.inl f2)), (a_mixed, Sum.inl (k_a_mixed, 5, Sum.inl f5))] H := hP
  have hD : va_D A [(o, Sum.inr (6, [Value.int 1, Value.ref a_press, Value.int 0, Value.ref a_mixed])), (a_press, Sum.inl (k_a_press, 5, Sum.inl f2)), (a_mixed, Sum.inl (k_a_mixed, 5, Sum.inl f5))] := hD
  refine W.widen (k := 0) (n := 0) (by decide) (by decide) ?_
  have hq23_1 : (0 : Int32).toInt = 0 := (by decide)
  have hP9 := hP.sub (ws' := [(o, Sum.inr (6, [Value.int 1, Value.ref a_press, Value.int 0, Value.ref a_mixed])), (a_press, Sum.inl (k_a_press, 5, Sum.inl f2)), (a_mixed, Sum.inl (k_a_mixed, 5, Sum.inl f5))]) [0, 1, 2] rfl
  have hD9 := hD.sub (ws' := [(o, Sum.inr (6, [Value.int 1, Value.ref a_press, Value.int 0, Value.ref a_mixed])), (a_press, Sum.inl (k_a_press, 5, Sum.inl f2)), (a_mixed, Sum.inl (k_a_mixed, 5, Sum.inl f5))]) [0, 1, 2] (by decide) rfl
  exact W.vret hx hb hr (fun t ht hW => ⟨⟨(), rfl, trivial, f2, f5, (by exact w3), (by exact w6), (by exact ⟨by decide, by decide⟩), by rw [ht]; exact hP9, hD9⟩, hS.F ht⟩) hS.2.2 dX6_forget_26

set_option maxHeartbeats 4000000 in
set_option maxRecDepth 100000 in
theorem ct_X6_changePress (l : Launch) (dC : Nat → ClassId) (dI : Nat → Nat → Nat) (o : Nat) (p0 : Int32) (p1 : Int32) (v_lowerNumber : Int32) (a_press : Nat) (v_pressOfElse : Int32) (a_mixed : Nat) (k_a_press : ClassId) (f_a_press : Nat → Int32) (hp0 : iv p0 0 4) (sz : Nat) : Met l yX6_changePress wsX6_changePress ({ frames := 0, cells := 0, slots := 0, locals := 0 }) (va_Pc [Value.ref o, Value.int p0, Value.int p1] (fun U => U.heap.size = sz ∧ va_P (dC, dI) vwCl [(o, Sum.inr (6, [Value.int v_lowerNumber, Value.ref a_press, Value.int v_pressOfElse, Value.ref a_mixed])), (a_press, Sum.inl (k_a_press, 5, Sum.inl f_a_press))] U.heap ∧ va_K (dC, dI) vwCl [(k_a_press, FieldType.int)] U ∧ va_D (fun _ => True) [(o, Sum.inr (6, [Value.int v_lowerNumber, Value.ref a_press, Value.int v_pressOfElse, Value.ref a_mixed])), (a_press, Sum.inl (k_a_press, 5, Sum.inl f_a_press))])) (va_Qi (fun (r u : Int32) => u = r) (fun (r : Int32) t => ∃ (e_f_a_press : Nat → Int32), (r = f_a_press p0.toNatClampNeg) ∧ (e_f_a_press = upd f_a_press p0.toNatClampNeg p1) ∧ va_P (dC, dI) vwCl [(o, Sum.inr (6, [Value.int v_lowerNumber, Value.ref a_press, Value.int v_pressOfElse, Value.ref a_mixed])), (a_press, Sum.inl (k_a_press, 5, Sum.inl e_f_a_press))] t.heap ∧ va_D (va_A [(o, Sum.inr (6, [Value.int v_lowerNumber, Value.ref a_press, Value.int v_pressOfElse, Value.ref a_mixed])), (a_press, Sum.inl (k_a_press, 5, Sum.inl f_a_press))] sz) [(o, Sum.inr (6, [Value.int v_lowerNumber, Value.ref a_press, Value.int v_pressOfElse, Value.ref a_mixed])), (a_press, Sum.inl (k_a_press, 5, Sum.inl e_f_a_press))]) (va_A [(o, Sum.inr (6, [Value.int v_lowerNumber, Value.ref a_press, Value.int v_pressOfElse, Value.ref a_mixed])), (a_press, Sum.inl (k_a_press, 5, Sum.inl f_a_press))] sz)) 0 0 (va_A [(o, Sum.inr (6, [Value.int v_lowerNumber, Value.ref a_press, Value.int v_pressOfElse, Value.ref a_mixed])), (a_press, Sum.inl (k_a_press, 5, Sum.inl f_a_press))] sz) := by
  refine Met.ofW (cc := cX6_changePress) (maxL := 4) (ret := (some .int)) pn_X6 rfl ?_
  intro p e s m args below meth c s₁ B hml hv
  obtain ⟨rfl, hsz, hP, hK, hD0⟩ := hv
  have hx := B.exec
  have hb := B.bytes
  have hr := B.returns
  have hts := atoms_spec (ws := wsX6_changePress) B.pre
  have hown : s.vm.findClass RX6 = some m.cls := findClass_of_methodNamed B.named
  have hlocks := B.notSynchronized
  subst hsz
  have hD := hD0.self (sz := s.heap.size)
  generalize hAe : va_A [(o, Sum.inr (6, [Value.int v_lowerNumber, Value.ref a_press, Value.int v_pressOfElse, Value.ref a_mixed])), (a_press, Sum.inl (k_a_press, 5, Sum.inl f_a_press))] s.heap.size = A at hD ⊢
  have hA : ∀ q : Nat, s.heap.size ≤ q → A q := fun q h => by rw [← hAe]; exact Or.inr h
  have hS : va_S A s.heap s.heap [] := va_S.rf
  have hP : va_P (dC, dI) vwCl [(o, Sum.inr (6, [Value.int v_lowerNumber, Value.ref a_press, Value.int v_pressOfElse, Value.ref a_mixed])), (a_press, Sum.inl (k_a_press, 5, Sum.inl f_a_press))] s.heap := hP
  have hl := lv_entry ([Value.ref o, Value.int p0, Value.int p1]) (n := 4) (Nat.le_of_ble_eq_true rfl)
  rw [lg_entry_eq]
  generalize (lg_sl ([Value.ref o, Value.int p0, Value.int p1]) ++ List.replicate (4 - (lg_sl ([Value.ref o, Value.int p0, Value.int p1])).length) Slot.unset).toArray = ls at hl ⊢
  have hl : lv_has ls 4 [(0, Value.ref o), (1, Value.int p0), (2, Value.int p1)] := hl
  refine lv_aload_n hx hb dX6_changePress_0 rfl (lv_at hl 0 rfl) ?_
  refine va_get (D := (dC, dI)) (ci := 6) (v := Value.ref a_press) (C := RX6) (T := TX6) (N := 4) hx hb hts iw_X6_changePress_X6 hown hK hP 0 rfl rfl 1 (by decide) (hts _ kk_X6_changePress_0) (fun _ h9 => h9) rfl dX6_changePress_1 ?_
  refine lv_iload_n hx hb dX6_changePress_4 rfl (lv_at hl 1 rfl) ?_
  have bp0 := hp0.u
  refine va_iald hx hb hK hP 1 0 rfl rfl (vq_in p0 5 (by omega)) dX6_changePress_5 ?_
  refine lv_topi (fun x1 ex1 => ?_)
  refine lv_istore_n (lv' := [(3, Value.int x1), (0, Value.ref o), (1, Value.int p0), (2, Value.int p1)]) hx hb dX6_changePress_6 rfl hl (by decide) rfl (fun ls hl => ?_)
  refine lv_aload_n hx hb dX6_changePress_7 rfl (lv_at hl 1 rfl) ?_
  refine va_get (D := (dC, dI)) (ci := 6) (v := Value.ref a_press) (C := RX6) (T := TX6) (N := 4) hx hb hts iw_X6_changePress_X6 hown hK hP 0 rfl rfl 1 (by decide) (hts _ kk_X6_changePress_0) (fun _ h9 => h9) rfl dX6_changePress_8 ?_
  refine lv_iload_n hx hb dX6_changePress_11 rfl (lv_at hl 2 rfl) ?_
  refine lv_iload_n hx hb dX6_changePress_12 rfl (lv_at hl 3 rfl) ?_
  refine va_iast hx hb hK hP hD hS 1 0 rfl rfl (vq_in p0 5 (by omega)) dX6_changePress_13 (fun H locs hP hD hS => ?_)
  have hP : va_P (dC, dI) vwCl [(o, Sum.inr (6, [Value.int v_lowerNumber, Value.ref a_press, Value.int v_pressOfElse, Value.ref a_mixed])), (a_press, Sum.inl (k_a_press, 5, Sum.inl (upd f_a_press (Int32.toNatClampNeg p0) p1)))] H := hP
  have hD : va_D A [(o, Sum.inr (6, [Value.int v_lowerNumber, Value.ref a_press, Value.int v_pressOfElse, Value.ref a_mixed])), (a_press, Sum.inl (k_a_press, 5, Sum.inl (upd f_a_press (Int32.toNatClampNeg p0) p1)))] := hD
  have wf2 : (upd f_a_press (Int32.toNatClampNeg p0) p1) (Int32.toNatClampNeg p0) = p1 := pk_us
  generalize qf2 : upd f_a_press (Int32.toNatClampNeg p0) p1 = f2 at hP hD wf2
  have hP : va_P (dC, dI) vwCl [(o, Sum.inr (6, [Value.int v_lowerNumber, Value.ref a_press, Value.int v_pressOfElse, Value.ref a_mixed])), (a_press, Sum.inl (k_a_press, 5, Sum.inl f2))] H := hP
  have hD : va_D A [(o, Sum.inr (6, [Value.int v_lowerNumber, Value.ref a_press, Value.int v_pressOfElse, Value.ref a_mixed])), (a_press, Sum.inl (k_a_press, 5, Sum.inl f2))] := hD
  refine lv_iload_n hx hb dX6_changePress_14 rfl (lv_at hl 0 rfl) ?_
  have hP9 := hP.sub (ws' := [(o, Sum.inr (6, [Value.int v_lowerNumber, Value.ref a_press, Value.int v_pressOfElse, Value.ref a_mixed])), (a_press, Sum.inl (k_a_press, 5, Sum.inl f2))]) [0, 1] rfl
  have hD9 := hD.sub (ws' := [(o, Sum.inr (6, [Value.int v_lowerNumber, Value.ref a_press, Value.int v_pressOfElse, Value.ref a_mixed])), (a_press, Sum.inl (k_a_press, 5, Sum.inl f2))]) [0, 1] (by decide) rfl
  have bx1 := i32_rng x1
  exact W.iret (v := x1) hx hb hr (fun t ht hW => ⟨⟨x1, x1, rfl, rfl, f2, (by exact ex1), (by first | rfl | exact qf2.symm), by rw [ht]; exact hP9, hD9⟩, hS.F ht⟩) hS.2.2 dX6_changePress_15

