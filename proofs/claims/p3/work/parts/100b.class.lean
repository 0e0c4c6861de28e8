set_option maxHeartbeats 4000000 in
set_option maxRecDepth 100000 in
theorem ct_X3_feltOf (l : Launch) (dC : Nat → ClassId) (dI : Nat → Nat → Nat) (o : Nat) (p0 : Int32) (v_signs : Int32) (v_works : Int32) (v_whole : Int32) (v_otherwise : Int32) (v_least : Int32) (v_rates : Int32) (a_brings : Nat) (a_costs : Nat) (a_chances : Nat) (a_rate : Nat) (a_mark : Nat) (k_a_rate : ClassId) (f_a_rate : Nat → Int32) (k_a_mark : ClassId) (f_a_mark : Nat → Int32) (hv_rates : iv v_rates 1 3) (sz : Nat) : Met l yX3_feltOf wsX3_feltOf ({ frames := 1, cells := 0, slots := 0, locals := 13 }) (va_Pc [Value.ref o, Value.int p0] (fun U => U.heap.size = sz ∧ va_P (dC, dI) vwCl [(o, Sum.inr (3, [Value.int v_signs, Value.int v_works, Value.int v_whole, Value.int v_otherwise, Value.int v_least, Value.int v_rates, Value.ref a_brings, Value.ref a_costs, Value.ref a_chances, Value.ref a_rate, Value.ref a_mark])), (a_rate, Sum.inl (k_a_rate, 3, Sum.inl f_a_rate)), (a_mark, Sum.inl (k_a_mark, 2, Sum.inl f_a_mark))] U.heap ∧ va_K (dC, dI) vwCl [(k_a_rate, FieldType.int), (k_a_mark, FieldType.int)] U ∧ va_D (fun _ => True) [(o, Sum.inr (3, [Value.int v_signs, Value.int v_works, Value.int v_whole, Value.int v_otherwise, Value.int v_least, Value.int v_rates, Value.ref a_brings, Value.ref a_costs, Value.ref a_chances, Value.ref a_rate, Value.ref a_mark])), (a_rate, Sum.inl (k_a_rate, 3, Sum.inl f_a_rate)), (a_mark, Sum.inl (k_a_mark, 2, Sum.inl f_a_mark))])) (va_Qi (fun (r u : Int32) => u = r) (fun (r : Int32) t => va_P (dC, dI) vwCl [(o, Sum.inr (3, [Value.int v_signs, Value.int v_works, Value.int v_whole, Value.int v_otherwise, Value.int v_least, Value.int v_rates, Value.ref a_brings, Value.ref a_costs, Value.ref a_chances, Value.ref a_rate, Value.ref a_mark])), (a_rate, Sum.inl (k_a_rate, 3, Sum.inl f_a_rate)), (a_mark, Sum.inl (k_a_mark, 2, Sum.inl f_a_mark))] t.heap ∧ va_D (va_A [(o, Sum.inr (3, [Value.int v_signs, Value.int v_works, Value.int v_whole, Value.int v_otherwise, Value.int v_least, Value.int v_rates, Value.ref a_brings, Value.ref a_costs, Value.ref a_chances, Value.ref a_rate, Value.ref a_mark])), (a_rate, Sum.inl (k_a_rate, 3, Sum.inl f_a_rate)), (a_mark, Sum.inl (k_a_mark, 2, Sum.inl f_a_mark))] sz) [(o, Sum.inr (3, [Value.int v_signs, Value.int v_works, Value.int v_whole, Value.int v_otherwise, Value.int v_least, Value.int v_rates, Value.ref a_brings, Value.ref a_costs, Value.ref a_chances, Value.ref a_rate, Value.ref a_mark])), (a_rate, Sum.inl (k_a_rate, 3, Sum.inl f_a_rate)), (a_mark, Sum.inl (k_a_mark, 2, Sum.inl f_a_mark))]) (va_A [(o, Sum.inr (3, [Value.int v_signs, Value.int v_works, Value.int v_whole, Value.int v_otherwise, Value.int v_least, Value.int v_rates, Value.ref a_brings, Value.ref a_costs, Value.ref a_chances, Value.ref a_rate, Value.ref a_mark])), (a_rate, Sum.inl (k_a_rate, 3, Sum.inl f_a_rate)), (a_mark, Sum.inl (k_a_mark, 2, Sum.inl f_a_mark))] sz)) 0 0 (va_A [(o, Sum.inr (3, [Value.int v_signs, Value.int v_works, Value.int v_whole, Value.int v_otherwise, Value.int v_least, Value.int v_rates, Value.ref a_brings, Value.ref a_costs, Value.ref a_chances, Value.ref a_rate, Value.ref a_mark])), (a_rate, Sum.inl (k_a_rate, 3, Sum.inl f_a_rate)), (a_mark, Sum.inl (k_a_mark, 2, Sum.inl f_a_mark))] sz) := by
  refine Met.ofW (cc := cX3_feltOf) (maxL := 6) (ret := (some .int)) pn_X3 rfl ?_
  intro p e s m args below meth c s₁ B hml hv
  obtain ⟨rfl, hsz, hP, hK, hD0⟩ := hv
  have hx := B.exec
  have hb := B.bytes
  have hr := B.returns
  have hts := atoms_spec (ws := wsX3_feltOf) B.pre
  have hown : s.vm.findClass RX3 = some m.cls := findClass_of_methodNamed B.named
  have hlocks := B.notSynchronized
  subst hsz
  have hD := hD0.self (sz := s.heap.size)
  generalize hAe : va_A [(o, Sum.inr (3, [Value.int v_signs, Value.int v_works, Value.int v_whole, Value.int v_otherwise, Value.int v_least, Value.int v_rates, Value.ref a_brings, Value.ref a_costs, Value.ref a_chances, Value.ref a_rate, Value.ref a_mark])), (a_rate, Sum.inl (k_a_rate, 3, Sum.inl f_a_rate)), (a_mark, Sum.inl (k_a_mark, 2, Sum.inl f_a_mark))] s.heap.size = A at hD ⊢
  have hA : ∀ q : Nat, s.heap.size ≤ q → A q := fun q h => by rw [← hAe]; exact Or.inr h
  have hS : va_S A s.heap s.heap [] := va_S.rf
  have hP : va_P (dC, dI) vwCl [(o, Sum.inr (3, [Value.int v_signs, Value.int v_works, Value.int v_whole, Value.int v_otherwise, Value.int v_least, Value.int v_rates, Value.ref a_brings, Value.ref a_costs, Value.ref a_chances, Value.ref a_rate, Value.ref a_mark])), (a_rate, Sum.inl (k_a_rate, 3, Sum.inl f_a_rate)), (a_mark, Sum.inl (k_a_mark, 2, Sum.inl f_a_mark))] s.heap := hP
  have hl := lv_entry ([Value.ref o, Value.int p0]) (n := 6) (Nat.le_of_ble_eq_true rfl)
  rw [lg_entry_eq]
  generalize (lg_sl ([Value.ref o, Value.int p0]) ++ List.replicate (6 - (lg_sl ([Value.ref o, Value.int p0])).length) Slot.unset).toArray = ls at hl ⊢
  have hl : lv_has ls 6 [(0, Value.ref o), (1, Value.int p0)] := hl
  refine lv_iconst (v := 0) hx hb dX3_feltOf_0 (by decide) ?_
  refine lv_istore_n (lv' := [(2, Value.int 0), (0, Value.ref o), (1, Value.int p0)]) hx hb dX3_feltOf_1 rfl hl (by decide) rfl (fun ls hl => ?_)
  refine lv_iconst (v := 0) hx hb dX3_feltOf_2 (by decide) ?_
  refine lv_istore_n (lv' := [(3, Value.int 0), (2, Value.int 0), (0, Value.ref o), (1, Value.int p0)]) hx hb dX3_feltOf_3 rfl hl (by decide) rfl (fun ls hl => ?_)
  refine lv_iconst (v := 0) hx hb dX3_feltOf_4 (by decide) ?_
  refine lv_istore (lv' := [(4, Value.int 0), (3, Value.int 0), (2, Value.int 0), (0, Value.ref o), (1, Value.int p0)]) hx hb dX3_feltOf_5 hl (by decide) rfl (fun ls hl => ?_)
  refine tl_loop (I := fun nn H locs ls => ∃ (v1 : Int32) (v2 : Int32) (v3 : Int32), nn = (3 - v1.toInt).toNat ∧ iv v1 0 3 ∧ iv v2 0 2147483647 ∧  va_P (dC, dI) vwCl [(o, Sum.inr (3, [Value.int v_signs, Value.int v_works, Value.int v_whole, Value.int v_otherwise, Value.int v_least, Value.int v_rates, Value.ref a_brings, Value.ref a_costs, Value.ref a_chances, Value.ref a_rate, Value.ref a_mark])), (a_rate, Sum.inl (k_a_rate, 3, Sum.inl f_a_rate)), (a_mark, Sum.inl (k_a_mark, 2, Sum.inl f_a_mark))] H ∧ va_D A [(o, Sum.inr (3, [Value.int v_signs, Value.int v_works, Value.int v_whole, Value.int v_otherwise, Value.int v_least, Value.int v_rates, Value.ref a_brings, Value.ref a_costs, Value.ref a_chances, Value.ref a_rate, Value.ref a_mark])), (a_rate, Sum.inl (k_a_rate, 3, Sum.inl f_a_rate)), (a_mark, Sum.inl (k_a_mark, 2, Sum.inl f_a_mark))] ∧ va_S A s.heap H locs ∧ lv_has ls 6 [(4, Value.int v1), (3, Value.int v2), (2, Value.int v3), (0, Value.ref o), (1, Value.int p0)]) ?_ ⟨0, 0, 0, rfl, (iv.m (by decide)), (iv.m (by decide)), hP, hD, hS, lv_sub hl [0, 1, 2, 3, 4] rfl⟩
  clear hP hD hS hl
  intro nn7 H locs ls hI ih7
  obtain ⟨v1, v2, v3, hn7, hv1, hv2, hP, hD, hS, hl⟩ := hI
  have bv1 := hv1.u
  have bv2 := hv2.u
  have bv3 := i32_rng v3
  refine lv_iload hx hb dX3_feltOf_7 (lv_at hl 0 rfl) ?_
  refine lv_aload_n hx hb dX3_feltOf_9 rfl (lv_at hl 3 rfl) ?_
  refine va_get (D := (dC, dI)) (ci := 3) (v := Value.int v_rates) (C := RX3) (T := TX3) (N := 11) hx hb hts iw_X3_feltOf_X3 hown hK hP 0 rfl rfl 5 (by decide) (hts _ kk_X3_feltOf_0) (fun _ h9 => h9) rfl dX3_feltOf_10 ?_
  have bv_rates := hv_rates.u
  refine lv_icmp_ge (tgt := 74) hx hb dX3_feltOf_13 (by decide) (fun c4 => ?_) (fun c4 => ?_)
  · have c49 := i32_le c4 rfl rfl
    refine lv_iload_n hx hb dX3_feltOf_74 rfl (lv_at hl 2 rfl) ?_
    have hP9 := hP.sub (ws' := [(o, Sum.inr (3, [Value.int v_signs, Value.int v_works, Value.int v_whole, Value.int v_otherwise, Value.int v_least, Value.int v_rates, Value.ref a_brings, Value.ref a_costs, Value.ref a_chances, Value.ref a_rate, Value.ref a_mark])), (a_rate, Sum.inl (k_a_rate, 3, Sum.inl f_a_rate)), (a_mark, Sum.inl (k_a_mark, 2, Sum.inl f_a_mark))]) [0, 1, 2] rfl
    have hD9 := hD.sub (ws' := [(o, Sum.inr (3, [Value.int v_signs, Value.int v_works, Value.int v_whole, Value.int v_otherwise, Value.int v_least, Value.int v_rates, Value.ref a_brings, Value.ref a_costs, Value.ref a_chances, Value.ref a_rate, Value.ref a_mark])), (a_rate, Sum.inl (k_a_rate, 3, Sum.inl f_a_rate)), (a_mark, Sum.inl (k_a_mark, 2, Sum.inl f_a_mark))]) [0, 1, 2] (by decide) rfl
    exact W.iret (v := v3) hx hb hr (fun t ht hW => ⟨⟨v3, v3, rfl, rfl, by rw [ht]; exact hP9, hD9⟩, hS.F ht⟩) hS.2.2 dX3_feltOf_75
  · have c49 := i32_nle c4 rfl rfl
    refine lv_iload hx hb dX3_feltOf_16 (lv_at hl 0 rfl) ?_
    refine lv_aload_n hx hb dX3_feltOf_18 rfl (lv_at hl 3 rfl) ?_
    refine va_get (D := (dC, dI)) (ci := 3) (v := Value.int v_rates) (C := RX3) (T := TX3) (N := 11) hx hb hts iw_X3_feltOf_X3 hown hK hP 0 rfl rfl 5 (by decide) (hts _ kk_X3_feltOf_0) (fun _ h9 => h9) rfl dX3_feltOf_19 ?_
    refine lv_iconst (v := 1) hx hb dX3_feltOf_22 (by decide) ?_
    refine lv_isub hx hb dX3_feltOf_23 ?_
    refine lv_topi (fun x5 ex5 => ?_)
    have tx5 := i32_sub ex5 rfl (show (1 : Int32).toInt = 1 by decide) (by omega) (by omega)
    refine lv_icmp_ne (tgt := 31) hx hb dX3_feltOf_24 (by decide) (fun c6 => ?_) (fun c6 => ?_)
    · have c69 := i32_ne c6 rfl rfl
      refine lv_iload_n hx hb dX3_feltOf_31 rfl (lv_at hl 4 rfl) ?_
      refine lv_aload_n hx hb dX3_feltOf_32 rfl (lv_at hl 3 rfl) ?_
      refine va_get (D := (dC, dI)) (ci := 3) (v := Value.ref a_mark) (C := RX3) (T := TX3) (N := 11) hx hb hts iw_X3_feltOf_X3 hown hK hP 0 rfl rfl 10 (by decide) (hts _ kk_X3_feltOf_1) (fun _ h9 => h9) rfl dX3_feltOf_33 ?_
      refine lv_iload hx hb dX3_feltOf_36 (lv_at hl 0 rfl) ?_
      refine va_iald hx hb hK hP 2 1 rfl rfl (vq_in v1 2 (by omega)) dX3_feltOf_38 ?_
      refine lv_topi (fun x7 ex7 => ?_)
      refine va_mmin hx hb (by rw [hml]; exact hl.1.symm) hown (hts _ kk_X3_feltOf_2) (hts _ kk_X3_feltOf_3) (hts _ kk_X3_feltOf_4) (hts _ kk_X3_feltOf_5) (Nat.le_of_ble_eq_true rfl) (Nat.le_of_ble_eq_true rfl) (Nat.le_of_ble_eq_true rfl) (Nat.le_of_ble_eq_true rfl) dX3_feltOf_39 ?_
      refine lv_topi (fun x8 ex8 => ?_)
      have bp0 := i32_rng p0
      have bx7 := i32_rng x7
      have tx8 := i32_min2 ex8 rfl rfl
      refine lv_istore (lv' := [(5, Value.int x8), (4, Value.int v1), (3, Value.int v2), (2, Value.int v3), (0, Value.ref o), (1, Value.int p0)]) hx hb dX3_feltOf_42 hl (by decide) rfl (fun ls hl => ?_)
      refine lv_iload hx hb dX3_feltOf_44 (lv_at hl 0 rfl) ?_
      refine lv_iload_n hx hb dX3_feltOf_46 rfl (lv_at hl 2 rfl) ?_
      refine lv_icmp_le (tgt := 68) hx hb dX3_feltOf_47 (by decide) (fun c9 => ?_) (fun c9 => ?_)
      · have c99 := i32_le c9 rfl rfl
        obtain ⟨x10, ex10⟩ : ∃ z : Int32, v1 + Int32.ofInt 1 = z := ⟨_, rfl⟩
        have tx10 := i32_inc ex10 rfl (by decide) (by omega) (by omega)
        refine lv_iinc (v := x10) (lv' := [(4, Value.int x10), (5, Value.int x8), (3, Value.int v2), (2, Value.int v3), (0, Value.ref o), (1, Value.int p0)]) hx hb dX3_feltOf_68 hl (k := 1) rfl ex10 (by decide) rfl (fun ls hl => ?_)
        refine lv_goto (tgt := 7) hx hb dX3_feltOf_71 (by decide) ?_
        exact ih7 _ _ _ _ (by omega) ⟨x10, v2, v3, rfl, (iv.m (by omega)), hv2, hP, hD, hS, lv_sub hl [0, 2, 3, 4, 5] rfl⟩
      · have c99 := i32_nle c9 rfl rfl
        refine lv_iload_n hx hb dX3_feltOf_50 rfl (lv_at hl 3 rfl) ?_
        refine lv_aload_n hx hb dX3_feltOf_51 rfl (lv_at hl 4 rfl) ?_
        refine va_get (D := (dC, dI)) (ci := 3) (v := Value.ref a_rate) (C := RX3) (T := TX3) (N := 11) hx hb hts iw_X3_feltOf_X3 hown hK hP 0 rfl rfl 9 (by decide) (hts _ kk_X3_feltOf_6) (fun _ h9 => h9) rfl dX3_feltOf_52 ?_
        refine lv_iload hx hb dX3_feltOf_55 (lv_at hl 1 rfl) ?_
        refine va_iald hx hb hK hP 1 0 rfl rfl (vq_in v1 3 (by omega)) dX3_feltOf_57 ?_
        refine lv_topi (fun x11 ex11 => ?_)
        refine lv_iload hx hb dX3_feltOf_58 (lv_at hl 0 rfl) ?_
        refine lv_iload_n hx hb dX3_feltOf_60 rfl (lv_at hl 2 rfl) ?_
        refine lv_isub hx hb dX3_feltOf_61 ?_
        refine lv_topi (fun x12 ex12 => ?_)
        have tx12 := i32_sub ex12 rfl rfl (by omega) (by omega)
        refine lv_imul hx hb dX3_feltOf_62 ?_
        refine lv_topi (fun x13 ex13 => ?_)
        refine lv_iadd hx hb dX3_feltOf_63 ?_
        refine lv_topi (fun x14 ex14 => ?_)
        refine lv_istore_n (lv' := [(2, Value.int x14), (5, Value.int x8), (4, Value.int v1), (3, Value.int v2), (0, Value.ref o), (1, Value.int p0)]) hx hb dX3_feltOf_64 rfl hl (by decide) rfl (fun ls hl => ?_)
        refine lv_iload hx hb dX3_feltOf_65 (lv_at hl 1 rfl) ?_
        refine lv_istore_n (lv' := [(3, Value.int x8), (2, Value.int x14), (5, Value.int x8), (4, Value.int v1), (0, Value.ref o), (1, Value.int p0)]) hx hb dX3_feltOf_67 rfl hl (by decide) rfl (fun ls hl => ?_)
        obtain ⟨x15, ex15⟩ : ∃ z : Int32, v1 + Int32.ofInt 1 = z := ⟨_, rfl⟩
        have tx15 := i32_inc ex15 rfl (by decide) (by omega) (by omega)
        refine lv_iinc (v := x15) (lv' := [(4, Value.int x15), (3, Value.int x8), (2, Value.int x14), (5, Value.int x8), (0, Value.ref o), (1, Value.int p0)]) hx hb dX3_feltOf_68 hl (k := 3) rfl ex15 (by decide) rfl (fun ls hl => ?_)
        refine lv_goto (tgt := 7) hx hb dX3_feltOf_71 (by decide) ?_
        have bx14 := i32_rng x14
        exact ih7 _ _ _ _ (by omega) ⟨x15, x8, x14, rfl, (iv.m (by omega)), (iv.m (by omega)), hP, hD, hS, lv_sub hl [0, 1, 2, 4, 5] rfl⟩
    · have c69 := i32_eq c6 rfl rfl
      refine lv_iload_n hx hb dX3_feltOf_27 rfl (lv_at hl 4 rfl) ?_
      refine lv_goto (tgt := 42) hx hb dX3_feltOf_28 (by decide) ?_
      refine lv_istore (lv' := [(5, Value.int p0), (4, Value.int v1), (3, Value.int v2), (2, Value.int v3), (0, Value.ref o), (1, Value.int p0)]) hx hb dX3_feltOf_42 hl (by decide) rfl (fun ls hl => ?_)
      refine lv_iload hx hb dX3_feltOf_44 (lv_at hl 0 rfl) ?_
      refine lv_iload_n hx hb dX3_feltOf_46 rfl (lv_at hl 2 rfl) ?_
      have bp0 := i32_rng p0
      refine lv_icmp_le (tgt := 68) hx hb dX3_feltOf_47 (by decide) (fun c16 => ?_) (fun c16 => ?_)
      · have c169 := i32_le c16 rfl rfl
        obtain ⟨x17, ex17⟩ : ∃ z : Int32, v1 + Int32.ofInt 1 = z := ⟨_, rfl⟩
        have tx17 := i32_inc ex17 rfl (by decide) (by omega) (by omega)
        refine lv_iinc (v := x17) (lv' := [(4, Value.int x17), (5, Value.int p0), (3, Value.int v2), (2, Value.int v3), (0, Value.ref o), (1, Value.int p0)]) hx hb dX3_feltOf_68 hl (k := 1) rfl ex17 (by decide) rfl (fun ls hl => ?_)
        refine lv_goto (tgt := 7) hx hb dX3_feltOf_71 (by decide) ?_
        exact ih7 _ _ _ _ (by omega) ⟨x17, v2, v3, rfl, (iv.m (by omega)), hv2, hP, hD, hS, lv_sub hl [0, 2, 3, 4, 5] rfl⟩
      · have c169 := i32_nle c16 rfl rfl
        refine lv_iload_n hx hb dX3_feltOf_50 rfl (lv_at hl 3 rfl) ?_
        refine lv_aload_n hx hb dX3_feltOf_51 rfl (lv_at hl 4 rfl) ?_
        refine va_get (D := (dC, dI)) (ci := 3) (v := Value.ref a_rate) (C := RX3) (T := TX3) (N := 11) hx hb hts iw_X3_feltOf_X3 hown hK hP 0 rfl rfl 9 (by decide) (hts _ kk_X3_feltOf_6) (fun _ h9 => h9) rfl dX3_feltOf_52 ?_
        refine lv_iload hx hb dX3_feltOf_55 (lv_at hl 1 rfl) ?_
        refine va_iald hx hb hK hP 1 0 rfl rfl (vq_in v1 3 (by omega)) dX3_feltOf_57 ?_
        refine lv_topi (fun x18 ex18 => ?_)
        refine lv_iload hx hb dX3_feltOf_58 (lv_at hl 0 rfl) ?_
        refine lv_iload_n hx hb dX3_feltOf_60 rfl (lv_at hl 2 rfl) ?_
        refine lv_isub hx hb dX3_feltOf_61 ?_
        refine lv_topi (fun x19 ex19 => ?_)
        have tx19 := i32_sub ex19 rfl rfl (by omega) (by omega)
        refine lv_imul hx hb dX3_feltOf_62 ?_
        refine lv_topi (fun x20 ex20 => ?_)
        refine lv_iadd hx hb dX3_feltOf_63 ?_
        refine lv_topi (fun x21 ex21 => ?_)
        refine lv_istore_n (lv' := [(2, Value.int x21), (5, Value.int p0), (4, Value.int v1), (3, Value.int v2), (0, Value.ref o), (1, Value.int p0)]) hx hb dX3_feltOf_64 rfl hl (by decide) rfl (fun ls hl => ?_)
        refine lv_iload hx hb dX3_feltOf_65 (lv_at hl 1 rfl) ?_
        refine lv_istore_n (lv' := [(3, Value.int p0), (2, Value.int x21), (5, Value.int p0), (4, Value.int v1), (0, Value.ref o), (1, Value.int p0)]) hx hb dX3_feltOf_67 rfl hl (by decide) rfl (fun ls hl => ?_)
        obtain ⟨x22, ex22⟩ : ∃ z : Int32, v1 + Int32.ofInt 1 = z := ⟨_, rfl⟩
        have tx22 := i32_inc ex22 rfl (by decide) (by omega) (by omega)
        refine lv_iinc (v := x22) (lv' := [(4, Value.int x22), (3, Value.int p0), (2, Value.int x21), (5, Value.int p0), (0, Value.ref o), (1, Value.int p0)]) hx hb dX3_feltOf_68 hl (k := 3) rfl ex22 (by decide) rfl (fun ls hl => ?_)
        refine lv_goto (tgt := 7) hx hb dX3_feltOf_71 (by decide) ?_
        have bx21 := i32_rng x21
        exact ih7 _ _ _ _ (by omega) ⟨x22, p0, x21, rfl, (iv.m (by omega)), (iv.m (by omega)), hP, hD, hS, lv_sub hl [0, 1, 2, 4, 5] rfl⟩

set_option maxHeartbeats 4000000 in
set_option maxRecDepth 100000 in
theorem ct_X0_fillFelt (l : Launch) (dC : Nat → ClassId) (dI : Nat → Nat → Nat) (o : Nat) (p0 : Nat) (a_chosen : Nat) (v_bestCost : Int32) (a_felt : Nat) (a_own : Nat) (a_share : Nat) (a_rest : Nat) (a_left : Nat) (a_tried : Nat) (v_signs : Int32) (v_lines : Int32) (v_most : Int32) (k_a_felt : ClassId) (f_a_felt : Nat → Int32) (p0_v_signs : Int32) (p0_v_works : Int32) (p0_v_whole : Int32) (p0_v_otherwise : Int32) (p0_v_least : Int32) (p0_v_rates : Int32) (p0_a_brings : Nat) (p0_a_costs : Nat) (p0_a_chances : Nat) (p0_a_rate : Nat) (p0_a_mark : Nat) (k_p0_a_rate : ClassId) (f_p0_a_rate : Nat → Int32) (k_p0_a_mark : ClassId) (f_p0_a_mark : Nat → Int32) (hp0_v_rates : iv p0_v_rates 1 3) (sz : Nat) : Met l yX0_fillFelt wsX0_fillFelt ({ frames := 2, cells := 0, slots := 0, locals := 38 }) (va_Pc [Value.ref o, Value.ref p0] (fun U => U.heap.size = sz ∧ va_P (dC, dI) vwCl [(o, Sum.inr (0, [Value.ref a_chosen, Value.int v_bestCost, Value.ref a_felt, Value.ref a_own, Value.ref a_share, Value.ref a_rest, Value.ref a_left, Value.ref a_tried, Value.int v_signs, Value.int v_lines, Value.int v_most])), (a_felt, Sum.inl (k_a_felt, 21, Sum.inl f_a_felt)), (p0, Sum.inr (3, [Value.int p0_v_signs, Value.int p0_v_works, Value.int p0_v_whole, Value.int p0_v_otherwise, Value.int p0_v_least, Value.int p0_v_rates, Value.ref p0_a_brings, Value.ref p0_a_costs, Value.ref p0_a_chances, Value.ref p0_a_rate, Value.ref p0_a_mark])), (p0_a_rate, Sum.inl (k_p0_a_rate, 3, Sum.inl f_p0_a_rate)), (p0_a_mark, Sum.inl (k_p0_a_mark, 2, Sum.inl f_p0_a_mark))] U.heap ∧ va_K (dC, dI) vwCl [(k_a_felt, FieldType.int), (k_p0_a_rate, FieldType.int), (k_p0_a_mark, FieldType.int)] U ∧ va_D (fun _ => True) [(o, Sum.inr (0, [Value.ref a_chosen, Value.int v_bestCost, Value.ref a_felt, Value.ref a_own, Value.ref a_share, Value.ref a_rest, Value.ref a_left, Value.ref a_tried, Value.int v_signs, Value.int v_lines, Value.int v_most])), (a_felt, Sum.inl (k_a_felt, 21, Sum.inl f_a_felt)), (p0, Sum.inr (3, [Value.int p0_v_signs, Value.int p0_v_works, Value.int p0_v_whole, Value.int p0_v_otherwise, Value.int p0_v_least, Value.int p0_v_rates, Value.ref p0_a_brings, Value.ref p0_a_costs, Value.ref p0_a_chances, Value.ref p0_a_rate, Value.ref p0_a_mark])), (p0_a_rate, Sum.inl (k_p0_a_rate, 3, Sum.inl f_p0_a_rate)), (p0_a_mark, Sum.inl (k_p0_a_mark, 2, Sum.inl f_p0_a_mark))])) (va_Qv (fun _ : Unit => True) (fun _ t => ∃ (e_f_a_felt : Nat → Int32), va_P (dC, dI) vwCl [(o, Sum.inr (0, [Value.ref a_chosen, Value.int v_bestCost, Value.ref a_felt, Value.ref a_own, Value.ref a_share, Value.ref a_rest, Value.ref a_left, Value.ref a_tried, Value.int v_signs, Value.int v_lines, Value.int v_most])), (a_felt, Sum.inl (k_a_felt, 21, Sum.inl e_f_a_felt)), (p0, Sum.inr (3, [Value.int p0_v_signs, Value.int p0_v_works, Value.int p0_v_whole, Value.int p0_v_otherwise, Value.int p0_v_least, Value.int p0_v_rates, Value.ref p0_a_brings, Value.ref p0_a_costs, Value.ref p0_a_chances, Value.ref p0_a_rate, Value.ref p0_a_mark])), (p0_a_rate, Sum.inl (k_p0_a_rate, 3, Sum.inl f_p0_a_rate)), (p0_a_mark, Sum.inl (k_p0_a_mark, 2, Sum.inl f_p0_a_mark))] t.heap ∧ va_D (va_A [(o, Sum.inr (0, [Value.ref a_chosen, Value.int v_bestCost, Value.ref a_felt, Value.ref a_own, Value.ref a_share, Value.ref a_rest, Value.ref a_left, Value.ref a_tried, Value.int v_signs, Value.int v_lines, Value.int v_most])), (a_felt, Sum.inl (k_a_felt, 21, Sum.inl f_a_felt)), (p0, Sum.inr (3, [Value.int p0_v_signs, Value.int p0_v_works, Value.int p0_v_whole, Value.int p0_v_otherwise, Value.int p0_v_least, Value.int p0_v_rates, Value.ref p0_a_brings, Value.ref p0_a_costs, Value.ref p0_a_chances, Value.ref p0_a_rate, Value.ref p0_a_mark])), (p0_a_rate, Sum.inl (k_p0_a_rate, 3, Sum.inl f_p0_a_rate)), (p0_a_mark, Sum.inl (k_p0_a_mark, 2, Sum.inl f_p0_a_mark))] sz) [(o, Sum.inr (0, [Value.ref a_chosen, Value.int v_bestCost, Value.ref a_felt, Value.ref a_own, Value.ref a_share, Value.ref a_rest, Value.ref a_left, Value.ref a_tried, Value.int v_signs, Value.int v_lines, Value.int v_most])), (a_felt, Sum.inl (k_a_felt, 21, Sum.inl e_f_a_felt)), (p0, Sum.inr (3, [Value.int p0_v_signs, Value.int p0_v_works, Value.int p0_v_whole, Value.int p0_v_otherwise, Value.int p0_v_least, Value.int p0_v_rates, Value.ref p0_a_brings, Value.ref p0_a_costs, Value.ref p0_a_chances, Value.ref p0_a_rate, Value.ref p0_a_mark])), (p0_a_rate, Sum.inl (k_p0_a_rate, 3, Sum.inl f_p0_a_rate)), (p0_a_mark, Sum.inl (k_p0_a_mark, 2, Sum.inl f_p0_a_mark))]) (va_A [(o, Sum.inr (0, [Value.ref a_chosen, Value.int v_bestCost, Value.ref a_felt, Value.ref a_own, Value.ref a_share, Value.ref a_rest, Value.ref a_left, Value.ref a_tried, Value.int v_signs, Value.int v_lines, Value.int v_most])), (a_felt, Sum.inl (k_a_felt, 21, Sum.inl f_a_felt)), (p0, Sum.inr (3, [Value.int p0_v_signs, Value.int p0_v_works, Value.int p0_v_whole, Value.int p0_v_otherwise, Value.int p0_v_least, Value.int p0_v_rates, Value.ref p0_a_brings, Value.ref p0_a_costs, Value.ref p0_a_chances, Value.ref p0_a_rate, Value.ref p0_a_mark])), (p0_a_rate, Sum.inl (k_p0_a_rate, 3, Sum.inl f_p0_a_rate)), (p0_a_mark, Sum.inl (k_p0_a_mark, 2, Sum.inl f_p0_a_mark))] sz)) 0 0 (va_A [(o, Sum.inr (0, [Value.ref a_chosen, Value.int v_bestCost, Value.ref a_felt, Value.ref a_own, Value.ref a_share, Value.ref a_rest, Value.ref a_left, Value.ref a_tried, Value.int v_signs, Value.int v_lines, Value.int v_most])), (a_felt, Sum.inl (k_a_felt, 21, Sum.inl f_a_felt)), (p0, Sum.inr (3, [Value.int p0_v_signs, Value.int p0_v_works, Value.int p0_v_whole, Value.int p0_v_otherwise, Value.int p0_v_least, Value.int p0_v_rates, Value.ref p0_a_brings, Value.ref p0_a_costs, Value.ref p0_a_chances, Value.ref p0_a_rate, Value.ref p0_a_mark])), (p0_a_rate, Sum.inl (k_p0_a_rate, 3, Sum.inl f_p0_a_rate)), (p0_a_mark, Sum.inl (k_p0_a_mark, 2, Sum.inl f_p0_a_mark))] sz) := by
  refine Met.ofW (cc := cX0_fillFelt) (maxL := 4) (ret := none) pn_X0 rfl ?_
  intro p e s m args below meth c s₁ B hml hv
  obtain ⟨rfl, hsz, hP, hK, hD0⟩ := hv
  have hx := B.exec
  have hb := B.bytes
  have hr := B.returns
  have hts := atoms_spec (ws := wsX0_fillFelt) B.pre
  have hown : s.vm.findClass RX0 = some m.cls := findClass_of_methodNamed B.named
  have hlocks := B.notSynchronized
  subst hsz
  have hD := hD0.self (sz := s.heap.size)
  generalize hAe : va_A [(o, Sum.inr (0, [Value.ref a_chosen, Value.int v_bestCost, Value.ref a_felt, Value.ref a_own, Value.ref a_share, Value.ref a_rest, Value.ref a_left, Value.ref a_tried, Value.int v_signs, Value.int v_lines, Value.int v_most])), (a_felt, Sum.inl (k_a_felt, 21, Sum.inl f_a_felt)), (p0, Sum.inr (3, [Value.int p0_v_signs, Value.int p0_v_works, Value.int p0_v_whole, Value.int p0_v_otherwise, Value.int p0_v_least, Value.int p0_v_rates, Value.ref p0_a_brings, Value.ref p0_a_costs, Value.ref p0_a_chances, Value.ref p0_a_rate, Value.ref p0_a_mark])), (p0_a_rate, Sum.inl (k_p0_a_rate, 3, Sum.inl f_p0_a_rate)), (p0_a_mark, Sum.inl (k_p0_a_mark, 2, Sum.inl f_p0_a_mark))] s.heap.size = A at hD ⊢
  have hA : ∀ q : Nat, s.heap.size ≤ q → A q := fun q h => by rw [← hAe]; exact Or.inr h
  have hS : va_S A s.heap s.heap [] := va_S.rf
  have hP : va_P (dC, dI) vwCl [(o, Sum.inr (0, [Value.ref a_chosen, Value.int v_bestCost, Value.ref a_felt, Value.ref a_own, Value.ref a_share, Value.ref a_rest, Value.ref a_left, Value.ref a_tried, Value.int v_signs, Value.int v_lines, Value.int v_most])), (a_felt, Sum.inl (k_a_felt, 21, Sum.inl f_a_felt)), (p0, Sum.inr (3, [Value.int p0_v_signs, Value.int p0_v_works, Value.int p0_v_whole, Value.int p0_v_otherwise, Value.int p0_v_least, Value.int p0_v_rates, Value.ref p0_a_brings, Value.ref p0_a_costs, Value.ref p0_a_chances, Value.ref p0_a_rate, Value.ref p0_a_mark])), (p0_a_rate, Sum.inl (k_p0_a_rate, 3, Sum.inl f_p0_a_rate)), (p0_a_mark, Sum.inl (k_p0_a_mark, 2, Sum.inl f_p0_a_mark))] s.heap := hP
  have hl := lv_entry ([Value.ref o, Value.ref p0]) (n := 4) (Nat.le_of_ble_eq_true rfl)
  rw [lg_entry_eq]
  generalize (lg_sl ([Value.ref o, Value.ref p0]) ++ List.replicate (4 - (lg_sl ([Value.ref o, Value.ref p0])).length) Slot.unset).toArray = ls at hl ⊢
  have hl : lv_has ls 4 [(0, Value.ref o), (1, Value.ref p0)] := hl
  refine lv_aload_n hx hb dX0_fillFelt_0 rfl (lv_at hl 1 rfl) ?_
  refine lv_aload_n hx hb dX0_fillFelt_1 rfl (lv_at hl 1 rfl) ?_
  refine va_get (D := (dC, dI)) (ci := 3) (v := Value.int p0_v_least) (C := RX3) (T := TX3) (N := 11) hx hb hts iw_X0_fillFelt_X3 hown hK hP 2 rfl rfl 4 (by decide) (hts _ kk_X0_fillFelt_0) (fun _ h9 => h9) rfl dX0_fillFelt_2 ?_
  have hPc := hP.sub (ws' := [(p0, Sum.inr (3, [Value.int p0_v_signs, Value.int p0_v_works, Value.int p0_v_whole, Value.int p0_v_otherwise, Value.int p0_v_least, Value.int p0_v_rates, Value.ref p0_a_brings, Value.ref p0_a_costs, Value.ref p0_a_chances, Value.ref p0_a_rate, Value.ref p0_a_mark])), (p0_a_rate, Sum.inl (k_p0_a_rate, 3, Sum.inl f_p0_a_rate)), (p0_a_mark, Sum.inl (k_p0_a_mark, 2, Sum.inl f_p0_a_mark))]) [2, 3, 4] rfl
  have hDc := hD.sub (ws' := [(p0, Sum.inr (3, [Value.int p0_v_signs, Value.int p0_v_works, Value.int p0_v_whole, Value.int p0_v_otherwise, Value.int p0_v_least, Value.int p0_v_rates, Value.ref p0_a_brings, Value.ref p0_a_costs, Value.ref p0_a_chances, Value.ref p0_a_rate, Value.ref p0_a_mark])), (p0_a_rate, Sum.inl (k_p0_a_rate, 3, Sum.inl f_p0_a_rate)), (p0_a_mark, Sum.inl (k_p0_a_mark, 2, Sum.inl f_p0_a_mark))]) [2, 3, 4] (by decide) rfl
  have hKc := hK.sub (tys' := [(k_p0_a_rate, FieldType.int), (k_p0_a_mark, FieldType.int)]) [1, 2] rfl
  have hFc := va_free (wc := [(p0, Sum.inr (3, [Value.int p0_v_signs, Value.int p0_v_works, Value.int p0_v_whole, Value.int p0_v_otherwise, Value.int p0_v_least, Value.int p0_v_rates, Value.ref p0_a_brings, Value.ref p0_a_costs, Value.ref p0_a_chances, Value.ref p0_a_rate, Value.ref p0_a_mark])), (p0_a_rate, Sum.inl (k_p0_a_rate, 3, Sum.inl f_p0_a_rate)), (p0_a_mark, Sum.inl (k_p0_a_mark, 2, Sum.inl f_p0_a_mark))]) hD hS hA [2, 3, 4] rfl
  refine va_calli (va_runV (As := [Value.int p0_v_least]) (rest := []) ⟨hx, hb, hml, hown, hts⟩ (ct_X3_feltOf l dC dI p0 p0_v_least p0_v_signs p0_v_works p0_v_whole p0_v_otherwise p0_v_least p0_v_rates p0_a_brings p0_a_costs p0_a_chances p0_a_rate p0_a_mark k_p0_a_rate f_p0_a_rate k_p0_a_mark f_p0_a_mark hp0_v_rates s.heap.size) (cwV 1 hts gX0_fillFelt_X3_feltOf rfl rfl rfl ⟨rfl, cn_X3.1, cn_X3.2, ds_5⟩ ⟨Nat.le_of_ble_eq_true rfl, Nat.le_of_ble_eq_true rfl⟩) ⟨fun a U g mk q => by obtain ⟨q0, q1, qP, qK, qD⟩ := q; exact ⟨q0, q1, qP, va_K.moved (u := U) (U := U.calling g mk a) (Vm.Alike.refl U.vm) qK, qD⟩, va_recv hKc hPc (ci := 3) (q0 := 0) rfl rfl, fun U hU hW => ⟨rfl, by rw [hU], by rw [hU]; exact hPc, va_K.moved hW.alike hKc, hDc.weaken (fun _ _ _ _ => trivial)⟩⟩ rfl rfl hl.1 rfl (lv_room (Nat.le_of_ble_eq_true rfl)) dX0_fillFelt_5 ⟨Nat.le_of_ble_eq_true rfl, Nat.le_of_ble_eq_true rfl⟩) hS (fun q _ h => hFc q h) hFc (fun r1 u t H1 locs ht hvm hw hB hz1 hk1 hS => ?_)
  have hw : r1 = u := hw.symm
  subst hw
  obtain ⟨hP1, hD1⟩ := hB
  rw [ht] at hP1
  obtain ⟨hP, hD⟩ := va_join (wr := [(o, Sum.inr (0, [Value.ref a_chosen, Value.int v_bestCost, Value.ref a_felt, Value.ref a_own, Value.ref a_share, Value.ref a_rest, Value.ref a_left, Value.ref a_tried, Value.int v_signs, Value.int v_lines, Value.int v_most])), (a_felt, Sum.inl (k_a_felt, 21, Sum.inl f_a_felt))]) (w1 := [(p0, Sum.inr (3, [Value.int p0_v_signs, Value.int p0_v_works, Value.int p0_v_whole, Value.int p0_v_otherwise, Value.int p0_v_least, Value.int p0_v_rates, Value.ref p0_a_brings, Value.ref p0_a_costs, Value.ref p0_a_chances, Value.ref p0_a_rate, Value.ref p0_a_mark])), (p0_a_rate, Sum.inl (k_p0_a_rate, 3, Sum.inl f_p0_a_rate)), (p0_a_mark, Sum.inl (k_p0_a_mark, 2, Sum.inl f_p0_a_mark))]) hP hD [2, 3, 4] [0, 1] rfl rfl (by decide) (by decide) hk1 hFc hP1 hD1
  clear hPc hDc hKc hFc hP1 hD1 hk1 hz1
  generalize H1 = H at hP hS ⊢
  have hP : va_P (dC, dI) vwCl [(o, Sum.inr (0, [Value.ref a_chosen, Value.int v_bestCost, Value.ref a_felt, Value.ref a_own, Value.ref a_share, Value.ref a_rest, Value.ref a_left, Value.ref a_tried, Value.int v_signs, Value.int v_lines, Value.int v_most])), (a_felt, Sum.inl (k_a_felt, 21, Sum.inl f_a_felt)), (p0, Sum.inr (3, [Value.int p0_v_signs, Value.int p0_v_works, Value.int p0_v_whole, Value.int p0_v_otherwise, Value.int p0_v_least, Value.int p0_v_rates, Value.ref p0_a_brings, Value.ref p0_a_costs, Value.ref p0_a_chances, Value.ref p0_a_rate, Value.ref p0_a_mark])), (p0_a_rate, Sum.inl (k_p0_a_rate, 3, Sum.inl f_p0_a_rate)), (p0_a_mark, Sum.inl (k_p0_a_mark, 2, Sum.inl f_p0_a_mark))] H := hP
  have hD : va_D A [(o, Sum.inr (0, [Value.ref a_chosen, Value.int v_bestCost, Value.ref a_felt, Value.ref a_own, Value.ref a_share, Value.ref a_rest, Value.ref a_left, Value.ref a_tried, Value.int v_signs, Value.int v_lines, Value.int v_most])), (a_felt, Sum.inl (k_a_felt, 21, Sum.inl f_a_felt)), (p0, Sum.inr (3, [Value.int p0_v_signs, Value.int p0_v_works, Value.int p0_v_whole, Value.int p0_v_otherwise, Value.int p0_v_least, Value.int p0_v_rates, Value.ref p0_a_brings, Value.ref p0_a_costs, Value.ref p0_a_chances, Value.ref p0_a_rate, Value.ref p0_a_mark])), (p0_a_rate, Sum.inl (k_p0_a_rate, 3, Sum.inl f_p0_a_rate)), (p0_a_mark, Sum.inl (k_p0_a_mark, 2, Sum.inl f_p0_a_mark))] := hD
  refine W.widen (k := 0) (n := 0) (by decide) (by decide) ?_
  refine lv_istore_n (lv' := [(2, Value.int r1), (0, Value.ref o), (1, Value.ref p0)]) hx hb dX0_fillFelt_8 rfl hl (by decide) rfl (fun ls hl => ?_)
  refine lv_iconst (v := 0) hx hb dX0_fillFelt_9 (by decide) ?_
  refine lv_istore_n (lv' := [(3, Value.int 0), (2, Value.int r1), (0, Value.ref o), (1, Value.ref p0)]) hx hb dX0_fillFelt_10 rfl hl (by decide) rfl (fun ls hl => ?_)
  refine tl_loop (I := fun nn H locs ls => ∃ (v2 : Int32) (f3 : Nat → Int32), nn = (21 - v2.toInt).toNat ∧ iv v2 0 21 ∧  va_P (dC, dI) vwCl [(o, Sum.inr (0, [Value.ref a_chosen, Value.int v_bestCost, Value.ref a_felt, Value.ref a_own, Value.ref a_share, Value.ref a_rest, Value.ref a_left, Value.ref a_tried, Value.int v_signs, Value.int v_lines, Value.int v_most])), (a_felt, Sum.inl (k_a_felt, 21, Sum.inl f3)), (p0, Sum.inr (3, [Value.int p0_v_signs, Value.int p0_v_works, Value.int p0_v_whole, Value.int p0_v_otherwise, Value.int p0_v_least, Value.int p0_v_rates, Value.ref p0_a_brings, Value.ref p0_a_costs, Value.ref p0_a_chances, Value.ref p0_a_rate, Value.ref p0_a_mark])), (p0_a_rate, Sum.inl (k_p0_a_rate, 3, Sum.inl f_p0_a_rate)), (p0_a_mark, Sum.inl (k_p0_a_mark, 2, Sum.inl f_p0_a_mark))] H ∧ va_D A [(o, Sum.inr (0, [Value.ref a_chosen, Value.int v_bestCost, Value.ref a_felt, Value.ref a_own, Value.ref a_share, Value.ref a_rest, Value.ref a_left, Value.ref a_tried, Value.int v_signs, Value.int v_lines, Value.int v_most])), (a_felt, Sum.inl (k_a_felt, 21, Sum.inl f3)), (p0, Sum.inr (3, [Value.int p0_v_signs, Value.int p0_v_works, Value.int p0_v_whole, Value.int p0_v_otherwise, Value.int p0_v_least, Value.int p0_v_rates, Value.ref p0_a_brings, Value.ref p0_a_costs, Value.ref p0_a_chances, Value.ref p0_a_rate, Value.ref p0_a_mark])), (p0_a_rate, Sum.inl (k_p0_a_rate, 3, Sum.inl f_p0_a_rate)), (p0_a_mark, Sum.inl (k_p0_a_mark, 2, Sum.inl f_p0_a_mark))] ∧ va_S A s.heap H locs ∧ lv_has ls 4 [(3, Value.int v2), (2, Value.int r1), (0, Value.ref o), (1, Value.ref p0)]) ?_ ⟨0, f_a_felt, rfl, (iv.m (by decide)), hP, hD, hS, lv_sub hl [0, 1, 2, 3] rfl⟩
  clear hP hD hS hl
  intro nn11 H locs ls hI ih11
  obtain ⟨v2, f3, hn11, hv2, hP, hD, hS, hl⟩ := hI
  have bv2 := hv2.u
  refine lv_iload_n hx hb dX0_fillFelt_11 rfl (lv_at hl 0 rfl) ?_
  refine lv_bipush (v := 20) hx hb dX0_fillFelt_12 (by decide) ?_
  refine lv_icmp_gt (tgt := 41) hx hb dX0_fillFelt_14 (by decide) (fun c4 => ?_) (fun c4 => ?_)
  · have c49 := i32_lt c4 (show (20 : Int32).toInt = 20 by decide) rfl
    have hP9 := hP.sub (ws' := [(o, Sum.inr (0, [Value.ref a_chosen, Value.int v_bestCost, Value.ref a_felt, Value.ref a_own, Value.ref a_share, Value.ref a_rest, Value.ref a_left, Value.ref a_tried, Value.int v_signs, Value.int v_lines, Value.int v_most])), (a_felt, Sum.inl (k_a_felt, 21, Sum.inl f3)), (p0, Sum.inr (3, [Value.int p0_v_signs, Value.int p0_v_works, Value.int p0_v_whole, Value.int p0_v_otherwise, Value.int p0_v_least, Value.int p0_v_rates, Value.ref p0_a_brings, Value.ref p0_a_costs, Value.ref p0_a_chances, Value.ref p0_a_rate, Value.ref p0_a_mark])), (p0_a_rate, Sum.inl (k_p0_a_rate, 3, Sum.inl f_p0_a_rate)), (p0_a_mark, Sum.inl (k_p0_a_mark, 2, Sum.inl f_p0_a_mark))]) [0, 1, 2, 3, 4] rfl
    have hD9 := hD.sub (ws' := [(o, Sum.inr (0, [Value.ref a_chosen, Value.int v_bestCost, Value.ref a_felt, Value.ref a_own, Value.ref a_share, Value.ref a_rest, Value.ref a_left, Value.ref a_tried, Value.int v_signs, Value.int v_lines, Value.int v_most])), (a_felt, Sum.inl (k_a_felt, 21, Sum.inl f3)), (p0, Sum.inr (3, [Value.int p0_v_signs, Value.int p0_v_works, Value.int p0_v_whole, Value.int p0_v_otherwise, Value.int p0_v_least, Value.int p0_v_rates, Value.ref p0_a_brings, Value.ref p0_a_costs, Value.ref p0_a_chances, Value.ref p0_a_rate, Value.ref p0_a_mark])), (p0_a_rate, Sum.inl (k_p0_a_rate, 3, Sum.inl f_p0_a_rate)), (p0_a_mark, Sum.inl (k_p0_a_mark, 2, Sum.inl f_p0_a_mark))]) [0, 1, 2, 3, 4] (by decide) rfl
    exact W.vret hx hb hr (fun t ht hW => ⟨⟨(), rfl, trivial, f3, by rw [ht]; exact hP9, hD9⟩, hS.F ht⟩) hS.2.2 dX0_fillFelt_41
  · have c49 := i32_nlt c4 (show (20 : Int32).toInt = 20 by decide) rfl
    refine lv_aload_n hx hb dX0_fillFelt_17 rfl (lv_at hl 2 rfl) ?_
    refine va_get (D := (dC, dI)) (ci := 0) (v := Value.ref a_felt) (C := RX0) (T := TX0) (N := 11) hx hb hts iw_X0_fillFelt_X0 hown hK hP 0 rfl rfl 2 (by decide) (hts _ kk_X0_fillFelt_1) (fun _ h9 => h9) rfl dX0_fillFelt_18 ?_
    refine lv_iload_n hx hb dX0_fillFelt_21 rfl (lv_at hl 0 rfl) ?_
    refine lv_aload_n hx hb dX0_fillFelt_22 rfl (lv_at hl 3 rfl) ?_
    refine lv_aload_n hx hb dX0_fillFelt_23 rfl (lv_at hl 3 rfl) ?_
    refine va_get (D := (dC, dI)) (ci := 3) (v := Value.int p0_v_least) (C := RX3) (T := TX3) (N := 11) hx hb hts iw_X0_fillFelt_X3 hown hK hP 2 rfl rfl 4 (by decide) (hts _ kk_X0_fillFelt_0) (fun _ h9 => h9) rfl dX0_fillFelt_24 ?_
    refine lv_iload_n hx hb dX0_fillFelt_27 rfl (lv_at hl 0 rfl) ?_
    refine lv_iadd hx hb dX0_fillFelt_28 ?_
    refine lv_topi (fun x5 ex5 => ?_)
    have hPc := hP.sub (ws' := [(p0, Sum.inr (3, [Value.int p0_v_signs, Value.int p0_v_works, Value.int p0_v_whole, Value.int p0_v_otherwise, Value.int p0_v_least, Value.int p0_v_rates, Value.ref p0_a_brings, Value.ref p0_a_costs, Value.ref p0_a_chances, Value.ref p0_a_rate, Value.ref p0_a_mark])), (p0_a_rate, Sum.inl (k_p0_a_rate, 3, Sum.inl f_p0_a_rate)), (p0_a_mark, Sum.inl (k_p0_a_mark, 2, Sum.inl f_p0_a_mark))]) [2, 3, 4] rfl
    have hDc := hD.sub (ws' := [(p0, Sum.inr (3, [Value.int p0_v_signs, Value.int p0_v_works, Value.int p0_v_whole, Value.int p0_v_otherwise, Value.int p0_v_least, Value.int p0_v_rates, Value.ref p0_a_brings, Value.ref p0_a_costs, Value.ref p0_a_chances, Value.ref p0_a_rate, Value.ref p0_a_mark])), (p0_a_rate, Sum.inl (k_p0_a_rate, 3, Sum.inl f_p0_a_rate)), (p0_a_mark, Sum.inl (k_p0_a_mark, 2, Sum.inl f_p0_a_mark))]) [2, 3, 4] (by decide) rfl
    have hKc := hK.sub (tys' := [(k_p0_a_rate, FieldType.int), (k_p0_a_mark, FieldType.int)]) [1, 2] rfl
    have hFc := va_free (wc := [(p0, Sum.inr (3, [Value.int p0_v_signs, Value.int p0_v_works, Value.int p0_v_whole, Value.int p0_v_otherwise, Value.int p0_v_least, Value.int p0_v_rates, Value.ref p0_a_brings, Value.ref p0_a_costs, Value.ref p0_a_chances, Value.ref p0_a_rate, Value.ref p0_a_mark])), (p0_a_rate, Sum.inl (k_p0_a_rate, 3, Sum.inl f_p0_a_rate)), (p0_a_mark, Sum.inl (k_p0_a_mark, 2, Sum.inl f_p0_a_mark))]) hD hS hA [2, 3, 4] rfl
    refine va_calli (va_runV (As := [Value.int x5]) (rest := [Value.int v2, Value.ref a_felt]) ⟨hx, hb, hml, hown, hts⟩ (ct_X3_feltOf l dC dI p0 x5 p0_v_signs p0_v_works p0_v_whole p0_v_otherwise p0_v_least p0_v_rates p0_a_brings p0_a_costs p0_a_chances p0_a_rate p0_a_mark k_p0_a_rate f_p0_a_rate k_p0_a_mark f_p0_a_mark hp0_v_rates H.size) (cwV 1 hts gX0_fillFelt_X3_feltOf rfl rfl rfl ⟨rfl, cn_X3.1, cn_X3.2, ds_5⟩ ⟨Nat.le_of_ble_eq_true rfl, Nat.le_of_ble_eq_true rfl⟩) ⟨fun a U g mk q => by obtain ⟨q0, q1, qP, qK, qD⟩ := q; exact ⟨q0, q1, qP, va_K.moved (u := U) (U := U.calling g mk a) (Vm.Alike.refl U.vm) qK, qD⟩, va_recv hKc hPc (ci := 3) (q0 := 0) rfl rfl, fun U hU hW => ⟨rfl, by rw [hU], by rw [hU]; exact hPc, va_K.moved hW.alike hKc, hDc.weaken (fun _ _ _ _ => trivial)⟩⟩ rfl rfl hl.1 rfl (lv_room (Nat.le_of_ble_eq_true rfl)) dX0_fillFelt_29 ⟨Nat.le_of_ble_eq_true rfl, Nat.le_of_ble_eq_true rfl⟩) hS (fun q _ h => hFc q h) hFc (fun r6 u t H1 locs ht hvm hw hB hz1 hk1 hS => ?_)
    have hw : r6 = u := hw.symm
    subst hw
    obtain ⟨hP1, hD1⟩ := hB
    rw [ht] at hP1
    obtain ⟨hP, hD⟩ := va_join (wr := [(o, Sum.inr (0, [Value.ref a_chosen, Value.int v_bestCost, Value.ref a_felt, Value.ref a_own, Value.ref a_share, Value.ref a_rest, Value.ref a_left, Value.ref a_tried, Value.int v_signs, Value.int v_lines, Value.int v_most])), (a_felt, Sum.inl (k_a_felt, 21, Sum.inl f3))]) (w1 := [(p0, Sum.inr (3, [Value.int p0_v_signs, Value.int p0_v_works, Value.int p0_v_whole, Value.int p0_v_otherwise, Value.int p0_v_least, Value.int p0_v_rates, Value.ref p0_a_brings, Value.ref p0_a_costs, Value.ref p0_a_chances, Value.ref p0_a_rate, Value.ref p0_a_mark])), (p0_a_rate, Sum.inl (k_p0_a_rate, 3, Sum.inl f_p0_a_rate)), (p0_a_mark, Sum.inl (k_p0_a_mark, 2, Sum.inl f_p0_a_mark))]) hP hD [2, 3, 4] [0, 1] rfl rfl (by decide) (by decide) hk1 hFc hP1 hD1
    clear hPc hDc hKc hFc hP1 hD1 hk1 hz1
    generalize H1 = H at hP hS ⊢
    have hP : va_P (dC, dI) vwCl [(o, Sum.inr (0, [Value.ref a_chosen, Value.int v_bestCost, Value.ref a_felt, Value.ref a_own, Value.ref a_share, Value.ref a_rest, Value.ref a_left, Value.ref a_tried, Value.int v_signs, Value.int v_lines, Value.int v_most])), (a_felt, Sum.inl (k_a_felt, 21, Sum.inl f3)), (p0, Sum.inr (3, [Value.int p0_v_signs, Value.int p0_v_works, Value.int p0_v_whole, Value.int p0_v_otherwise, Value.int p0_v_least, Value.int p0_v_rates, Value.ref p0_a_brings, Value.ref p0_a_costs, Value.ref p0_a_chances, Value.ref p0_a_rate, Value.ref p0_a_mark])), (p0_a_rate, Sum.inl (k_p0_a_rate, 3, Sum.inl f_p0_a_rate)), (p0_a_mark, Sum.inl (k_p0_a_mark, 2, Sum.inl f_p0_a_mark))] H := hP
    have hD : va_D A [(o, Sum.inr (0, [Value.ref a_chosen, Value.int v_bestCost, Value.ref a_felt, Value.ref a_own, Value.ref a_share, Value.ref a_rest, Value.ref a_left, Value.ref a_tried, Value.int v_signs, Value.int v_lines, Value.int v_most])), (a_felt, Sum.inl (k_a_felt, 21, Sum.inl f3)), (p0, Sum.inr (3, [Value.int p0_v_signs, Value.int p0_v_works, Value.int p0_v_whole, Value.int p0_v_otherwise, Value.int p0_v_least, Value.int p0_v_rates, Value.ref p0_a_brings, Value.ref p0_a_costs, Value.ref p0_a_chances, Value.ref p0_a_rate, Value.ref p0_a_mark])), (p0_a_rate, Sum.inl (k_p0_a_rate, 3, Sum.inl f_p0_a_rate)), (p0_a_mark, Sum.inl (k_p0_a_mark, 2, Sum.inl f_p0_a_mark))] := hD
    refine W.widen (k := 0) (n := 0) (by decide) (by decide) ?_
    refine lv_iload_n hx hb dX0_fillFelt_32 rfl (lv_at hl 1 rfl) ?_
    refine lv_isub hx hb dX0_fillFelt_33 ?_
    refine lv_topi (fun x7 ex7 => ?_)
    refine va_iast hx hb hK hP hD hS 1 0 rfl rfl (vq_in v2 21 (by omega)) dX0_fillFelt_34 (fun H locs hP hD hS => ?_)
    have hP : va_P (dC, dI) vwCl [(o, Sum.inr (0, [Value.ref a_chosen, Value.int v_bestCost, Value.ref a_felt, Value.ref a_own, Value.ref a_share, Value.ref a_rest, Value.ref a_left, Value.ref a_tried, Value.int v_signs, Value.int v_lines, Value.int v_most])), (a_felt, Sum.inl (k_a_felt, 21, Sum.inl (upd f3 (Int32.toNatClampNeg v2) x7))), (p0, Sum.inr (3, [Value.int p0_v_signs, Value.int p0_v_works, Value.int p0_v_whole, Value.int p0_v_otherwise, Value.int p0_v_least, Value.int p0_v_rates, Value.ref p0_a_brings, Value.ref p0_a_costs, Value.ref p0_a_chances, Value.ref p0_a_rate, Value.ref p0_a_mark])), (p0_a_rate, Sum.inl (k_p0_a_rate, 3, Sum.inl f_p0_a_rate)), (p0_a_mark, Sum.inl (k_p0_a_mark, 2, Sum.inl f_p0_a_mark))] H := hP
    have hD : va_D A [(o, Sum.inr (0, [Value.ref a_chosen, Value.int v_bestCost, Value.ref a_felt, Value.ref a_own, Value.ref a_share, Value.ref a_rest, Value.ref a_left, Value.ref a_tried, Value.int v_signs, Value.int v_lines, Value.int v_most])), (a_felt, Sum.inl (k_a_felt, 21, Sum.inl (upd f3 (Int32.toNatClampNeg v2) x7))), (p0, Sum.inr (3, [Value.int p0_v_signs, Value.int p0_v_works, Value.int p0_v_whole, Value.int p0_v_otherwise, Value.int p0_v_least, Value.int p0_v_rates, Value.ref p0_a_brings, Value.ref p0_a_costs, Value.ref p0_a_chances, Value.ref p0_a_rate, Value.ref p0_a_mark])), (p0_a_rate, Sum.inl (k_p0_a_rate, 3, Sum.inl f_p0_a_rate)), (p0_a_mark, Sum.inl (k_p0_a_mark, 2, Sum.inl f_p0_a_mark))] := hD
    have wf8 : (upd f3 (Int32.toNatClampNeg v2) x7) (Int32.toNatClampNeg v2) = x7 := pk_us
    generalize upd f3 (Int32.toNatClampNeg v2) x7 = f8 at hP hD wf8
    have hP : va_P (dC, dI) vwCl [(o, Sum.inr (0, [Value.ref a_chosen, Value.int v_bestCost, Value.ref a_felt, Value.ref a_own, Value.ref a_share, Value.ref a_rest, Value.ref a_left, Value.ref a_tried, Value.int v_signs, Value.int v_lines, Value.int v_most])), (a_felt, Sum.inl (k_a_felt, 21, Sum.inl f8)), (p0, Sum.inr (3, [Value.int p0_v_signs, Value.int p0_v_works, Value.int p0_v_whole, Value.int p0_v_otherwise, Value.int p0_v_least, Value.int p0_v_rates, Value.ref p0_a_brings, Value.ref p0_a_costs, Value.ref p0_a_chances, Value.ref p0_a_rate, Value.ref p0_a_mark])), (p0_a_rate, Sum.inl (k_p0_a_rate, 3, Sum.inl f_p0_a_rate)), (p0_a_mark, Sum.inl (k_p0_a_mark, 2, Sum.inl f_p0_a_mark))] H := hP
    have hD : va_D A [(o, Sum.inr (0, [Value.ref a_chosen, Value.int v_bestCost, Value.ref a_felt, Value.ref a_own, Value.ref a_share, Value.ref a_rest, Value.ref a_left, Value.ref a_tried, Value.int v_signs, Value.int v_lines, Value.int v_most])), (a_felt, Sum.inl (k_a_felt, 21, Sum.inl f8)), (p0, Sum.inr (3, [Value.int p0_v_signs, Value.int p0_v_works, Value.int p0_v_whole, Value.int p0_v_otherwise, Value.int p0_v_least, Value.int p0_v_rates, Value.ref p0_a_brings, Value.ref p0_a_costs, Value.ref p0_a_chances, Value.ref p0_a_rate, Value.ref p0_a_mark])), (p0_a_rate, Sum.inl (k_p0_a_rate, 3, Sum.inl f_p0_a_rate)), (p0_a_mark, Sum.inl (k_p0_a_mark, 2, Sum.inl f_p0_a_mark))] := hD
    obtain ⟨x9, ex9⟩ : ∃ z : Int32, v2 + Int32.ofInt 1 = z := ⟨_, rfl⟩
    have tx9 := i32_inc ex9 rfl (by decide) (by omega) (by omega)
    refine lv_iinc (v := x9) (lv' := [(3, Value.int x9), (2, Value.int r1), (0, Value.ref o), (1, Value.ref p0)]) hx hb dX0_fillFelt_35 hl (k := 0) rfl ex9 (by decide) rfl (fun ls hl => ?_)
    refine lv_goto (tgt := 11) hx hb dX0_fillFelt_38 (by decide) ?_
    exact ih11 _ _ _ _ (by omega) ⟨x9, f8, rfl, (iv.m (by omega)), hP, hD, hS, lv_sub hl [0, 1, 2, 3] rfl⟩

set_option maxHeartbeats 4000000 in
set_option maxRecDepth 100000 in
theorem ct_X0_isShort (l : Launch) (dC : Nat → ClassId) (dI : Nat → Nat → Nat) (o : Nat) (p0 : Int32) (p1 : Int32) (p2 : Int32) (a_chosen : Nat) (v_bestCost : Int32) (a_felt : Nat) (a_own : Nat) (a_share : Nat) (a_rest : Nat) (a_left : Nat) (a_tried : Nat) (v_signs : Int32) (v_lines : Int32) (v_most : Int32) (k_a_felt : ClassId) (f_a_felt : Nat → Int32) (k_a_share : ClassId) (R_a_share : Nat → Nat) (k_a_rest : ClassId) (R_a_rest : Nat → Nat) (k_a_left : ClassId) (R_a_left : Nat → Nat) (LP : List Nat) (sh : Nat → Nat) (fp : Nat → va_E) (cI : ClassId) (cJ : ClassId) (hp0 : iv p0 0 4) (hp1 : iv p1 0 3) (hp2 : iv p2 0 20) (hfp : pok cI cJ LP sh fp) (hRR_a_share : ∀ i : Nat, i < 5 → R_a_share i ∈ LP ∧ sh (R_a_share i) = 4) (hRR_a_rest : ∀ i : Nat, i < 5 → R_a_rest i ∈ LP ∧ sh (R_a_rest i) = 5) (hRR_a_left : ∀ i : Nat, i < 5 → R_a_left i ∈ LP ∧ sh (R_a_left i) = 5) (sz : Nat) : Met l yX0_isShort wsX0_isShort ({ frames := 0, cells := 0, slots := 0, locals := 0 }) (va_Pc [Value.ref o, Value.int p0, Value.int p1, Value.int p2] (fun U => U.heap.size = sz ∧ va_P (dC, dI) vwCl ([(o, Sum.inr (0, [Value.ref a_chosen, Value.int v_bestCost, Value.ref a_felt, Value.ref a_own, Value.ref a_share, Value.ref a_rest, Value.ref a_left, Value.ref a_tried, Value.int v_signs, Value.int v_lines, Value.int v_most])), (a_felt, Sum.inl (k_a_felt, 21, Sum.inl f_a_felt)), (a_share, Sum.inl (k_a_share, 5, Sum.inr (Sum.inr (Sum.inr (Sum.inr (rows_of 5 R_a_share)))))), (a_rest, Sum.inl (k_a_rest, 5, Sum.inr (Sum.inr (Sum.inr (Sum.inr (rows_of 5 R_a_rest)))))), (a_left, Sum.inl (k_a_left, 5, Sum.inr (Sum.inr (Sum.inr (Sum.inr (rows_of 5 R_a_left))))))] ++ va_pl LP fp) U.heap ∧ va_K (dC, dI) vwCl [(k_a_felt, FieldType.int), (k_a_share, (FieldType.array FieldType.int)), (k_a_rest, (FieldType.array FieldType.int)), (k_a_left, (FieldType.array FieldType.int)), (cI, FieldType.int), (cJ, FieldType.long)] U ∧ va_D (fun _ => True) ([(o, Sum.inr (0, [Value.ref a_chosen, Value.int v_bestCost, Value.ref a_felt, Value.ref a_own, Value.ref a_share, Value.ref a_rest, Value.ref a_left, Value.ref a_tried, Value.int v_signs, Value.int v_lines, Value.int v_most])), (a_felt, Sum.inl (k_a_felt, 21, Sum.inl f_a_felt)), (a_share, Sum.inl (k_a_share, 5, Sum.inr (Sum.inr (Sum.inr (Sum.inr (rows_of 5 R_a_share)))))), (a_rest, Sum.inl (k_a_rest, 5, Sum.inr (Sum.inr (Sum.inr (Sum.inr (rows_of 5 R_a_rest)))))), (a_left, Sum.inl (k_a_left, 5, Sum.inr (Sum.inr (Sum.inr (Sum.inr (rows_of 5 R_a_left))))))] ++ va_pl LP fp))) (va_Qi (fun (r u : Int32) => u = r) (fun (r : Int32) t => ((r = 0) ∨ (r = 1)) ∧ va_P (dC, dI) vwCl ([(o, Sum.inr (0, [Value.ref a_chosen, Value.int v_bestCost, Value.ref a_felt, Value.ref a_own, Value.ref a_share, Value.ref a_rest, Value.ref a_left, Value.ref a_tried, Value.int v_signs, Value.int v_lines, Value.int v_most])), (a_felt, Sum.inl (k_a_felt, 21, Sum.inl f_a_felt)), (a_share, Sum.inl (k_a_share, 5, Sum.inr (Sum.inr (Sum.inr (Sum.inr (rows_of 5 R_a_share)))))), (a_rest, Sum.inl (k_a_rest, 5, Sum.inr (Sum.inr (Sum.inr (Sum.inr (rows_of 5 R_a_rest)))))), (a_left, Sum.inl (k_a_left, 5, Sum.inr (Sum.inr (Sum.inr (Sum.inr (rows_of 5 R_a_left))))))] ++ va_pl LP fp) t.heap ∧ va_D (va_A ([(o, Sum.inr (0, [Value.ref a_chosen, Value.int v_bestCost, Value.ref a_felt, Value.ref a_own, Value.ref a_share, Value.ref a_rest, Value.ref a_left, Value.ref a_tried, Value.int v_signs, Value.int v_lines, Value.int v_most])), (a_felt, Sum.inl (k_a_felt, 21, Sum.inl f_a_felt)), (a_share, Sum.inl (k_a_share, 5, Sum.inr (Sum.inr (Sum.inr (Sum.inr (rows_of 5 R_a_share)))))), (a_rest, Sum.inl (k_a_rest, 5, Sum.inr (Sum.inr (Sum.inr (Sum.inr (rows_of 5 R_a_rest)))))), (a_left, Sum.inl (k_a_left, 5, Sum.inr (Sum.inr (Sum.inr (Sum.inr (rows_of 5 R_a_left))))))] ++ va_pl LP fp) sz) ([(o, Sum.inr (0, [Value.ref a_chosen, Value.int v_bestCost, Value.ref a_felt, Value.ref a_own, Value.ref a_share, Value.ref a_rest, Value.ref a_left, Value.ref a_tried, Value.int v_signs, Value.int v_lines, Value.int v_most])), (a_felt, Sum.inl (k_a_felt, 21, Sum.inl f_a_felt)), (a_share, Sum.inl (k_a_share, 5, Sum.inr (Sum.inr (Sum.inr (Sum.inr (rows_of 5 R_a_share)))))), (a_rest, Sum.inl (k_a_rest, 5, Sum.inr (Sum.inr (Sum.inr (Sum.inr (rows_of 5 R_a_rest)))))), (a_left, Sum.inl (k_a_left, 5, Sum.inr (Sum.inr (Sum.inr (Sum.inr (rows_of 5 R_a_left))))))] ++ va_pl LP fp)) (va_A ([(o, Sum.inr (0, [Value.ref a_chosen, Value.int v_bestCost, Value.ref a_felt, Value.ref a_own, Value.ref a_share, Value.ref a_rest, Value.ref a_left, Value.ref a_tried, Value.int v_signs, Value.int v_lines, Value.int v_most])), (a_felt, Sum.inl (k_a_felt, 21, Sum.inl f_a_felt)), (a_share, Sum.inl (k_a_share, 5, Sum.inr (Sum.inr (Sum.inr (Sum.inr (rows_of 5 R_a_share)))))), (a_rest, Sum.inl (k_a_rest, 5, Sum.inr (Sum.inr (Sum.inr (Sum.inr (rows_of 5 R_a_rest)))))), (a_left, Sum.inl (k_a_left, 5, Sum.inr (Sum.inr (Sum.inr (Sum.inr (rows_of 5 R_a_left))))))] ++ va_pl LP fp) sz)) 0 0 (va_A ([(o, Sum.inr (0, [Value.ref a_chosen, Value.int v_bestCost, Value.ref a_felt, Value.ref a_own, Value.ref a_share, Value.ref a_rest, Value.ref a_left, Value.ref a_tried, Value.int v_signs, Value.int v_lines, Value.int v_most])), (a_felt, Sum.inl (k_a_felt, 21, Sum.inl f_a_felt)), (a_share, Sum.inl (k_a_share, 5, Sum.inr (Sum.inr (Sum.inr (Sum.inr (rows_of 5 R_a_share)))))), (a_rest, Sum.inl (k_a_rest, 5, Sum.inr (Sum.inr (Sum.inr (Sum.inr (rows_of 5 R_a_rest)))))), (a_left, Sum.inl (k_a_left, 5, Sum.inr (Sum.inr (Sum.inr (Sum.inr (rows_of 5 R_a_left))))))] ++ va_pl LP fp) sz) := by
  refine Met.ofW (cc := cX0_isShort) (maxL := 4) (ret := (some .boolean)) pn_X0 rfl ?_
  intro p e s m args below meth c s₁ B hml hv
  obtain ⟨rfl, hsz, hP, hK, hD0⟩ := hv
  have hx := B.exec
  have hb := B.bytes
  have hr := B.returns
  have hts := atoms_spec (ws := wsX0_isShort) B.pre
  have hown : s.vm.findClass RX0 = some m.cls := findClass_of_methodNamed B.named
  have hlocks := B.notSynchronized
  subst hsz
  have hD := hD0.self (sz := s.heap.size)
  generalize hAe : va_A ([(o, Sum.inr (0, [Value.ref a_chosen, Value.int v_bestCost, Value.ref a_felt, Value.ref a_own, Value.ref a_share, Value.ref a_rest, Value.ref a_left, Value.ref a_tried, Value.int v_signs, Value.int v_lines, Value.int v_most])), (a_felt, Sum.inl (k_a_felt, 21, Sum.inl f_a_felt)), (a_share, Sum.inl (k_a_share, 5, Sum.inr (Sum.inr (Sum.inr (Sum.inr (rows_of 5 R_a_share)))))), (a_rest, Sum.inl (k_a_rest, 5, Sum.inr (Sum.inr (Sum.inr (Sum.inr (rows_of 5 R_a_rest)))))), (a_left, Sum.inl (k_a_left, 5, Sum.inr (Sum.inr (Sum.inr (Sum.inr (rows_of 5 R_a_left))))))] ++ va_pl LP fp) s.heap.size = A at hD ⊢
  have hA : ∀ q : Nat, s.heap.size ≤ q → A q := fun q h => by rw [← hAe]; exact Or.inr h
  have hS : va_S A s.heap s.heap [] := va_S.rf
  have hP : va_P (dC, dI) vwCl ([(o, Sum.inr (0, [Value.ref a_chosen, Value.int v_bestCost, Value.ref a_felt, Value.ref a_own, Value.ref a_share, Value.ref a_rest, Value.ref a_left, Value.ref a_tried, Value.int v_signs, Value.int v_lines, Value.int v_most])), (a_felt, Sum.inl (k_a_felt, 21, Sum.inl f_a_felt)), (a_share, Sum.inl (k_a_share, 5, Sum.inr (Sum.inr (Sum.inr (Sum.inr (rows_of 5 R_a_share)))))), (a_rest, Sum.inl (k_a_rest, 5, Sum.inr (Sum.inr (Sum.inr (Sum.inr (rows_of 5 R_a_rest)))))), (a_left, Sum.inl (k_a_left, 5, Sum.inr (Sum.inr (Sum.inr (Sum.inr (rows_of 5 R_a_left))))))] ++ va_pl LP fp) s.heap := hP
  have hl := lv_entry ([Value.ref o, Value.int p0, Value.int p1, Value.int p2]) (n := 4) (Nat.le_of_ble_eq_true rfl)
  rw [lg_entry_eq]
  generalize (lg_sl ([Value.ref o, Value.int p0, Value.int p1, Value.int p2]) ++ List.replicate (4 - (lg_sl ([Value.ref o, Value.int p0, Value.int p1, Value.int p2])).length) Slot.unset).toArray = ls at hl ⊢
  have hl : lv_has ls 4 [(0, Value.ref o), (1, Value.int p0), (2, Value.int p1), (3, Value.int p2)] := hl
  refine lv_aload_n hx hb dX0_isShort_0 rfl (lv_at hl 0 rfl) ?_
  refine va_get (D := (dC, dI)) (ci := 0) (v := Value.ref a_left) (C := RX0) (T := TX0) (N := 11) hx hb hts iw_X0_isShort_X0 hown hK hP 0 rfl rfl 6 (by decide) (hts _ kk_X0_isShort_0) (fun _ h9 => h9) rfl dX0_isShort_1 ?_
  refine lv_iload_n hx hb dX0_isShort_4 rfl (lv_at hl 2 rfl) ?_
  have bp1 := hp1.u
  have hinrw1 : vp_in p1 5 := (vq_in p1 5 (by omega))
  refine va_aldA hx hb hK hP 4 3 rfl rfl hinrw1 dX0_isShort_5 ?_
  refine px_v (row_sel hinrw1) ?_
  obtain ⟨rw1, erw1⟩ : ∃ z : Nat, z = R_a_left (Int32.toNatClampNeg p1) := ⟨_, rfl⟩
  rw [← erw1]
  have mrw1 : rw1 ∈ LP ∧ sh rw1 = 5 := by rw [erw1]; exact hRR_a_left _ (vin_lt hinrw1)
  refine lv_iload_n hx hb dX0_isShort_6 rfl (lv_at hl 1 rfl) ?_
  have bp0 := hp0.u
  obtain ⟨gk2, hgk2⟩ := pok_5 (hfp) mrw1
  obtain ⟨kk3, hkk3⟩ := va_pl_get (X := [(o, Sum.inr (0, [Value.ref a_chosen, Value.int v_bestCost, Value.ref a_felt, Value.ref a_own, Value.ref a_share, Value.ref a_rest, Value.ref a_left, Value.ref a_tried, Value.int v_signs, Value.int v_lines, Value.int v_most])), (a_felt, Sum.inl (k_a_felt, 21, Sum.inl f_a_felt)), (a_share, Sum.inl (k_a_share, 5, Sum.inr (Sum.inr (Sum.inr (Sum.inr (rows_of 5 R_a_share)))))), (a_rest, Sum.inl (k_a_rest, 5, Sum.inr (Sum.inr (Sum.inr (Sum.inr (rows_of 5 R_a_rest)))))), (a_left, Sum.inl (k_a_left, 5, Sum.inr (Sum.inr (Sum.inr (Sum.inr (rows_of 5 R_a_left))))))]) (f := fp) mrw1.1
  have qkk3 := hkk3
  rw [hgk2] at qkk3
  refine va_iald hx hb hK hP kk3 4 qkk3 rfl (vq_in p0 5 (by omega)) dX0_isShort_7 ?_
  refine lv_topi (fun x4 ex4 => ?_)
  refine lv_aload_n hx hb dX0_isShort_8 rfl (lv_at hl 0 rfl) ?_
  refine va_get (D := (dC, dI)) (ci := 0) (v := Value.ref a_share) (C := RX0) (T := TX0) (N := 11) hx hb hts iw_X0_isShort_X0 hown hK hP 0 rfl rfl 4 (by decide) (hts _ kk_X0_isShort_1) (fun _ h9 => h9) rfl dX0_isShort_9 ?_
  refine lv_iload_n hx hb dX0_isShort_12 rfl (lv_at hl 1 rfl) ?_
  have hinrw5 : vp_in p0 5 := (vq_in p0 5 (by omega))
  refine va_aldA hx hb hK hP 2 1 rfl rfl hinrw5 dX0_isShort_13 ?_
  refine px_v (row_sel hinrw5) ?_
  obtain ⟨rw5, erw5⟩ : ∃ z : Nat, z = R_a_share (Int32.toNatClampNeg p0) := ⟨_, rfl⟩
  rw [← erw5]
  have mrw5 : rw5 ∈ LP ∧ sh rw5 = 4 := by rw [erw5]; exact hRR_a_share _ (vin_lt hinrw5)
  refine lv_iload_n hx hb dX0_isShort_14 rfl (lv_at hl 2 rfl) ?_
  obtain ⟨gk6, hgk6⟩ := pok_4 (hfp) mrw5
  obtain ⟨kk7, hkk7⟩ := va_pl_get (X := [(o, Sum.inr (0, [Value.ref a_chosen, Value.int v_bestCost, Value.ref a_felt, Value.ref a_own, Value.ref a_share, Value.ref a_rest, Value.ref a_left, Value.ref a_tried, Value.int v_signs, Value.int v_lines, Value.int v_most])), (a_felt, Sum.inl (k_a_felt, 21, Sum.inl f_a_felt)), (a_share, Sum.inl (k_a_share, 5, Sum.inr (Sum.inr (Sum.inr (Sum.inr (rows_of 5 R_a_share)))))), (a_rest, Sum.inl (k_a_rest, 5, Sum.inr (Sum.inr (Sum.inr (Sum.inr (rows_of 5 R_a_rest)))))), (a_left, Sum.inl (k_a_left, 5, Sum.inr (Sum.inr (Sum.inr (Sum.inr (rows_of 5 R_a_left))))))]) (f := fp) mrw5.1
  have qkk7 := hkk7
  rw [hgk6] at qkk7
  refine va_iald hx hb hK hP kk7 4 qkk7 rfl (vq_in p1 4 (by omega)) dX0_isShort_15 ?_
  refine lv_topi (fun x8 ex8 => ?_)
  refine lv_aload_n hx hb dX0_isShort_16 rfl (lv_at hl 0 rfl) ?_
  refine va_get (D := (dC, dI)) (ci := 0) (v := Value.ref a_felt) (C := RX0) (T := TX0) (N := 11) hx hb hts iw_X0_isShort_X0 hown hK hP 0 rfl rfl 2 (by decide) (hts _ kk_X0_isShort_2) (fun _ h9 => h9) rfl dX0_isShort_17 ?_
  refine lv_iload_n hx hb dX0_isShort_20 rfl (lv_at hl 3 rfl) ?_
  have bp2 := hp2.u
  refine va_iald hx hb hK hP 1 0 rfl rfl (vq_in p2 21 (by omega)) dX0_isShort_21 ?_
  refine lv_topi (fun x9 ex9 => ?_)
  refine lv_imul hx hb dX0_isShort_22 ?_
  refine lv_topi (fun x10 ex10 => ?_)
  refine lv_aload_n hx hb dX0_isShort_23 rfl (lv_at hl 0 rfl) ?_
  refine va_get (D := (dC, dI)) (ci := 0) (v := Value.ref a_rest) (C := RX0) (T := TX0) (N := 11) hx hb hts iw_X0_isShort_X0 hown hK hP 0 rfl rfl 5 (by decide) (hts _ kk_X0_isShort_3) (fun _ h9 => h9) rfl dX0_isShort_24 ?_
  refine lv_iload_n hx hb dX0_isShort_27 rfl (lv_at hl 1 rfl) ?_
  have hinrw11 : vp_in p0 5 := (vq_in p0 5 (by omega))
  refine va_aldA hx hb hK hP 3 2 rfl rfl hinrw11 dX0_isShort_28 ?_
  refine px_v (row_sel hinrw11) ?_
  obtain ⟨rw11, erw11⟩ : ∃ z : Nat, z = R_a_rest (Int32.toNatClampNeg p0) := ⟨_, rfl⟩
  rw [← erw11]
  have mrw11 : rw11 ∈ LP ∧ sh rw11 = 5 := by rw [erw11]; exact hRR_a_rest _ (vin_lt hinrw11)
  refine lv_iload_n hx hb dX0_isShort_29 rfl (lv_at hl 2 rfl) ?_
  refine lv_iconst (v := 1) hx hb dX0_isShort_30 (by decide) ?_
  refine lv_iadd hx hb dX0_isShort_31 ?_
  refine lv_topi (fun x12 ex12 => ?_)
  have tx12 := i32_add ex12 rfl (show (1 : Int32).toInt = 1 by decide) (by omega) (by omega)
  obtain ⟨gk13, hgk13⟩ := pok_5 (hfp) mrw11
  obtain ⟨kk14, hkk14⟩ := va_pl_get (X := [(o, Sum.inr (0, [Value.ref a_chosen, Value.int v_bestCost, Value.ref a_felt, Value.ref a_own, Value.ref a_share, Value.ref a_rest, Value.ref a_left, Value.ref a_tried, Value.int v_signs, Value.int v_lines, Value.int v_most])), (a_felt, Sum.inl (k_a_felt, 21, Sum.inl f_a_felt)), (a_share, Sum.inl (k_a_share, 5, Sum.inr (Sum.inr (Sum.inr (Sum.inr (rows_of 5 R_a_share)))))), (a_rest, Sum.inl (k_a_rest, 5, Sum.inr (Sum.inr (Sum.inr (Sum.inr (rows_of 5 R_a_rest)))))), (a_left, Sum.inl (k_a_left, 5, Sum.inr (Sum.inr (Sum.inr (Sum.inr (rows_of 5 R_a_left))))))]) (f := fp) mrw11.1
  have qkk14 := hkk14
  rw [hgk13] at qkk14
  refine va_iald hx hb hK hP kk14 4 qkk14 rfl (vq_in x12 5 (by omega)) dX0_isShort_32 ?_
  refine lv_topi (fun x15 ex15 => ?_)
  refine lv_iadd hx hb dX0_isShort_33 ?_
  refine lv_topi (fun x16 ex16 => ?_)
  have bx4 := i32_rng x4
  have bx16 := i32_rng x16
  refine lv_icmp_le (tgt := 41) hx hb dX0_isShort_34 (by decide) (fun c17 => ?_) (fun c17 => ?_)
  · have c179 := i32_le c17 rfl rfl
    refine lv_iconst (v := 0) hx hb dX0_isShort_41 (by decide) ?_
    have hP9 := hP.part (cx := [(o, Sum.inr (0, [Value.ref a_chosen, Value.int v_bestCost, Value.ref a_felt, Value.ref a_own, Value.ref a_share, Value.ref a_rest, Value.ref a_left, Value.ref a_tried, Value.int v_signs, Value.int v_lines, Value.int v_most])), (a_felt, Sum.inl (k_a_felt, 21, Sum.inl f_a_felt)), (a_share, Sum.inl (k_a_share, 5, Sum.inr (Sum.inr (Sum.inr (Sum.inr (rows_of 5 R_a_share)))))), (a_rest, Sum.inl (k_a_rest, 5, Sum.inr (Sum.inr (Sum.inr (Sum.inr (rows_of 5 R_a_rest)))))), (a_left, Sum.inl (k_a_left, 5, Sum.inr (Sum.inr (Sum.inr (Sum.inr (rows_of 5 R_a_left))))))]) [0, 1, 2, 3, 4] rfl
    have hD9 := hD.part (cx := [(o, Sum.inr (0, [Value.ref a_chosen, Value.int v_bestCost, Value.ref a_felt, Value.ref a_own, Value.ref a_share, Value.ref a_rest, Value.ref a_left, Value.ref a_tried, Value.int v_signs, Value.int v_lines, Value.int v_most])), (a_felt, Sum.inl (k_a_felt, 21, Sum.inl f_a_felt)), (a_share, Sum.inl (k_a_share, 5, Sum.inr (Sum.inr (Sum.inr (Sum.inr (rows_of 5 R_a_share)))))), (a_rest, Sum.inl (k_a_rest, 5, Sum.inr (Sum.inr (Sum.inr (Sum.inr (rows_of 5 R_a_rest)))))), (a_left, Sum.inl (k_a_left, 5, Sum.inr (Sum.inr (Sum.inr (Sum.inr (rows_of 5 R_a_left))))))]) [0, 1, 2, 3, 4] (by decide) rfl
    exact W.zret (v := 0) hx hb hr rfl (fun t ht hW => ⟨⟨0, 0, rfl, rfl, (Or.inl rfl), by rw [ht]; exact hP9, hD9⟩, hS.F ht⟩) hS.2.2 dX0_isShort_42
  · have c179 := i32_nle c17 rfl rfl
    refine lv_iconst (v := 1) hx hb dX0_isShort_37 (by decide) ?_
    refine lv_goto (tgt := 42) hx hb dX0_isShort_38 (by decide) ?_
    have hP9 := hP.part (cx := [(o, Sum.inr (0, [Value.ref a_chosen, Value.int v_bestCost, Value.ref a_felt, Value.ref a_own, Value.ref a_share, Value.ref a_rest, Value.ref a_left, Value.ref a_tried, Value.int v_signs, Value.int v_lines, Value.int v_most])), (a_felt, Sum.inl (k_a_felt, 21, Sum.inl f_a_felt)), (a_share, Sum.inl (k_a_share, 5, Sum.inr (Sum.inr (Sum.inr (Sum.inr (rows_of 5 R_a_share)))))), (a_rest, Sum.inl (k_a_rest, 5, Sum.inr (Sum.inr (Sum.inr (Sum.inr (rows_of 5 R_a_rest)))))), (a_left, Sum.inl (k_a_left, 5, Sum.inr (Sum.inr (Sum.inr (Sum.inr (rows_of 5 R_a_left))))))]) [0, 1, 2, 3, 4] rfl
    have hD9 := hD.part (cx := [(o, Sum.inr (0, [Value.ref a_chosen, Value.int v_bestCost, Value.ref a_felt, Value.ref a_own, Value.ref a_share, Value.ref a_rest, Value.ref a_left, Value.ref a_tried, Value.int v_signs, Value.int v_lines, Value.int v_most])), (a_felt, Sum.inl (k_a_felt, 21, Sum.inl f_a_felt)), (a_share, Sum.inl (k_a_share, 5, Sum.inr (Sum.inr (Sum.inr (Sum.inr (rows_of 5 R_a_share)))))), (a_rest, Sum.inl (k_a_rest, 5, Sum.inr (Sum.inr (Sum.inr (Sum.inr (rows_of 5 R_a_rest)))))), (a_left, Sum.inl (k_a_left, 5, Sum.inr (Sum.inr (Sum.inr (Sum.inr (rows_of 5 R_a_left))))))]) [0, 1, 2, 3, 4] (by decide) rfl
    exact W.zret (v := 1) hx hb hr rfl (fun t ht hW => ⟨⟨1, 1, rfl, rfl, (Or.inr (rfl)), by rw [ht]; exact hP9, hD9⟩, hS.F ht⟩) hS.2.2 dX0_isShort_42

set_option maxHeartbeats 4000000 in
set_option maxRecDepth 100000 in
theorem ct_X0_lastCoin (l : Launch) (dC : Nat → ClassId) (dI : Nat → Nat → Nat) (o : Nat) (p0 : Int32) (a_chosen : Nat) (v_bestCost : Int32) (a_felt : Nat) (a_own : Nat) (a_share : Nat) (a_rest : Nat) (a_left : Nat) (a_tried : Nat) (v_signs : Int32) (v_lines : Int32) (v_most : Int32) (k_a_felt : ClassId) (f_a_felt : Nat → Int32) (k_a_own : ClassId) (f_a_own : Nat → Int32) (k_a_share : ClassId) (R_a_share : Nat → Nat) (k_a_rest : ClassId) (R_a_rest : Nat → Nat) (k_a_left : ClassId) (R_a_left : Nat → Nat) (LP : List Nat) (sh : Nat → Nat) (fp : Nat → va_E) (cI : ClassId) (cJ : ClassId) (hp0 : iv p0 0 3) (hv_lines : iv v_lines 0 5) (hv_most : iv v_most 0 20) (hfp : pok cI cJ LP sh fp) (hRR_a_share : ∀ i : Nat, i < 5 → R_a_share i ∈ LP ∧ sh (R_a_share i) = 4) (hRR_a_rest : ∀ i : Nat, i < 5 → R_a_rest i ∈ LP ∧ sh (R_a_rest i) = 5) (hRR_a_left : ∀ i : Nat, i < 5 → R_a_left i ∈ LP ∧ sh (R_a_left i) = 5) (sz : Nat) : Met l yX0_lastCoin wsX0_lastCoin ({ frames := 1, cells := 0, slots := 0, locals := 23 }) (va_Pc [Value.ref o, Value.int p0] (fun U => U.heap.size = sz ∧ va_P (dC, dI) vwCl ([(o, Sum.inr (0, [Value.ref a_chosen, Value.int v_bestCost, Value.ref a_felt, Value.ref a_own, Value.ref a_share, Value.ref a_rest, Value.ref a_left, Value.ref a_tried, Value.int v_signs, Value.int v_lines, Value.int v_most])), (a_felt, Sum.inl (k_a_felt, 21, Sum.inl f_a_felt)), (a_own, Sum.inl (k_a_own, 4, Sum.inl f_a_own)), (a_share, Sum.inl (k_a_share, 5, Sum.inr (Sum.inr (Sum.inr (Sum.inr (rows_of 5 R_a_share)))))), (a_rest, Sum.inl (k_a_rest, 5, Sum.inr (Sum.inr (Sum.inr (Sum.inr (rows_of 5 R_a_rest)))))), (a_left, Sum.inl (k_a_left, 5, Sum.inr (Sum.inr (Sum.inr (Sum.inr (rows_of 5 R_a_left))))))] ++ va_pl LP fp) U.heap ∧ va_K (dC, dI) vwCl [(k_a_felt, FieldType.int), (k_a_own, FieldType.int), (k_a_share, (FieldType.array FieldType.int)), (k_a_rest, (FieldType.array FieldType.int)), (k_a_left, (FieldType.array FieldType.int)), (cI, FieldType.int), (cJ, FieldType.long)] U ∧ va_D (fun _ => True) ([(o, Sum.inr (0, [Value.ref a_chosen, Value.int v_bestCost, Value.ref a_felt, Value.ref a_own, Value.ref a_share, Value.ref a_rest, Value.ref a_left, Value.ref a_tried, Value.int v_signs, Value.int v_lines, Value.int v_most])), (a_felt, Sum.inl (k_a_felt, 21, Sum.inl f_a_felt)), (a_own, Sum.inl (k_a_own, 4, Sum.inl f_a_own)), (a_share, Sum.inl (k_a_share, 5, Sum.inr (Sum.inr (Sum.inr (Sum.inr (rows_of 5 R_a_share)))))), (a_rest, Sum.inl (k_a_rest, 5, Sum.inr (Sum.inr (Sum.inr (Sum.inr (rows_of 5 R_a_rest)))))), (a_left, Sum.inl (k_a_left, 5, Sum.inr (Sum.inr (Sum.inr (Sum.inr (rows_of 5 R_a_left))))))] ++ va_pl LP fp))) (va_Qi (fun (r u : Int32) => u = r) (fun (r : Int32) t => iv r (-1) 20 ∧ va_P (dC, dI) vwCl ([(o, Sum.inr (0, [Value.ref a_chosen, Value.int v_bestCost, Value.ref a_felt, Value.ref a_own, Value.ref a_share, Value.ref a_rest, Value.ref a_left, Value.ref a_tried, Value.int v_signs, Value.int v_lines, Value.int v_most])), (a_felt, Sum.inl (k_a_felt, 21, Sum.inl f_a_felt)), (a_own, Sum.inl (k_a_own, 4, Sum.inl f_a_own)), (a_share, Sum.inl (k_a_share, 5, Sum.inr (Sum.inr (Sum.inr (Sum.inr (rows_of 5 R_a_share)))))), (a_rest, Sum.inl (k_a_rest, 5, Sum.inr (Sum.inr (Sum.inr (Sum.inr (rows_of 5 R_a_rest)))))), (a_left, Sum.inl (k_a_left, 5, Sum.inr (Sum.inr (Sum.inr (Sum.inr (rows_of 5 R_a_left))))))] ++ va_pl LP fp) t.heap ∧ va_D (va_A ([(o, Sum.inr (0, [Value.ref a_chosen, Value.int v_bestCost, Value.ref a_felt, Value.ref a_own, Value.ref a_share, Value.ref a_rest, Value.ref a_left, Value.ref a_tried, Value.int v_signs, Value.int v_lines, Value.int v_most])), (a_felt, Sum.inl (k_a_felt, 21, Sum.inl f_a_felt)), (a_own, Sum.inl (k_a_own, 4, Sum.inl f_a_own)), (a_share, Sum.inl (k_a_share, 5, Sum.inr (Sum.inr (Sum.inr (Sum.inr (rows_of 5 R_a_share)))))), (a_rest, Sum.inl (k_a_rest, 5, Sum.inr (Sum.inr (Sum.inr (Sum.inr (rows_of 5 R_a_rest)))))), (a_left, Sum.inl (k_a_left, 5, Sum.inr (Sum.inr (Sum.inr (Sum.inr (rows_of 5 R_a_left))))))] ++ va_pl LP fp) sz) ([(o, Sum.inr (0, [Value.ref a_chosen, Value.int v_bestCost, Value.ref a_felt, Value.ref a_own, Value.ref a_share, Value.ref a_rest, Value.ref a_left, Value.ref a_tried, Value.int v_signs, Value.int v_lines, Value.int v_most])), (a_felt, Sum.inl (k_a_felt, 21, Sum.inl f_a_felt)), (a_own, Sum.inl (k_a_own, 4, Sum.inl f_a_own)), (a_share, Sum.inl (k_a_share, 5, Sum.inr (Sum.inr (Sum.inr (Sum.inr (rows_of 5 R_a_share)))))), (a_rest, Sum.inl (k_a_rest, 5, Sum.inr (Sum.inr (Sum.inr (Sum.inr (rows_of 5 R_a_rest)))))), (a_left, Sum.inl (k_a_left, 5, Sum.inr (Sum.inr (Sum.inr (Sum.inr (rows_of 5 R_a_left))))))] ++ va_pl LP fp)) (va_A ([(o, Sum.inr (0, [Value.ref a_chosen, Value.int v_bestCost, Value.ref a_felt, Value.ref a_own, Value.ref a_share, Value.ref a_rest, Value.ref a_left, Value.ref a_tried, Value.int v_signs, Value.int v_lines, Value.int v_most])), (a_felt, Sum.inl (k_a_felt, 21, Sum.inl f_a_felt)), (a_own, Sum.inl (k_a_own, 4, Sum.inl f_a_own)), (a_share, Sum.inl (k_a_share, 5, Sum.inr (Sum.inr (Sum.inr (Sum.inr (rows_of 5 R_a_share)))))), (a_rest, Sum.inl (k_a_rest, 5, Sum.inr (Sum.inr (Sum.inr (Sum.inr (rows_of 5 R_a_rest)))))), (a_left, Sum.inl (k_a_left, 5, Sum.inr (Sum.inr (Sum.inr (Sum.inr (rows_of 5 R_a_left))))))] ++ va_pl LP fp) sz)) 0 0 (va_A ([(o, Sum.inr (0, [Value.ref a_chosen, Value.int v_bestCost, Value.ref a_felt, Value.ref a_own, Value.ref a_share, Value.ref a_rest, Value.ref a_left, Value.ref a_tried, Value.int v_signs, Value.int v_lines, Value.int v_most])), (a_felt, Sum.inl (k_a_felt, 21, Sum.inl f_a_felt)), (a_own, Sum.inl (k_a_own, 4, Sum.inl f_a_own)), (a_share, Sum.inl (k_a_share, 5, Sum.inr (Sum.inr (Sum.inr (Sum.inr (rows_of 5 R_a_share)))))), (a_rest, Sum.inl (k_a_rest, 5, Sum.inr (Sum.inr (Sum.inr (Sum.inr (rows_of 5 R_a_rest)))))), (a_left, Sum.inl (k_a_left, 5, Sum.inr (Sum.inr (Sum.inr (Sum.inr (rows_of 5 R_a_left))))))] ++ va_pl LP fp) sz) := by
  refine Met.ofW (cc := cX0_lastCoin) (maxL := 4) (ret := (some .int)) pn_X0 rfl ?_
  intro p e s m args below meth c s₁ B hml hv
  obtain ⟨rfl, hsz, hP, hK, hD0⟩ := hv
  have hx := B.exec
  have hb := B.bytes
  have hr := B.returns
  have hts := atoms_spec (ws := wsX0_lastCoin) B.pre
  have hown : s.vm.findClass RX0 = some m.cls := findClass_of_methodNamed B.named
  have hlocks := B.notSynchronized
  subst hsz
  have hD := hD0.self (sz := s.heap.size)
  generalize hAe : va_A ([(o, Sum.inr (0, [Value.ref a_chosen, Value.int v_bestCost, Value.ref a_felt, Value.ref a_own, Value.ref a_share, Value.ref a_rest, Value.ref a_left, Value.ref a_tried, Value.int v_signs, Value.int v_lines, Value.int v_most])), (a_felt, Sum.inl (k_a_felt, 21, Sum.inl f_a_felt)), (a_own, Sum.inl (k_a_own, 4, Sum.inl f_a_own)), (a_share, Sum.inl (k_a_share, 5, Sum.inr (Sum.inr (Sum.inr (Sum.inr (rows_of 5 R_a_share)))))), (a_rest, Sum.inl (k_a_rest, 5, Sum.inr (Sum.inr (Sum.inr (Sum.inr (rows_of 5 R_a_rest)))))), (a_left, Sum.inl (k_a_left, 5, Sum.inr (Sum.inr (Sum.inr (Sum.inr (rows_of 5 R_a_left))))))] ++ va_pl LP fp) s.heap.size = A at hD ⊢
  have hA : ∀ q : Nat, s.heap.size ≤ q → A q := fun q h => by rw [← hAe]; exact Or.inr h
  have hS : va_S A s.heap s.heap [] := va_S.rf
  have hP : va_P (dC, dI) vwCl ([(o, Sum.inr (0, [Value.ref a_chosen, Value.int v_bestCost, Value.ref a_felt, Value.ref a_own, Value.ref a_share, Value.ref a_rest, Value.ref a_left, Value.ref a_tried, Value.int v_signs, Value.int v_lines, Value.int v_most])), (a_felt, Sum.inl (k_a_felt, 21, Sum.inl f_a_felt)), (a_own, Sum.inl (k_a_own, 4, Sum.inl f_a_own)), (a_share, Sum.inl (k_a_share, 5, Sum.inr (Sum.inr (Sum.inr (Sum.inr (rows_of 5 R_a_share)))))), (a_rest, Sum.inl (k_a_rest, 5, Sum.inr (Sum.inr (Sum.inr (Sum.inr (rows_of 5 R_a_rest)))))), (a_left, Sum.inl (k_a_left, 5, Sum.inr (Sum.inr (Sum.inr (Sum.inr (rows_of 5 R_a_left))))))] ++ va_pl LP fp) s.heap := hP
  have hl := lv_entry ([Value.ref o, Value.int p0]) (n := 4) (Nat.le_of_ble_eq_true rfl)
  rw [lg_entry_eq]
  generalize (lg_sl ([Value.ref o, Value.int p0]) ++ List.replicate (4 - (lg_sl ([Value.ref o, Value.int p0])).length) Slot.unset).toArray = ls at hl ⊢
  have hl : lv_has ls 4 [(0, Value.ref o), (1, Value.int p0)] := hl
  refine lv_aload_n hx hb dX0_lastCoin_0 rfl (lv_at hl 0 rfl) ?_
  refine va_get (D := (dC, dI)) (ci := 0) (v := Value.ref a_own) (C := RX0) (T := TX0) (N := 11) hx hb hts iw_X0_lastCoin_X0 hown hK hP 0 rfl rfl 3 (by decide) (hts _ kk_X0_lastCoin_0) (fun _ h9 => h9) rfl dX0_lastCoin_1 ?_
  refine lv_iload_n hx hb dX0_lastCoin_4 rfl (lv_at hl 1 rfl) ?_
  have bp0 := hp0.u
  refine va_iald hx hb hK hP 2 1 rfl rfl (vq_in p0 4 (by omega)) dX0_lastCoin_5 ?_
  refine lv_topi (fun x1 ex1 => ?_)
  have bx1 := i32_rng x1
  refine lv_if_ne (tgt := 13) hx hb dX0_lastCoin_6 (by decide) (fun c2 => ?_) (fun c2 => ?_)
  · have c29 := i32_ne c2 rfl (show (0 : Int32).toInt = 0 by decide)
    refine lv_aload_n hx hb dX0_lastCoin_13 rfl (lv_at hl 0 rfl) ?_
    refine va_get (D := (dC, dI)) (ci := 0) (v := Value.int v_most) (C := RX0) (T := TX0) (N := 11) hx hb hts iw_X0_lastCoin_X0 hown hK hP 0 rfl rfl 10 (by decide) (hts _ kk_X0_lastCoin_1) (fun _ h9 => h9) rfl dX0_lastCoin_14 ?_
    refine lv_istore_n (lv' := [(2, Value.int v_most), (0, Value.ref o), (1, Value.int p0)]) hx hb dX0_lastCoin_17 rfl hl (by decide) rfl (fun ls hl => ?_)
    refine lv_iconst (v := 0) hx hb dX0_lastCoin_18 (by decide) ?_
    refine lv_istore_n (lv' := [(3, Value.int 0), (2, Value.int v_most), (0, Value.ref o), (1, Value.int p0)]) hx hb dX0_lastCoin_19 rfl hl (by decide) rfl (fun ls hl => ?_)
    refine tl_loop (I := fun nn H locs ls => ∃ (v3 : Int32) (v4 : Int32), nn = (5 - v3.toInt).toNat ∧ iv v3 0 5 ∧ iv v4 (-1) 20 ∧  va_P (dC, dI) vwCl ([(o, Sum.inr (0, [Value.ref a_chosen, Value.int v_bestCost, Value.ref a_felt, Value.ref a_own, Value.ref a_share, Value.ref a_rest, Value.ref a_left, Value.ref a_tried, Value.int v_signs, Value.int v_lines, Value.int v_most])), (a_felt, Sum.inl (k_a_felt, 21, Sum.inl f_a_felt)), (a_own, Sum.inl (k_a_own, 4, Sum.inl f_a_own)), (a_share, Sum.inl (k_a_share, 5, Sum.inr (Sum.inr (Sum.inr (Sum.inr (rows_of 5 R_a_share)))))), (a_rest, Sum.inl (k_a_rest, 5, Sum.inr (Sum.inr (Sum.inr (Sum.inr (rows_of 5 R_a_rest)))))), (a_left, Sum.inl (k_a_left, 5, Sum.inr (Sum.inr (Sum.inr (Sum.inr (rows_of 5 R_a_left))))))] ++ va_pl LP fp) H ∧ va_D A ([(o, Sum.inr (0, [Value.ref a_chosen, Value.int v_bestCost, Value.ref a_felt, Value.ref a_own, Value.ref a_share, Value.ref a_rest, Value.ref a_left, Value.ref a_tried, Value.int v_signs, Value.int v_lines, Value.int v_most])), (a_felt, Sum.inl (k_a_felt, 21, Sum.inl f_a_felt)), (a_own, Sum.inl (k_a_own, 4, Sum.inl f_a_own)), (a_share, Sum.inl (k_a_share, 5, Sum.inr (Sum.inr (Sum.inr (Sum.inr (rows_of 5 R_a_share)))))), (a_rest, Sum.inl (k_a_rest, 5, Sum.inr (Sum.inr (Sum.inr (Sum.inr (rows_of 5 R_a_rest)))))), (a_left, Sum.inl (k_a_left, 5, Sum.inr (Sum.inr (Sum.inr (Sum.inr (rows_of 5 R_a_left))))))] ++ va_pl LP fp) ∧ va_S A s.heap H locs ∧ lv_has ls 4 [(3, Value.int v3), (2, Value.int v4), (0, Value.ref o), (1, Value.int p0)]) ?_ ⟨0, v_most, rfl, (iv.m (by decide)), (hv_most.w (by decide) (by decide)), hP, hD, hS, lv_sub hl [0, 1, 2, 3] rfl⟩
    clear hP hD hS hl
    intro nn20 H locs ls hI ih20
    obtain ⟨v3, v4, hn20, hv3, hv4, hP, hD, hS, hl⟩ := hI
    have bv3 := hv3.u
    have bv4 := hv4.u
    refine lv_iload_n hx hb dX0_lastCoin_20 rfl (lv_at hl 0 rfl) ?_
    refine lv_aload_n hx hb dX0_lastCoin_21 rfl (lv_at hl 2 rfl) ?_
    refine va_get (D := (dC, dI)) (ci := 0) (v := Value.int v_lines) (C := RX0) (T := TX0) (N := 11) hx hb hts iw_X0_lastCoin_X0 hown hK hP 0 rfl rfl 9 (by decide) (hts _ kk_X0_lastCoin_2) (fun _ h9 => h9) rfl dX0_lastCoin_22 ?_
    have bv_lines := hv_lines.u
    refine lv_icmp_ge (tgt := 65) hx hb dX0_lastCoin_25 (by decide) (fun c5 => ?_) (fun c5 => ?_)
    · have c59 := i32_le c5 rfl rfl
      refine lv_iload_n hx hb dX0_lastCoin_65 rfl (lv_at hl 1 rfl) ?_
      have hP9 := hP.part (cx := [(o, Sum.inr (0, [Value.ref a_chosen, Value.int v_bestCost, Value.ref a_felt, Value.ref a_own, Value.ref a_share, Value.ref a_rest, Value.ref a_left, Value.ref a_tried, Value.int v_signs, Value.int v_lines, Value.int v_most])), (a_felt, Sum.inl (k_a_felt, 21, Sum.inl f_a_felt)), (a_own, Sum.inl (k_a_own, 4, Sum.inl f_a_own)), (a_share, Sum.inl (k_a_share, 5, Sum.inr (Sum.inr (Sum.inr (Sum.inr (rows_of 5 R_a_share)))))), (a_rest, Sum.inl (k_a_rest, 5, Sum.inr (Sum.inr (Sum.inr (Sum.inr (rows_of 5 R_a_rest)))))), (a_left, Sum.inl (k_a_left, 5, Sum.inr (Sum.inr (Sum.inr (Sum.inr (rows_of 5 R_a_left))))))]) [0, 1, 2, 3, 4, 5] rfl
      have hD9 := hD.part (cx := [(o, Sum.inr (0, [Value.ref a_chosen, Value.int v_bestCost, Value.ref a_felt, Value.ref a_own, Value.ref a_share, Value.ref a_rest, Value.ref a_left, Value.ref a_tried, Value.int v_signs, Value.int v_lines, Value.int v_most])), (a_felt, Sum.inl (k_a_felt, 21, Sum.inl f_a_felt)), (a_own, Sum.inl (k_a_own, 4, Sum.inl f_a_own)), (a_share, Sum.inl (k_a_share, 5, Sum.inr (Sum.inr (Sum.inr (Sum.inr (rows_of 5 R_a_share)))))), (a_rest, Sum.inl (k_a_rest, 5, Sum.inr (Sum.inr (Sum.inr (Sum.inr (rows_of 5 R_a_rest)))))), (a_left, Sum.inl (k_a_left, 5, Sum.inr (Sum.inr (Sum.inr (Sum.inr (rows_of 5 R_a_left))))))]) [0, 1, 2, 3, 4, 5] (by decide) rfl
      exact W.iret (v := v4) hx hb hr (fun t ht hW => ⟨⟨v4, v4, rfl, rfl, hv4, by rw [ht]; exact hP9, hD9⟩, hS.F ht⟩) hS.2.2 dX0_lastCoin_66
    · have c59 := i32_nle c5 rfl rfl
      refine tl_loop (I := fun nn H locs ls => ∃ (v6 : Int32), nn = (v6.toInt - (-1)).toNat ∧ iv v6 (-1) 20 ∧  va_P (dC, dI) vwCl ([(o, Sum.inr (0, [Value.ref a_chosen, Value.int v_bestCost, Value.ref a_felt, Value.ref a_own, Value.ref a_share, Value.ref a_rest, Value.ref a_left, Value.ref a_tried, Value.int v_signs, Value.int v_lines, Value.int v_most])), (a_felt, Sum.inl (k_a_felt, 21, Sum.inl f_a_felt)), (a_own, Sum.inl (k_a_own, 4, Sum.inl f_a_own)), (a_share, Sum.inl (k_a_share, 5, Sum.inr (Sum.inr (Sum.inr (Sum.inr (rows_of 5 R_a_share)))))), (a_rest, Sum.inl (k_a_rest, 5, Sum.inr (Sum.inr (Sum.inr (Sum.inr (rows_of 5 R_a_rest)))))), (a_left, Sum.inl (k_a_left, 5, Sum.inr (Sum.inr (Sum.inr (Sum.inr (rows_of 5 R_a_left))))))] ++ va_pl LP fp) H ∧ va_D A ([(o, Sum.inr (0, [Value.ref a_chosen, Value.int v_bestCost, Value.ref a_felt, Value.ref a_own, Value.ref a_share, Value.ref a_rest, Value.ref a_left, Value.ref a_tried, Value.int v_signs, Value.int v_lines, Value.int v_most])), (a_felt, Sum.inl (k_a_felt, 21, Sum.inl f_a_felt)), (a_own, Sum.inl (k_a_own, 4, Sum.inl f_a_own)), (a_share, Sum.inl (k_a_share, 5, Sum.inr (Sum.inr (Sum.inr (Sum.inr (rows_of 5 R_a_share)))))), (a_rest, Sum.inl (k_a_rest, 5, Sum.inr (Sum.inr (Sum.inr (Sum.inr (rows_of 5 R_a_rest)))))), (a_left, Sum.inl (k_a_left, 5, Sum.inr (Sum.inr (Sum.inr (Sum.inr (rows_of 5 R_a_left))))))] ++ va_pl LP fp) ∧ va_S A s.heap H locs ∧ lv_has ls 4 [(3, Value.int v3), (2, Value.int v6), (0, Value.ref o), (1, Value.int p0)]) ?_ ⟨v4, rfl, hv4, hP, hD, hS, lv_sub hl [0, 1, 2, 3] rfl⟩
      clear hP hD hS hl
      intro nn28 H locs ls hI ih28
      obtain ⟨v6, hn28, hv6, hP, hD, hS, hl⟩ := hI
      have bv6 := hv6.u
      refine lv_iload_n hx hb dX0_lastCoin_28 rfl (lv_at hl 1 rfl) ?_
      refine lv_if_lt (tgt := 59) hx hb dX0_lastCoin_29 (by decide) (fun c7 => ?_) (fun c7 => ?_)
      · have c79 := i32_lt c7 rfl (show (0 : Int32).toInt = 0 by decide)
        obtain ⟨x8, ex8⟩ : ∃ z : Int32, v3 + Int32.ofInt 1 = z := ⟨_, rfl⟩
        have tx8 := i32_inc ex8 rfl (by decide) (by omega) (by omega)
        refine lv_iinc (v := x8) (lv' := [(3, Value.int x8), (2, Value.int v6), (0, Value.ref o), (1, Value.int p0)]) hx hb dX0_lastCoin_59 hl (k := 0) rfl ex8 (by decide) rfl (fun ls hl => ?_)
        refine lv_goto (tgt := 20) hx hb dX0_lastCoin_62 (by decide) ?_
        exact ih20 _ _ _ _ (by omega) ⟨x8, v6, rfl, (iv.m (by omega)), (iv.m (by omega)), hP, hD, hS, lv_sub hl [0, 1, 2, 3] rfl⟩
      · have c79 := i32_nlt c7 rfl (show (0 : Int32).toInt = 0 by decide)
        refine lv_aload_n hx hb dX0_lastCoin_32 rfl (lv_at hl 2 rfl) ?_
        refine va_get (D := (dC, dI)) (ci := 0) (v := Value.ref a_share) (C := RX0) (T := TX0) (N := 11) hx hb hts iw_X0_lastCoin_X0 hown hK hP 0 rfl rfl 4 (by decide) (hts _ kk_X0_lastCoin_3) (fun _ h9 => h9) rfl dX0_lastCoin_33 ?_
        refine lv_iload_n hx hb dX0_lastCoin_36 rfl (lv_at hl 0 rfl) ?_
        have hinrw9 : vp_in v3 5 := (vq_in v3 5 (by omega))
        refine va_aldA hx hb hK hP 3 2 rfl rfl hinrw9 dX0_lastCoin_37 ?_
        refine px_v (row_sel hinrw9) ?_
        obtain ⟨rw9, erw9⟩ : ∃ z : Nat, z = R_a_share (Int32.toNatClampNeg v3) := ⟨_, rfl⟩
        rw [← erw9]
        have mrw9 : rw9 ∈ LP ∧ sh rw9 = 4 := by rw [erw9]; exact hRR_a_share _ (vin_lt hinrw9)
        refine lv_iload_n hx hb dX0_lastCoin_38 rfl (lv_at hl 3 rfl) ?_
        obtain ⟨gk10, hgk10⟩ := pok_4 (hfp) mrw9
        obtain ⟨kk11, hkk11⟩ := va_pl_get (X := [(o, Sum.inr (0, [Value.ref a_chosen, Value.int v_bestCost, Value.ref a_felt, Value.ref a_own, Value.ref a_share, Value.ref a_rest, Value.ref a_left, Value.ref a_tried, Value.int v_signs, Value.int v_lines, Value.int v_most])), (a_felt, Sum.inl (k_a_felt, 21, Sum.inl f_a_felt)), (a_own, Sum.inl (k_a_own, 4, Sum.inl f_a_own)), (a_share, Sum.inl (k_a_share, 5, Sum.inr (Sum.inr (Sum.inr (Sum.inr (rows_of 5 R_a_share)))))), (a_rest, Sum.inl (k_a_rest, 5, Sum.inr (Sum.inr (Sum.inr (Sum.inr (rows_of 5 R_a_rest)))))), (a_left, Sum.inl (k_a_left, 5, Sum.inr (Sum.inr (Sum.inr (Sum.inr (rows_of 5 R_a_left))))))]) (f := fp) mrw9.1
        have qkk11 := hkk11
        rw [hgk10] at qkk11
        refine va_iald hx hb hK hP kk11 5 qkk11 rfl (vq_in p0 4 (by omega)) dX0_lastCoin_39 ?_
        refine lv_topi (fun x12 ex12 => ?_)
        have bx12 := i32_rng x12
        refine lv_if_ge (tgt := 59) hx hb dX0_lastCoin_40 (by decide) (fun c13 => ?_) (fun c13 => ?_)
        · have c139 := i32_le c13 (show (0 : Int32).toInt = 0 by decide) rfl
          obtain ⟨x14, ex14⟩ : ∃ z : Int32, v3 + Int32.ofInt 1 = z := ⟨_, rfl⟩
          have tx14 := i32_inc ex14 rfl (by decide) (by omega) (by omega)
          refine lv_iinc (v := x14) (lv' := [(3, Value.int x14), (2, Value.int v6), (0, Value.ref o), (1, Value.int p0)]) hx hb dX0_lastCoin_59 hl (k := 0) rfl ex14 (by decide) rfl (fun ls hl => ?_)
          refine lv_goto (tgt := 20) hx hb dX0_lastCoin_62 (by decide) ?_
          exact ih20 _ _ _ _ (by omega) ⟨x14, v6, rfl, (iv.m (by omega)), (iv.m (by omega)), hP, hD, hS, lv_sub hl [0, 1, 2, 3] rfl⟩
        · have c139 := i32_nle c13 (show (0 : Int32).toInt = 0 by decide) rfl
          refine lv_aload_n hx hb dX0_lastCoin_43 rfl (lv_at hl 2 rfl) ?_
          refine lv_iload_n hx hb dX0_lastCoin_44 rfl (lv_at hl 0 rfl) ?_
          refine lv_iload_n hx hb dX0_lastCoin_45 rfl (lv_at hl 3 rfl) ?_
          refine lv_iload_n hx hb dX0_lastCoin_46 rfl (lv_at hl 1 rfl) ?_
          have hPc := hP.part (cx := [(o, Sum.inr (0, [Value.ref a_chosen, Value.int v_bestCost, Value.ref a_felt, Value.ref a_own, Value.ref a_share, Value.ref a_rest, Value.ref a_left, Value.ref a_tried, Value.int v_signs, Value.int v_lines, Value.int v_most])), (a_felt, Sum.inl (k_a_felt, 21, Sum.inl f_a_felt)), (a_share, Sum.inl (k_a_share, 5, Sum.inr (Sum.inr (Sum.inr (Sum.inr (rows_of 5 R_a_share)))))), (a_rest, Sum.inl (k_a_rest, 5, Sum.inr (Sum.inr (Sum.inr (Sum.inr (rows_of 5 R_a_rest)))))), (a_left, Sum.inl (k_a_left, 5, Sum.inr (Sum.inr (Sum.inr (Sum.inr (rows_of 5 R_a_left))))))]) [0, 1, 3, 4, 5] rfl
          have hDc := hD.part (cx := [(o, Sum.inr (0, [Value.ref a_chosen, Value.int v_bestCost, Value.ref a_felt, Value.ref a_own, Value.ref a_share, Value.ref a_rest, Value.ref a_left, Value.ref a_tried, Value.int v_signs, Value.int v_lines, Value.int v_most])), (a_felt, Sum.inl (k_a_felt, 21, Sum.inl f_a_felt)), (a_share, Sum.inl (k_a_share, 5, Sum.inr (Sum.inr (Sum.inr (Sum.inr (rows_of 5 R_a_share)))))), (a_rest, Sum.inl (k_a_rest, 5, Sum.inr (Sum.inr (Sum.inr (Sum.inr (rows_of 5 R_a_rest)))))), (a_left, Sum.inl (k_a_left, 5, Sum.inr (Sum.inr (Sum.inr (Sum.inr (rows_of 5 R_a_left))))))]) [0, 1, 3, 4, 5] (by decide) rfl
          have hKc := hK.sub (tys' := [(k_a_felt, FieldType.int), (k_a_share, (FieldType.array FieldType.int)), (k_a_rest, (FieldType.array FieldType.int)), (k_a_left, (FieldType.array FieldType.int)), (cI, FieldType.int), (cJ, FieldType.long)]) [0, 2, 3, 4, 5, 6] rfl
          have hFc := va_freeP (cx := [(o, Sum.inr (0, [Value.ref a_chosen, Value.int v_bestCost, Value.ref a_felt, Value.ref a_own, Value.ref a_share, Value.ref a_rest, Value.ref a_left, Value.ref a_tried, Value.int v_signs, Value.int v_lines, Value.int v_most])), (a_felt, Sum.inl (k_a_felt, 21, Sum.inl f_a_felt)), (a_share, Sum.inl (k_a_share, 5, Sum.inr (Sum.inr (Sum.inr (Sum.inr (rows_of 5 R_a_share)))))), (a_rest, Sum.inl (k_a_rest, 5, Sum.inr (Sum.inr (Sum.inr (Sum.inr (rows_of 5 R_a_rest)))))), (a_left, Sum.inl (k_a_left, 5, Sum.inr (Sum.inr (Sum.inr (Sum.inr (rows_of 5 R_a_left))))))]) hD hS hA [0, 1, 3, 4, 5] rfl
          refine va_calli (va_runV (As := [Value.int v3, Value.int p0, Value.int v6]) (rest := []) ⟨hx, hb, hml, hown, hts⟩ (ct_X0_isShort l dC dI o v3 p0 v6 a_chosen v_bestCost a_felt a_own a_share a_rest a_left a_tried v_signs v_lines v_most k_a_felt f_a_felt k_a_share R_a_share k_a_rest R_a_rest k_a_left R_a_left LP sh fp cI cJ (iv.m (by omega)) hp0 (iv.m (by omega)) hfp hRR_a_share hRR_a_rest hRR_a_left H.size) (cwV 3 hts gX0_lastCoin_X0_isShort rfl rfl rfl ⟨rfl, cn_X0.1, cn_X0.2, ds_6⟩ ⟨Nat.le_of_ble_eq_true rfl, Nat.le_of_ble_eq_true rfl⟩) ⟨fun a U g mk q => by obtain ⟨q0, q1, qP, qK, qD⟩ := q; exact ⟨q0, q1, qP, va_K.moved (u := U) (U := U.calling g mk a) (Vm.Alike.refl U.vm) qK, qD⟩, va_recv hKc hPc (ci := 0) (q0 := 0) rfl rfl, fun U hU hW => ⟨rfl, by rw [hU], by rw [hU]; exact hPc, va_K.moved hW.alike hKc, hDc.weaken (fun _ _ _ _ => trivial)⟩⟩ rfl rfl hl.1 rfl (lv_room (Nat.le_of_ble_eq_true rfl)) dX0_lastCoin_47 ⟨Nat.le_of_ble_eq_true rfl, Nat.le_of_ble_eq_true rfl⟩) hS (fun q _ h => hFc q h) hFc (fun r15 u t H1 locs ht hvm hw hB hz1 hk1 hS => ?_)
          have hw : r15 = u := hw.symm
          subst hw
          obtain ⟨w16, hP1, hD1⟩ := hB
          rw [ht] at hP1
          obtain ⟨hP, hD⟩ := va_joinP (X := [(o, Sum.inr (0, [Value.ref a_chosen, Value.int v_bestCost, Value.ref a_felt, Value.ref a_own, Value.ref a_share, Value.ref a_rest, Value.ref a_left, Value.ref a_tried, Value.int v_signs, Value.int v_lines, Value.int v_most])), (a_felt, Sum.inl (k_a_felt, 21, Sum.inl f_a_felt)), (a_own, Sum.inl (k_a_own, 4, Sum.inl f_a_own)), (a_share, Sum.inl (k_a_share, 5, Sum.inr (Sum.inr (Sum.inr (Sum.inr (rows_of 5 R_a_share)))))), (a_rest, Sum.inl (k_a_rest, 5, Sum.inr (Sum.inr (Sum.inr (Sum.inr (rows_of 5 R_a_rest)))))), (a_left, Sum.inl (k_a_left, 5, Sum.inr (Sum.inr (Sum.inr (Sum.inr (rows_of 5 R_a_left))))))]) (cx := [(o, Sum.inr (0, [Value.ref a_chosen, Value.int v_bestCost, Value.ref a_felt, Value.ref a_own, Value.ref a_share, Value.ref a_rest, Value.ref a_left, Value.ref a_tried, Value.int v_signs, Value.int v_lines, Value.int v_most])), (a_felt, Sum.inl (k_a_felt, 21, Sum.inl f_a_felt)), (a_share, Sum.inl (k_a_share, 5, Sum.inr (Sum.inr (Sum.inr (Sum.inr (rows_of 5 R_a_share)))))), (a_rest, Sum.inl (k_a_rest, 5, Sum.inr (Sum.inr (Sum.inr (Sum.inr (rows_of 5 R_a_rest)))))), (a_left, Sum.inl (k_a_left, 5, Sum.inr (Sum.inr (Sum.inr (Sum.inr (rows_of 5 R_a_left))))))]) (wr := [(a_own, Sum.inl (k_a_own, 4, Sum.inl f_a_own))]) (rx := [(o, Sum.inr (0, [Value.ref a_chosen, Value.int v_bestCost, Value.ref a_felt, Value.ref a_own, Value.ref a_share, Value.ref a_rest, Value.ref a_left, Value.ref a_tried, Value.int v_signs, Value.int v_lines, Value.int v_most])), (a_felt, Sum.inl (k_a_felt, 21, Sum.inl f_a_felt)), (a_share, Sum.inl (k_a_share, 5, Sum.inr (Sum.inr (Sum.inr (Sum.inr (rows_of 5 R_a_share)))))), (a_rest, Sum.inl (k_a_rest, 5, Sum.inr (Sum.inr (Sum.inr (Sum.inr (rows_of 5 R_a_rest)))))), (a_left, Sum.inl (k_a_left, 5, Sum.inr (Sum.inr (Sum.inr (Sum.inr (rows_of 5 R_a_left))))))]) hP hD [0, 1, 3, 4, 5] [2] rfl rfl (by decide) (by decide) hk1 hFc hP1 hD1
          clear hPc hDc hKc hFc hP1 hD1 hk1 hz1
          generalize H1 = H at hP hS ⊢
          have hP : va_P (dC, dI) vwCl ([(a_own, Sum.inl (k_a_own, 4, Sum.inl f_a_own)), (o, Sum.inr (0, [Value.ref a_chosen, Value.int v_bestCost, Value.ref a_felt, Value.ref a_own, Value.ref a_share, Value.ref a_rest, Value.ref a_left, Value.ref a_tried, Value.int v_signs, Value.int v_lines, Value.int v_most])), (a_felt, Sum.inl (k_a_felt, 21, Sum.inl f_a_felt)), (a_share, Sum.inl (k_a_share, 5, Sum.inr (Sum.inr (Sum.inr (Sum.inr (rows_of 5 R_a_share)))))), (a_rest, Sum.inl (k_a_rest, 5, Sum.inr (Sum.inr (Sum.inr (Sum.inr (rows_of 5 R_a_rest)))))), (a_left, Sum.inl (k_a_left, 5, Sum.inr (Sum.inr (Sum.inr (Sum.inr (rows_of 5 R_a_left))))))] ++ va_pl LP fp) H := hP
          have hD : va_D A ([(a_own, Sum.inl (k_a_own, 4, Sum.inl f_a_own)), (o, Sum.inr (0, [Value.ref a_chosen, Value.int v_bestCost, Value.ref a_felt, Value.ref a_own, Value.ref a_share, Value.ref a_rest, Value.ref a_left, Value.ref a_tried, Value.int v_signs, Value.int v_lines, Value.int v_most])), (a_felt, Sum.inl (k_a_felt, 21, Sum.inl f_a_felt)), (a_share, Sum.inl (k_a_share, 5, Sum.inr (Sum.inr (Sum.inr (Sum.inr (rows_of 5 R_a_share)))))), (a_rest, Sum.inl (k_a_rest, 5, Sum.inr (Sum.inr (Sum.inr (Sum.inr (rows_of 5 R_a_rest)))))), (a_left, Sum.inl (k_a_left, 5, Sum.inr (Sum.inr (Sum.inr (Sum.inr (rows_of 5 R_a_left))))))] ++ va_pl LP fp) := hD
          refine W.widen (k := 0) (n := 0) (by decide) (by decide) ?_
          rcases w16 with hr9 | hr9
          · subst hr9
            refine lv_if_eq (tgt := 59) hx hb dX0_lastCoin_50 (by decide) (fun _ => ?_) (fun cz => absurd cz (by decide))
            obtain ⟨x17, ex17⟩ : ∃ z : Int32, v3 + Int32.ofInt 1 = z := ⟨_, rfl⟩
            have tx17 := i32_inc ex17 rfl (by decide) (by omega) (by omega)
            refine lv_iinc (v := x17) (lv' := [(3, Value.int x17), (2, Value.int v6), (0, Value.ref o), (1, Value.int p0)]) hx hb dX0_lastCoin_59 hl (k := 0) rfl ex17 (by decide) rfl (fun ls hl => ?_)
            refine lv_goto (tgt := 20) hx hb dX0_lastCoin_62 (by decide) ?_
            exact ih20 _ _ _ _ (by omega) ⟨x17, v6, rfl, (iv.m (by omega)), (iv.m (by omega)), hP.part [1, 2, 0, 3, 4, 5] rfl, hD.part [1, 2, 0, 3, 4, 5] (by decide) rfl, hS, lv_sub hl [0, 1, 2, 3] rfl⟩
          · subst hr9
            refine lv_if_eq (tgt := 59) hx hb dX0_lastCoin_50 (by decide) (fun cz => absurd cz (by decide)) (fun _ => ?_)
            obtain ⟨x18, ex18⟩ : ∃ z : Int32, v6 + Int32.ofInt (-1) = z := ⟨_, rfl⟩
            have tx18 := i32_inc ex18 rfl (by decide) (by omega) (by omega)
            refine lv_iinc (v := x18) (lv' := [(2, Value.int x18), (3, Value.int v3), (0, Value.ref o), (1, Value.int p0)]) hx hb dX0_lastCoin_53 hl (k := 1) rfl ex18 (by decide) rfl (fun ls hl => ?_)
            refine lv_goto (tgt := 28) hx hb dX0_lastCoin_56 (by decide) ?_
            exact ih28 _ _ _ _ (by omega) ⟨x18, rfl, (iv.m (by omega)), hP.part [1, 2, 0, 3, 4, 5] rfl, hD.part [1, 2, 0, 3, 4, 5] (by decide) rfl, hS, lv_sub hl [1, 0, 2, 3] rfl⟩
  · have c29 := i32_eq c2 rfl (show (0 : Int32).toInt = 0 by decide)
    refine lv_iconst (v := 0) hx hb dX0_lastCoin_9 (by decide) ?_
    refine lv_goto (tgt := 17) hx hb dX0_lastCoin_10 (by decide) ?_
    refine lv_istore_n (lv' := [(2, Value.int 0), (0, Value.ref o), (1, Value.int p0)]) hx hb dX0_lastCoin_17 rfl hl (by decide) rfl (fun ls hl => ?_)
    refine lv_iconst (v := 0) hx hb dX0_lastCoin_18 (by decide) ?_
    refine lv_istore_n (lv' := [(3, Value.int 0), (2, Value.int 0), (0, Value.ref o), (1, Value.int p0)]) hx hb dX0_lastCoin_19 rfl hl (by decide) rfl (fun ls hl => ?_)
    refine tl_loop (I := fun nn H locs ls => ∃ (v19 : Int32) (v20 : Int32), nn = (5 - v19.toInt).toNat ∧ iv v19 0 5 ∧ iv v20 (-1) 0 ∧  va_P (dC, dI) vwCl ([(o, Sum.inr (0, [Value.ref a_chosen, Value.int v_bestCost, Value.ref a_felt, Value.ref a_own, Value.ref a_share, Value.ref a_rest, Value.ref a_left, Value.ref a_tried, Value.int v_signs, Value.int v_lines, Value.int v_most])), (a_felt, Sum.inl (k_a_felt, 21, Sum.inl f_a_felt)), (a_own, Sum.inl (k_a_own, 4, Sum.inl f_a_own)), (a_share, Sum.inl (k_a_share, 5, Sum.inr (Sum.inr (Sum.inr (Sum.inr (rows_of 5 R_a_share)))))), (a_rest, Sum.inl (k_a_rest, 5, Sum.inr (Sum.inr (Sum.inr (Sum.inr (rows_of 5 R_a_rest)))))), (a_left, Sum.inl (k_a_left, 5, Sum.inr (Sum.inr (Sum.inr (Sum.inr (rows_of 5 R_a_left))))))] ++ va_pl LP fp) H ∧ va_D A ([(o, Sum.inr (0, [Value.ref a_chosen, Value.int v_bestCost, Value.ref a_felt, Value.ref a_own, Value.ref a_share, Value.ref a_rest, Value.ref a_left, Value.ref a_tried, Value.int v_signs, Value.int v_lines, Value.int v_most])), (a_felt, Sum.inl (k_a_felt, 21, Sum.inl f_a_felt)), (a_own, Sum.inl (k_a_own, 4, Sum.inl f_a_own)), (a_share, Sum.inl (k_a_share, 5, Sum.inr (Sum.inr (Sum.inr (Sum.inr (rows_of 5 R_a_share)))))), (a_rest, Sum.inl (k_a_rest, 5, Sum.inr (Sum.inr (Sum.inr (Sum.inr (rows_of 5 R_a_rest)))))), (a_left, Sum.inl (k_a_left, 5, Sum.inr (Sum.inr (Sum.inr (Sum.inr (rows_of 5 R_a_left))))))] ++ va_pl LP fp) ∧ va_S A s.heap H locs ∧ lv_has ls 4 [(3, Value.int v19), (2, Value.int v20), (0, Value.ref o), (1, Value.int p0)]) ?_ ⟨0, 0, rfl, (iv.m (by decide)), (iv.m (by decide)), hP, hD, hS, lv_sub hl [0, 1, 2, 3] rfl⟩
    clear hP hD hS hl
    intro nn20 H locs ls hI ih20
    obtain ⟨v19, v20, hn20, hv19, hv20, hP, hD, hS, hl⟩ := hI
    have bv19 := hv19.u
    have bv20 := hv20.u
    refine lv_iload_n hx hb dX0_lastCoin_20 rfl (lv_at hl 0 rfl) ?_
    refine lv_aload_n hx hb dX0_lastCoin_21 rfl (lv_at hl 2 rfl) ?_
    refine va_get (D := (dC, dI)) (ci := 0) (v := Value.int v_lines) (C := RX0) (T := TX0) (N := 11) hx hb hts iw_X0_lastCoin_X0 hown hK hP 0 rfl rfl 9 (by decide) (hts _ kk_X0_lastCoin_2) (fun _ h9 => h9) rfl dX0_lastCoin_22 ?_
    have bv_lines := hv_lines.u
    refine lv_icmp_ge (tgt := 65) hx hb dX0_lastCoin_25 (by decide) (fun c21 => ?_) (fun c21 => ?_)
    · have c219 := i32_le c21 rfl rfl
      refine lv_iload_n hx hb dX0_lastCoin_65 rfl (lv_at hl 1 rfl) ?_
      have hP9 := hP.part (cx := [(o, Sum.inr (0, [Value.ref a_chosen, Value.int v_bestCost, Value.ref a_felt, Value.ref a_own, Value.ref a_share, Value.ref a_rest, Value.ref a_left, Value.ref a_tried, Value.int v_signs, Value.int v_lines, Value.int v_most])), (a_felt, Sum.inl (k_a_felt, 21, Sum.inl f_a_felt)), (a_own, Sum.inl (k_a_own, 4, Sum.inl f_a_own)), (a_share, Sum.inl (k_a_share, 5, Sum.inr (Sum.inr (Sum.inr (Sum.inr (rows_of 5 R_a_share)))))), (a_rest, Sum.inl (k_a_rest, 5, Sum.inr (Sum.inr (Sum.inr (Sum.inr (rows_of 5 R_a_rest)))))), (a_left, Sum.inl (k_a_left, 5, Sum.inr (Sum.inr (Sum.inr (Sum.inr (rows_of 5 R_a_left))))))]) [0, 1, 2, 3, 4, 5] rfl
      have hD9 := hD.part (cx := [(o, Sum.inr (0, [Value.ref a_chosen, Value.int v_bestCost, Value.ref a_felt, Value.ref a_own, Value.ref a_share, Value.ref a_rest, Value.ref a_left, Value.ref a_tried, Value.int v_signs, Value.int v_lines, Value.int v_most])), (a_felt, Sum.inl (k_a_felt, 21, Sum.inl f_a_felt)), (a_own, Sum.inl (k_a_own, 4, Sum.inl f_a_own)), (a_share, Sum.inl (k_a_share, 5, Sum.inr (Sum.inr (Sum.inr (Sum.inr (rows_of 5 R_a_share)))))), (a_rest, Sum.inl (k_a_rest, 5, Sum.inr (Sum.inr (Sum.inr (Sum.inr (rows_of 5 R_a_rest)))))), (a_left, Sum.inl (k_a_left, 5, Sum.inr (Sum.inr (Sum.inr (Sum.inr (rows_of 5 R_a_left))))))]) [0, 1, 2, 3, 4, 5] (by decide) rfl
      exact W.iret (v := v20) hx hb hr (fun t ht hW => ⟨⟨v20, v20, rfl, rfl, (hv20.w (by decide) (by decide)), by rw [ht]; exact hP9, hD9⟩, hS.F ht⟩) hS.2.2 dX0_lastCoin_66
    · have c219 := i32_nle c21 rfl rfl
      refine tl_loop (I := fun nn H locs ls => ∃ (v22 : Int32), nn = (v22.toInt - (-1)).toNat ∧ iv v22 (-1) 0 ∧  va_P (dC, dI) vwCl ([(o, Sum.inr (0, [Value.ref a_chosen, Value.int v_bestCost, Value.ref a_felt, Value.ref a_own, Value.ref a_share, Value.ref a_rest, Value.ref a_left, Value.ref a_tried, Value.int v_signs, Value.int v_lines, Value.int v_most])), (a_felt, Sum.inl (k_a_felt, 21, Sum.inl f_a_felt)), (a_own, Sum.inl (k_a_own, 4, Sum.inl f_a_own)), (a_share, Sum.inl (k_a_share, 5, Sum.inr (Sum.inr (Sum.inr (Sum.inr (rows_of 5 R_a_share)))))), (a_rest, Sum.inl (k_a_rest, 5, Sum.inr (Sum.inr (Sum.inr (Sum.inr (rows_of 5 R_a_rest)))))), (a_left, Sum.inl (k_a_left, 5, Sum.inr (Sum.inr (Sum.inr (Sum.inr (rows_of 5 R_a_left))))))] ++ va_pl LP fp) H ∧ va_D A ([(o, Sum.inr (0, [Value.ref a_chosen, Value.int v_bestCost, Value.ref a_felt, Value.ref a_own, Value.ref a_share, Value.ref a_rest, Value.ref a_left, Value.ref a_tried, Value.int v_signs, Value.int v_lines, Value.int v_most])), (a_felt, Sum.inl (k_a_felt, 21, Sum.inl f_a_felt)), (a_own, Sum.inl (k_a_own, 4, Sum.inl f_a_own)), (a_share, Sum.inl (k_a_share, 5, Sum.inr (Sum.inr (Sum.inr (Sum.inr (rows_of 5 R_a_share)))))), (a_rest, Sum.inl (k_a_rest, 5, Sum.inr (Sum.inr (Sum.inr (Sum.inr (rows_of 5 R_a_rest)))))), (a_left, Sum.inl (k_a_left, 5, Sum.inr (Sum.inr (Sum.inr (Sum.inr (rows_of 5 R_a_left))))))] ++ va_pl LP fp) ∧ va_S A s.heap H locs ∧ lv_has ls 4 [(3, Value.int v19), (2, Value.int v22), (0, Value.ref o), (1, Value.int p0)]) ?_ ⟨v20, rfl, hv20, hP, hD, hS, lv_sub hl [0, 1, 2, 3] rfl⟩
      clear hP hD hS hl
      intro nn28 H locs ls hI ih28
      obtain ⟨v22, hn28, hv22, hP, hD, hS, hl⟩ := hI
      have bv22 := hv22.u
      refine lv_iload_n hx hb dX0_lastCoin_28 rfl (lv_at hl 1 rfl) ?_
      refine lv_if_lt (tgt := 59) hx hb dX0_lastCoin_29 (by decide) (fun c23 => ?_) (fun c23 => ?_)
      · have c239 := i32_lt c23 rfl (show (0 : Int32).toInt = 0 by decide)
        obtain ⟨x24, ex24⟩ : ∃ z : Int32, v19 + Int32.ofInt 1 = z := ⟨_, rfl⟩
        have tx24 := i32_inc ex24 rfl (by decide) (by omega) (by omega)
        refine lv_iinc (v := x24) (lv' := [(3, Value.int x24), (2, Value.int v22), (0, Value.ref o), (1, Value.int p0)]) hx hb dX0_lastCoin_59 hl (k := 0) rfl ex24 (by decide) rfl (fun ls hl => ?_)
        refine lv_goto (tgt := 20) hx hb dX0_lastCoin_62 (by decide) ?_
        exact ih20 _ _ _ _ (by omega) ⟨x24, v22, rfl, (iv.m (by omega)), (iv.m (by omega)), hP, hD, hS, lv_sub hl [0, 1, 2, 3] rfl⟩
      · have c239 := i32_nlt c23 rfl (show (0 : Int32).toInt = 0 by decide)
        refine lv_aload_n hx hb dX0_lastCoin_32 rfl (lv_at hl 2 rfl) ?_
        refine va_get (D := (dC, dI)) (ci := 0) (v := Value.ref a_share) (C := RX0) (T := TX0) (N := 11) hx hb hts iw_X0_lastCoin_X0 hown hK hP 0 rfl rfl 4 (by decide) (hts _ kk_X0_lastCoin_3) (fun _ h9 => h9) rfl dX0_lastCoin_33 ?_
        refine lv_iload_n hx hb dX0_lastCoin_36 rfl (lv_at hl 0 rfl) ?_
        have hinrw25 : vp_in v19 5 := (vq_in v19 5 (by omega))
        refine va_aldA hx hb hK hP 3 2 rfl rfl hinrw25 dX0_lastCoin_37 ?_
        refine px_v (row_sel hinrw25) ?_
        obtain ⟨rw25, erw25⟩ : ∃ z : Nat, z = R_a_share (Int32.toNatClampNeg v19) := ⟨_, rfl⟩
        rw [← erw25]
        have mrw25 : rw25 ∈ LP ∧ sh rw25 = 4 := by rw [erw25]; exact hRR_a_share _ (vin_lt hinrw25)
        refine lv_iload_n hx hb dX0_lastCoin_38 rfl (lv_at hl 3 rfl) ?_
        obtain ⟨gk26, hgk26⟩ := pok_4 (hfp) mrw25
        obtain ⟨kk27, hkk27⟩ := va_pl_get (X := [(o, Sum.inr (0, [Value.ref a_chosen, Value.int v_bestCost, Value.ref a_felt, Value.ref a_own, Value.ref a_share, Value.ref a_rest, Value.ref a_left, Value.ref a_tried, Value.int v_signs, Value.int v_lines, Value.int v_most])), (a_felt, Sum.inl (k_a_felt, 21, Sum.inl f_a_felt)), (a_own, Sum.inl (k_a_own, 4, Sum.inl f_a_own)), (a_share, Sum.inl (k_a_share, 5, Sum.inr (Sum.inr (Sum.inr (Sum.inr (rows_of 5 R_a_share)))))), (a_rest, Sum.inl (k_a_rest, 5, Sum.inr (Sum.inr (Sum.inr (Sum.inr (rows_of 5 R_a_rest)))))), (a_left, Sum.inl (k_a_left, 5, Sum.inr (Sum.inr (Sum.inr (Sum.inr (rows_of 5 R_a_left))))))]) (f := fp) mrw25.1
        have qkk27 := hkk27
        rw [hgk26] at qkk27
        refine va_iald hx hb hK hP kk27 5 qkk27 rfl (vq_in p0 4 (by omega)) dX0_lastCoin_39 ?_
        refine lv_topi (fun x28 ex28 => ?_)
        have bx28 := i32_rng x28
        refine lv_if_ge (tgt := 59) hx hb dX0_lastCoin_40 (by decide) (fun c29 => ?_) (fun c29 => ?_)
        · have c299 := i32_le c29 (show (0 : Int32).toInt = 0 by decide) rfl
          obtain ⟨x30, ex30⟩ : ∃ z : Int32, v19 + Int32.ofInt 1 = z := ⟨_, rfl⟩
          have tx30 := i32_inc ex30 rfl (by decide) (by omega) (by omega)
          refine lv_iinc (v := x30) (lv' := [(3, Value.int x30), (2, Value.int v22), (0, Value.ref o), (1, Value.int p0)]) hx hb dX0_lastCoin_59 hl (k := 0) rfl ex30 (by decide) rfl (fun ls hl => ?_)
          refine lv_goto (tgt := 20) hx hb dX0_lastCoin_62 (by decide) ?_
          exact ih20 _ _ _ _ (by omega) ⟨x30, v22, rfl, (iv.m (by omega)), (iv.m (by omega)), hP, hD, hS, lv_sub hl [0, 1, 2, 3] rfl⟩
        · have c299 := i32_nle c29 (show (0 : Int32).toInt = 0 by decide) rfl
          refine lv_aload_n hx hb dX0_lastCoin_43 rfl (lv_at hl 2 rfl) ?_
          refine lv_iload_n hx hb dX0_lastCoin_44 rfl (lv_at hl 0 rfl) ?_
          refine lv_iload_n hx hb dX0_lastCoin_45 rfl (lv_at hl 3 rfl) ?_
          refine lv_iload_n hx hb dX0_lastCoin_46 rfl (lv_at hl 1 rfl) ?_
          have hPc := hP.part (cx := [(o, Sum.inr (0, [Value.ref a_chosen, Value.int v_bestCost, Value.ref a_felt, Value.ref a_own, Value.ref a_share, Value.ref a_rest, Value.ref a_left, Value.ref a_tried, Value.int v_signs, Value.int v_lines, Value.int v_most])), (a_felt, Sum.inl (k_a_felt, 21, Sum.inl f_a_felt)), (a_share, Sum.inl (k_a_share, 5, Sum.inr (Sum.inr (Sum.inr (Sum.inr (rows_of 5 R_a_share)))))), (a_rest, Sum.inl (k_a_rest, 5, Sum.inr (Sum.inr (Sum.inr (Sum.inr (rows_of 5 R_a_rest)))))), (a_left, Sum.inl (k_a_left, 5, Sum.inr (Sum.inr (Sum.inr (Sum.inr (rows_of 5 R_a_left))))))]) [0, 1, 3, 4, 5] rfl
          have hDc := hD.part (cx := [(o, Sum.inr (0, [Value.ref a_chosen, Value.int v_bestCost, Value.ref a_felt, Value.ref a_own, Value.ref a_share, Value.ref a_rest, Value.ref a_left, Value.ref a_tried, Value.int v_signs, Value.int v_lines, Value.int v_most])), (a_felt, Sum.inl (k_a_felt, 21, Sum.inl f_a_felt)), (a_share, Sum.inl (k_a_share, 5, Sum.inr (Sum.inr (Sum.inr (Sum.inr (rows_of 5 R_a_share)))))), (a_rest, Sum.inl (k_a_rest, 5, Sum.inr (Sum.inr (Sum.inr (Sum.inr (rows_of 5 R_a_rest)))))), (a_left, Sum.inl (k_a_left, 5, Sum.inr (Sum.inr (Sum.inr (Sum.inr (rows_of 5 R_a_left))))))]) [0, 1, 3, 4, 5] (by decide) rfl
          have hKc := hK.sub (tys' := [(k_a_felt, FieldType.int), (k_a_share, (FieldType.array FieldType.int)), (k_a_rest, (FieldType.array FieldType.int)), (k_a_left, (FieldType.array FieldType.int)), (cI, FieldType.int), (cJ, FieldType.long)]) [0, 2, 3, 4, 5, 6] rfl
          have hFc := va_freeP (cx := [(o, Sum.inr (0, [Value.ref a_chosen, Value.int v_bestCost, Value.ref a_felt, Value.ref a_own, Value.ref a_share, Value.ref a_rest, Value.ref a_left, Value.ref a_tried, Value.int v_signs, Value.int v_lines, Value.int v_most])), (a_felt, Sum.inl (k_a_felt, 21, Sum.inl f_a_felt)), (a_share, Sum.inl (k_a_share, 5, Sum.inr (Sum.inr (Sum.inr (Sum.inr (rows_of 5 R_a_share)))))), (a_rest, Sum.inl (k_a_rest, 5, Sum.inr (Sum.inr (Sum.inr (Sum.inr (rows_of 5 R_a_rest)))))), (a_left, Sum.inl (k_a_left, 5, Sum.inr (Sum.inr (Sum.inr (Sum.inr (rows_of 5 R_a_left))))))]) hD hS hA [0, 1, 3, 4, 5] rfl
          refine va_calli (va_runV (As := [Value.int v19, Value.int p0, Value.int v22]) (rest := []) ⟨hx, hb, hml, hown, hts⟩ (ct_X0_isShort l dC dI o v19 p0 v22 a_chosen v_bestCost a_felt a_own a_share a_rest a_left a_tried v_signs v_lines v_most k_a_felt f_a_felt k_a_share R_a_share k_a_rest R_a_rest k_a_left R_a_left LP sh fp cI cJ (iv.m (by omega)) hp0 (iv.m (by omega)) hfp hRR_a_share hRR_a_rest hRR_a_left H.size) (cwV 3 hts gX0_lastCoin_X0_isShort rfl rfl rfl ⟨rfl, cn_X0.1, cn_X0.2, ds_6⟩ ⟨Nat.le_of_ble_eq_true rfl, Nat.le_of_ble_eq_true rfl⟩) ⟨fun a U g mk q => by obtain ⟨q0, q1, qP, qK, qD⟩ := q; exact ⟨q0, q1, qP, va_K.moved (u := U) (U := U.calling g mk a) (Vm.Alike.refl U.vm) qK, qD⟩, va_recv hKc hPc (ci := 0) (q0 := 0) rfl rfl, fun U hU hW => ⟨rfl, by rw [hU], by rw [hU]; exact hPc, va_K.moved hW.alike hKc, hDc.weaken (fun _ _ _ _ => trivial)⟩⟩ rfl rfl hl.1 rfl (lv_room (Nat.le_of_ble_eq_true rfl)) dX0_lastCoin_47 ⟨Nat.le_of_ble_eq_true rfl, Nat.le_of_ble_eq_true rfl⟩) hS (fun q _ h => hFc q h) hFc (fun r31 u t H1 locs ht hvm hw hB hz1 hk1 hS => ?_)
          have hw : r31 = u := hw.symm
          subst hw
          obtain ⟨w32, hP1, hD1⟩ := hB
          rw [ht] at hP1
          obtain ⟨hP, hD⟩ := va_joinP (X := [(o, Sum.inr (0, [Value.ref a_chosen, Value.int v_bestCost, Value.ref a_felt, Value.ref a_own, Value.ref a_share, Value.ref a_rest, Value.ref a_left, Value.ref a_tried, Value.int v_signs, Value.int v_lines, Value.int v_most])), (a_felt, Sum.inl (k_a_felt, 21, Sum.inl f_a_felt)), (a_own, Sum.inl (k_a_own, 4, Sum.inl f_a_own)), (a_share, Sum.inl (k_a_share, 5, Sum.inr (Sum.inr (Sum.inr (Sum.inr (rows_of 5 R_a_share)))))), (a_rest, Sum.inl (k_a_rest, 5, Sum.inr (Sum.inr (Sum.inr (Sum.inr (rows_of 5 R_a_rest)))))), (a_left, Sum.inl (k_a_left, 5, Sum.inr (Sum.inr (Sum.inr (Sum.inr (rows_of 5 R_a_left))))))]) (cx := [(o, Sum.inr (0, [Value.ref a_chosen, Value.int v_bestCost, Value.ref a_felt, Value.ref a_own, Value.ref a_share, Value.ref a_rest, Value.ref a_left, Value.ref a_tried, Value.int v_signs, Value.int v_lines, Value.int v_most])), (a_felt, Sum.inl (k_a_felt, 21, Sum.inl f_a_felt)), (a_share, Sum.inl (k_a_share, 5, Sum.inr (Sum.inr (Sum.inr (Sum.inr (rows_of 5 R_a_share)))))), (a_rest, Sum.inl (k_a_rest, 5, Sum.inr (Sum.inr (Sum.inr (Sum.inr (rows_of 5 R_a_rest)))))), (a_left, Sum.inl (k_a_left, 5, Sum.inr (Sum.inr (Sum.inr (Sum.inr (rows_of 5 R_a_left))))))]) (wr := [(a_own, Sum.inl (k_a_own, 4, Sum.inl f_a_own))]) (rx := [(o, Sum.inr (0, [Value.ref a_chosen, Value.int v_bestCost, Value.ref a_felt, Value.ref a_own, Value.ref a_share, Value.ref a_rest, Value.ref a_left, Value.ref a_tried, Value.int v_signs, Value.int v_lines, Value.int v_most])), (a_felt, Sum.inl (k_a_felt, 21, Sum.inl f_a_felt)), (a_share, Sum.inl (k_a_share, 5, Sum.inr (Sum.inr (Sum.inr (Sum.inr (rows_of 5 R_a_share)))))), (a_rest, Sum.inl (k_a_rest, 5, Sum.inr (Sum.inr (Sum.inr (Sum.inr (rows_of 5 R_a_rest)))))), (a_left, Sum.inl (k_a_left, 5, Sum.inr (Sum.inr (Sum.inr (Sum.inr (rows_of 5 R_a_left))))))]) hP hD [0, 1, 3, 4, 5] [2] rfl rfl (by decide) (by decide) hk1 hFc hP1 hD1
          clear hPc hDc hKc hFc hP1 hD1 hk1 hz1
          generalize H1 = H at hP hS ⊢
          have hP : va_P (dC, dI) vwCl ([(a_own, Sum.inl (k_a_own, 4, Sum.inl f_a_own)), (o, Sum.inr (0, [Value.ref a_chosen, Value.int v_bestCost, Value.ref a_felt, Value.ref a_own, Value.ref a_share, Value.ref a_rest, Value.ref a_left, Value.ref a_tried, Value.int v_signs, Value.int v_lines, Value.int v_most])), (a_felt, Sum.inl (k_a_felt, 21, Sum.inl f_a_felt)), (a_share, Sum.inl (k_a_share, 5, Sum.inr (Sum.inr (Sum.inr (Sum.inr (rows_of 5 R_a_share)))))), (a_rest, Sum.inl (k_a_rest, 5, Sum.inr (Sum.inr (Sum.inr (Sum.inr (rows_of 5 R_a_rest)))))), (a_left, Sum.inl (k_a_left, 5, Sum.inr (Sum.inr (Sum.inr (Sum.inr (rows_of 5 R_a_left))))))] ++ va_pl LP fp) H := hP
          have hD : va_D A ([(a_own, Sum.inl (k_a_own, 4, Sum.inl f_a_own)), (o, Sum.inr (0, [Value.ref a_chosen, Value.int v_bestCost, Value.ref a_felt, Value.ref a_own, Value.ref a_share, Value.ref a_rest, Value.ref a_left, Value.ref a_tried, Value.int v_signs, Value.int v_lines, Value.int v_most])), (a_felt, Sum.inl (k_a_felt, 21, Sum.inl f_a_felt)), (a_share, Sum.inl (k_a_share, 5, Sum.inr (Sum.inr (Sum.inr (Sum.inr (rows_of 5 R_a_share)))))), (a_rest, Sum.inl (k_a_rest, 5, Sum.inr (Sum.inr (Sum.inr (Sum.inr (rows_of 5 R_a_rest)))))), (a_left, Sum.inl (k_a_left, 5, Sum.inr (Sum.inr (Sum.inr (Sum.inr (rows_of 5 R_a_left))))))] ++ va_pl LP fp) := hD
          refine W.widen (k := 0) (n := 0) (by decide) (by decide) ?_
          rcases w32 with hr9 | hr9
          · subst hr9
            refine lv_if_eq (tgt := 59) hx hb dX0_lastCoin_50 (by decide) (fun _ => ?_) (fun cz => absurd cz (by decide))
            obtain ⟨x33, ex33⟩ : ∃ z : Int32, v19 + Int32.ofInt 1 = z := ⟨_, rfl⟩
            have tx33 := i32_inc ex33 rfl (by decide) (by omega) (by omega)
            refine lv_iinc (v := x33) (lv' := [(3, Value.int x33), (2, Value.int v22), (0, Value.ref o), (1, Value.int p0)]) hx hb dX0_lastCoin_59 hl (k := 0) rfl ex33 (by decide) rfl (fun ls hl => ?_)
            refine lv_goto (tgt := 20) hx hb dX0_lastCoin_62 (by decide) ?_
            exact ih20 _ _ _ _ (by omega) ⟨x33, v22, rfl, (iv.m (by omega)), (iv.m (by omega)), hP.part [1, 2, 0, 3, 4, 5] rfl, hD.part [1, 2, 0, 3, 4, 5] (by decide) rfl, hS, lv_sub hl [0, 1, 2, 3] rfl⟩
          · subst hr9
            refine lv_if_eq (tgt := 59) hx hb dX0_lastCoin_50 (by decide) (fun cz => absurd cz (by decide)) (fun _ => ?_)
            obtain ⟨x34, ex34⟩ : ∃ z : Int32, v22 + Int32.ofInt (-1) = z := ⟨_, rfl⟩
            have tx34 := i32_inc ex34 rfl (by decide) (by omega) (by omega)
            refine lv_iinc (v := x34) (lv' := [(2, Value.int x34), (3, Value.int v19), (0, Value.ref o), (1, Value.int p0)]) hx hb dX0_lastCoin_53 hl (k := 1) rfl ex34 (by decide) rfl (fun ls hl => ?_)
            refine lv_goto (tgt := 28) hx hb dX0_lastCoin_56 (by decide) ?_
            exact ih28 _ _ _ _ (by omega) ⟨x34, rfl, (iv.m (by omega)), hP.part [1, 2, 0, 3, 4, 5] rfl, hD.part [1, 2, 0, 3, 4, 5] (by decide) rfl, hS, lv_sub hl [1, 0, 2, 3] rfl⟩

set_option maxHeartbeats 4000000 in
set_option maxRecDepth 100000 in
theorem ct_X0_firstCoin (l : Launch) (dC : Nat → ClassId) (dI : Nat → Nat → Nat) (o : Nat) (p0 : Int32) (a_chosen : Nat) (v_bestCost : Int32) (a_felt : Nat) (a_own : Nat) (a_share : Nat) (a_rest : Nat) (a_left : Nat) (a_tried : Nat) (v_signs : Int32) (v_lines : Int32) (v_most : Int32) (k_a_felt : ClassId) (f_a_felt : Nat → Int32) (k_a_share : ClassId) (R_a_share : Nat → Nat) (k_a_rest : ClassId) (R_a_rest : Nat → Nat) (k_a_left : ClassId) (R_a_left : Nat → Nat) (LP : List Nat) (sh : Nat → Nat) (fp : Nat → va_E) (cI : ClassId) (cJ : ClassId) (hp0 : iv p0 0 3) (hv_lines : iv v_lines 0 5) (hv_most : iv v_most 0 20) (hfp : pok cI cJ LP sh fp) (hRR_a_share : ∀ i : Nat, i < 5 → R_a_share i ∈ LP ∧ sh (R_a_share i) = 4) (hRR_a_rest : ∀ i : Nat, i < 5 → R_a_rest i ∈ LP ∧ sh (R_a_rest i) = 5) (hRR_a_left : ∀ i : Nat, i < 5 → R_a_left i ∈ LP ∧ sh (R_a_left i) = 5) (sz : Nat) : Met l yX0_firstCoin wsX0_firstCoin ({ frames := 1, cells := 0, slots := 0, locals := 23 }) (va_Pc [Value.ref o, Value.int p0] (fun U => U.heap.size = sz ∧ va_P (dC, dI) vwCl ([(o, Sum.inr (0, [Value.ref a_chosen, Value.int v_bestCost, Value.ref a_felt, Value.ref a_own, Value.ref a_share, Value.ref a_rest, Value.ref a_left, Value.ref a_tried, Value.int v_signs, Value.int v_lines, Value.int v_most])), (a_felt, Sum.inl (k_a_felt, 21, Sum.inl f_a_felt)), (a_share, Sum.inl (k_a_share, 5, Sum.inr (Sum.inr (Sum.inr (Sum.inr (rows_of 5 R_a_share)))))), (a_rest, Sum.inl (k_a_rest, 5, Sum.inr (Sum.inr (Sum.inr (Sum.inr (rows_of 5 R_a_rest)))))), (a_left, Sum.inl (k_a_left, 5, Sum.inr (Sum.inr (Sum.inr (Sum.inr (rows_of 5 R_a_left))))))] ++ va_pl LP fp) U.heap ∧ va_K (dC, dI) vwCl [(k_a_felt, FieldType.int), (k_a_share, (FieldType.array FieldType.int)), (k_a_rest, (FieldType.array FieldType.int)), (k_a_left, (FieldType.array FieldType.int)), (cI, FieldType.int), (cJ, FieldType.long)] U ∧ va_D (fun _ => True) ([(o, Sum.inr (0, [Value.ref a_chosen, Value.int v_bestCost, Value.ref a_felt, Value.ref a_own, Value.ref a_share, Value.ref a_rest, Value.ref a_left, Value.ref a_tried, Value.int v_signs, Value.int v_lines, Value.int v_most])), (a_felt, Sum.inl (k_a_felt, 21, Sum.inl f_a_felt)), (a_share, Sum.inl (k_a_share, 5, Sum.inr (Sum.inr (Sum.inr (Sum.inr (rows_of 5 R_a_share)))))), (a_rest, Sum.inl (k_a_rest, 5, Sum.inr (Sum.inr (Sum.inr (Sum.inr (rows_of 5 R_a_rest)))))), (a_left, Sum.inl (k_a_left, 5, Sum.inr (Sum.inr (Sum.inr (Sum.inr (rows_of 5 R_a_left))))))] ++ va_pl LP fp))) (va_Qi (fun (r u : Int32) => u = r) (fun (r : Int32) t => iv r 0 21 ∧ va_P (dC, dI) vwCl ([(o, Sum.inr (0, [Value.ref a_chosen, Value.int v_bestCost, Value.ref a_felt, Value.ref a_own, Value.ref a_share, Value.ref a_rest, Value.ref a_left, Value.ref a_tried, Value.int v_signs, Value.int v_lines, Value.int v_most])), (a_felt, Sum.inl (k_a_felt, 21, Sum.inl f_a_felt)), (a_share, Sum.inl (k_a_share, 5, Sum.inr (Sum.inr (Sum.inr (Sum.inr (rows_of 5 R_a_share)))))), (a_rest, Sum.inl (k_a_rest, 5, Sum.inr (Sum.inr (Sum.inr (Sum.inr (rows_of 5 R_a_rest)))))), (a_left, Sum.inl (k_a_left, 5, Sum.inr (Sum.inr (Sum.inr (Sum.inr (rows_of 5 R_a_left))))))] ++ va_pl LP fp) t.heap ∧ va_D (va_A ([(o, Sum.inr (0, [Value.ref a_chosen, Value.int v_bestCost, Value.ref a_felt, Value.ref a_own, Value.ref a_share, Value.ref a_rest, Value.ref a_left, Value.ref a_tried, Value.int v_signs, Value.int v_lines, Value.int v_most])), (a_felt, Sum.inl (k_a_felt, 21, Sum.inl f_a_felt)), (a_share, Sum.inl (k_a_share, 5, Sum.inr (Sum.inr (Sum.inr (Sum.inr (rows_of 5 R_a_share)))))), (a_rest, Sum.inl (k_a_rest, 5, Sum.inr (Sum.inr (Sum.inr (Sum.inr (rows_of 5 R_a_rest)))))), (a_left, Sum.inl (k_a_left, 5, Sum.inr (Sum.inr (Sum.inr (Sum.inr (rows_of 5 R_a_left))))))] ++ va_pl LP fp) sz) ([(o, Sum.inr (0, [Value.ref a_chosen, Value.int v_bestCost, Value.ref a_felt, Value.ref a_own, Value.ref a_share, Value.ref a_rest, Value.ref a_left, Value.ref a_tried, Value.int v_signs, Value.int v_lines, Value.int v_most])), (a_felt, Sum.inl (k_a_felt, 21, Sum.inl f_a_felt)), (a_share, Sum.inl (k_a_share, 5, Sum.inr (Sum.inr (Sum.inr (Sum.inr (rows_of 5 R_a_share)))))), (a_rest, Sum.inl (k_a_rest, 5, Sum.inr (Sum.inr (Sum.inr (Sum.inr (rows_of 5 R_a_rest)))))), (a_left, Sum.inl (k_a_left, 5, Sum.inr (Sum.inr (Sum.inr (Sum.inr (rows_of 5 R_a_left))))))] ++ va_pl LP fp)) (va_A ([(o, Sum.inr (0, [Value.ref a_chosen, Value.int v_bestCost, Value.ref a_felt, Value.ref a_own, Value.ref a_share, Value.ref a_rest, Value.ref a_left, Value.ref a_tried, Value.int v_signs, Value.int v_lines, Value.int v_most])), (a_felt, Sum.inl (k_a_felt, 21, Sum.inl f_a_felt)), (a_share, Sum.inl (k_a_share, 5, Sum.inr (Sum.inr (Sum.inr (Sum.inr (rows_of 5 R_a_share)))))), (a_rest, Sum.inl (k_a_rest, 5, Sum.inr (Sum.inr (Sum.inr (Sum.inr (rows_of 5 R_a_rest)))))), (a_left, Sum.inl (k_a_left, 5, Sum.inr (Sum.inr (Sum.inr (Sum.inr (rows_of 5 R_a_left))))))] ++ va_pl LP fp) sz)) 0 0 (va_A ([(o, Sum.inr (0, [Value.ref a_chosen, Value.int v_bestCost, Value.ref a_felt, Value.ref a_own, Value.ref a_share, Value.ref a_rest, Value.ref a_left, Value.ref a_tried, Value.int v_signs, Value.int v_lines, Value.int v_most])), (a_felt, Sum.inl (k_a_felt, 21, Sum.inl f_a_felt)), (a_share, Sum.inl (k_a_share, 5, Sum.inr (Sum.inr (Sum.inr (Sum.inr (rows_of 5 R_a_share)))))), (a_rest, Sum.inl (k_a_rest, 5, Sum.inr (Sum.inr (Sum.inr (Sum.inr (rows_of 5 R_a_rest)))))), (a_left, Sum.inl (k_a_left, 5, Sum.inr (Sum.inr (Sum.inr (Sum.inr (rows_of 5 R_a_left))))))] ++ va_pl LP fp) sz) := by
  refine Met.ofW (cc := cX0_firstCoin) (maxL := 4) (ret := (some .int)) pn_X0 rfl ?_
  intro p e s m args below meth c s₁ B hml hv
  obtain ⟨rfl, hsz, hP, hK, hD0⟩ := hv
  have hx := B.exec
  have hb := B.bytes
  have hr := B.returns
  have hts := atoms_spec (ws := wsX0_firstCoin) B.pre
  have hown : s.vm.findClass RX0 = some m.cls := findClass_of_methodNamed B.named
  have hlocks := B.notSynchronized
  subst hsz
  have hD := hD0.self (sz := s.heap.size)
  generalize hAe : va_A ([(o, Sum.inr (0, [Value.ref a_chosen, Value.int v_bestCost, Value.ref a_felt, Value.ref a_own, Value.ref a_share, Value.ref a_rest, Value.ref a_left, Value.ref a_tried, Value.int v_signs, Value.int v_lines, Value.int v_most])), (a_felt, Sum.inl (k_a_felt, 21, Sum.inl f_a_felt)), (a_share, Sum.inl (k_a_share, 5, Sum.inr (Sum.inr (Sum.inr (Sum.inr (rows_of 5 R_a_share)))))), (a_rest, Sum.inl (k_a_rest, 5, Sum.inr (Sum.inr (Sum.inr (Sum.inr (rows_of 5 R_a_rest)))))), (a_left, Sum.inl (k_a_left, 5, Sum.inr (Sum.inr (Sum.inr (Sum.inr (rows_of 5 R_a_left))))))] ++ va_pl LP fp) s.heap.size = A at hD ⊢
  have hA : ∀ q : Nat, s.heap.size ≤ q → A q := fun q h => by rw [← hAe]; exact Or.inr h
  have hS : va_S A s.heap s.heap [] := va_S.rf
  have hP : va_P (dC, dI) vwCl ([(o, Sum.inr (0, [Value.ref a_chosen, Value.int v_bestCost, Value.ref a_felt, Value.ref a_own, Value.ref a_share, Value.ref a_rest, Value.ref a_left, Value.ref a_tried, Value.int v_signs, Value.int v_lines, Value.int v_most])), (a_felt, Sum.inl (k_a_felt, 21, Sum.inl f_a_felt)), (a_share, Sum.inl (k_a_share, 5, Sum.inr (Sum.inr (Sum.inr (Sum.inr (rows_of 5 R_a_share)))))), (a_rest, Sum.inl (k_a_rest, 5, Sum.inr (Sum.inr (Sum.inr (Sum.inr (rows_of 5 R_a_rest)))))), (a_left, Sum.inl (k_a_left, 5, Sum.inr (Sum.inr (Sum.inr (Sum.inr (rows_of 5 R_a_left))))))] ++ va_pl LP fp) s.heap := hP
  have hl := lv_entry ([Value.ref o, Value.int p0]) (n := 4) (Nat.le_of_ble_eq_true rfl)
  rw [lg_entry_eq]
  generalize (lg_sl ([Value.ref o, Value.int p0]) ++ List.replicate (4 - (lg_sl ([Value.ref o, Value.int p0])).length) Slot.unset).toArray = ls at hl ⊢
  have hl : lv_has ls 4 [(0, Value.ref o), (1, Value.int p0)] := hl
  refine lv_iconst (v := 0) hx hb dX0_firstCoin_0 (by decide) ?_
  refine lv_istore_n (lv' := [(2, Value.int 0), (0, Value.ref o), (1, Value.int p0)]) hx hb dX0_firstCoin_1 rfl hl (by decide) rfl (fun ls hl => ?_)
  refine lv_iconst (v := 0) hx hb dX0_firstCoin_2 (by decide) ?_
  refine lv_istore_n (lv' := [(3, Value.int 0), (2, Value.int 0), (0, Value.ref o), (1, Value.int p0)]) hx hb dX0_firstCoin_3 rfl hl (by decide) rfl (fun ls hl => ?_)
  refine tl_loop (I := fun nn H locs ls => ∃ (v1 : Int32) (v2 : Int32), nn = (5 - v1.toInt).toNat ∧ iv v1 0 5 ∧ iv v2 0 21 ∧  va_P (dC, dI) vwCl ([(o, Sum.inr (0, [Value.ref a_chosen, Value.int v_bestCost, Value.ref a_felt, Value.ref a_own, Value.ref a_share, Value.ref a_rest, Value.ref a_left, Value.ref a_tried, Value.int v_signs, Value.int v_lines, Value.int v_most])), (a_felt, Sum.inl (k_a_felt, 21, Sum.inl f_a_felt)), (a_share, Sum.inl (k_a_share, 5, Sum.inr (Sum.inr (Sum.inr (Sum.inr (rows_of 5 R_a_share)))))), (a_rest, Sum.inl (k_a_rest, 5, Sum.inr (Sum.inr (Sum.inr (Sum.inr (rows_of 5 R_a_rest)))))), (a_left, Sum.inl (k_a_left, 5, Sum.inr (Sum.inr (Sum.inr (Sum.inr (rows_of 5 R_a_left))))))] ++ va_pl LP fp) H ∧ va_D A ([(o, Sum.inr (0, [Value.ref a_chosen, Value.int v_bestCost, Value.ref a_felt, Value.ref a_own, Value.ref a_share, Value.ref a_rest, Value.ref a_left, Value.ref a_tried, Value.int v_signs, Value.int v_lines, Value.int v_most])), (a_felt, Sum.inl (k_a_felt, 21, Sum.inl f_a_felt)), (a_share, Sum.inl (k_a_share, 5, Sum.inr (Sum.inr (Sum.inr (Sum.inr (rows_of 5 R_a_share)))))), (a_rest, Sum.inl (k_a_rest, 5, Sum.inr (Sum.inr (Sum.inr (Sum.inr (rows_of 5 R_a_rest)))))), (a_left, Sum.inl (k_a_left, 5, Sum.inr (Sum.inr (Sum.inr (Sum.inr (rows_of 5 R_a_left))))))] ++ va_pl LP fp) ∧ va_S A s.heap H locs ∧ lv_has ls 4 [(3, Value.int v1), (2, Value.int v2), (0, Value.ref o), (1, Value.int p0)]) ?_ ⟨0, 0, rfl, (iv.m (by decide)), (iv.m (by decide)), hP, hD, hS, lv_sub hl [0, 1, 2, 3] rfl⟩
  clear hP hD hS hl
  intro nn4 H locs ls hI ih4
  obtain ⟨v1, v2, hn4, hv1, hv2, hP, hD, hS, hl⟩ := hI
  have bv1 := hv1.u
  have bv2 := hv2.u
  refine lv_iload_n hx hb dX0_firstCoin_4 rfl (lv_at hl 0 rfl) ?_
  refine lv_aload_n hx hb dX0_firstCoin_5 rfl (lv_at hl 2 rfl) ?_
  refine va_get (D := (dC, dI)) (ci := 0) (v := Value.int v_lines) (C := RX0) (T := TX0) (N := 11) hx hb hts iw_X0_firstCoin_X0 hown hK hP 0 rfl rfl 9 (by decide) (hts _ kk_X0_firstCoin_0) (fun _ h9 => h9) rfl dX0_firstCoin_6 ?_
  have bv_lines := hv_lines.u
  refine lv_icmp_ge (tgt := 53) hx hb dX0_firstCoin_9 (by decide) (fun c3 => ?_) (fun c3 => ?_)
  · have c39 := i32_le c3 rfl rfl
    refine lv_iload_n hx hb dX0_firstCoin_53 rfl (lv_at hl 1 rfl) ?_
    have hP9 := hP.part (cx := [(o, Sum.inr (0, [Value.ref a_chosen, Value.int v_bestCost, Value.ref a_felt, Value.ref a_own, Value.ref a_share, Value.ref a_rest, Value.ref a_left, Value.ref a_tried, Value.int v_signs, Value.int v_lines, Value.int v_most])), (a_felt, Sum.inl (k_a_felt, 21, Sum.inl f_a_felt)), (a_share, Sum.inl (k_a_share, 5, Sum.inr (Sum.inr (Sum.inr (Sum.inr (rows_of 5 R_a_share)))))), (a_rest, Sum.inl (k_a_rest, 5, Sum.inr (Sum.inr (Sum.inr (Sum.inr (rows_of 5 R_a_rest)))))), (a_left, Sum.inl (k_a_left, 5, Sum.inr (Sum.inr (Sum.inr (Sum.inr (rows_of 5 R_a_left))))))]) [0, 1, 2, 3, 4] rfl
    have hD9 := hD.part (cx := [(o, Sum.inr (0, [Value.ref a_chosen, Value.int v_bestCost, Value.ref a_felt, Value.ref a_own, Value.ref a_share, Value.ref a_rest, Value.ref a_left, Value.ref a_tried, Value.int v_signs, Value.int v_lines, Value.int v_most])), (a_felt, Sum.inl (k_a_felt, 21, Sum.inl f_a_felt)), (a_share, Sum.inl (k_a_share, 5, Sum.inr (Sum.inr (Sum.inr (Sum.inr (rows_of 5 R_a_share)))))), (a_rest, Sum.inl (k_a_rest, 5, Sum.inr (Sum.inr (Sum.inr (Sum.inr (rows_of 5 R_a_rest)))))), (a_left, Sum.inl (k_a_left, 5, Sum.inr (Sum.inr (Sum.inr (Sum.inr (rows_of 5 R_a_left))))))]) [0, 1, 2, 3, 4] (by decide) rfl
    exact W.iret (v := v2) hx hb hr (fun t ht hW => ⟨⟨v2, v2, rfl, rfl, hv2, by rw [ht]; exact hP9, hD9⟩, hS.F ht⟩) hS.2.2 dX0_firstCoin_54
  · have c39 := i32_nle c3 rfl rfl
    refine tl_loop (I := fun nn H locs ls => ∃ (v4 : Int32), nn = (21 - v4.toInt).toNat ∧ iv v4 0 21 ∧  va_P (dC, dI) vwCl ([(o, Sum.inr (0, [Value.ref a_chosen, Value.int v_bestCost, Value.ref a_felt, Value.ref a_own, Value.ref a_share, Value.ref a_rest, Value.ref a_left, Value.ref a_tried, Value.int v_signs, Value.int v_lines, Value.int v_most])), (a_felt, Sum.inl (k_a_felt, 21, Sum.inl f_a_felt)), (a_share, Sum.inl (k_a_share, 5, Sum.inr (Sum.inr (Sum.inr (Sum.inr (rows_of 5 R_a_share)))))), (a_rest, Sum.inl (k_a_rest, 5, Sum.inr (Sum.inr (Sum.inr (Sum.inr (rows_of 5 R_a_rest)))))), (a_left, Sum.inl (k_a_left, 5, Sum.inr (Sum.inr (Sum.inr (Sum.inr (rows_of 5 R_a_left))))))] ++ va_pl LP fp) H ∧ va_D A ([(o, Sum.inr (0, [Value.ref a_chosen, Value.int v_bestCost, Value.ref a_felt, Value.ref a_own, Value.ref a_share, Value.ref a_rest, Value.ref a_left, Value.ref a_tried, Value.int v_signs, Value.int v_lines, Value.int v_most])), (a_felt, Sum.inl (k_a_felt, 21, Sum.inl f_a_felt)), (a_share, Sum.inl (k_a_share, 5, Sum.inr (Sum.inr (Sum.inr (Sum.inr (rows_of 5 R_a_share)))))), (a_rest, Sum.inl (k_a_rest, 5, Sum.inr (Sum.inr (Sum.inr (Sum.inr (rows_of 5 R_a_rest)))))), (a_left, Sum.inl (k_a_left, 5, Sum.inr (Sum.inr (Sum.inr (Sum.inr (rows_of 5 R_a_left))))))] ++ va_pl LP fp) ∧ va_S A s.heap H locs ∧ lv_has ls 4 [(3, Value.int v1), (2, Value.int v4), (0, Value.ref o), (1, Value.int p0)]) ?_ ⟨v2, rfl, hv2, hP, hD, hS, lv_sub hl [0, 1, 2, 3] rfl⟩
    clear hP hD hS hl
    intro nn12 H locs ls hI ih12
    obtain ⟨v4, hn12, hv4, hP, hD, hS, hl⟩ := hI
    have bv4 := hv4.u
    refine lv_iload_n hx hb dX0_firstCoin_12 rfl (lv_at hl 1 rfl) ?_
    refine lv_aload_n hx hb dX0_firstCoin_13 rfl (lv_at hl 2 rfl) ?_
    refine va_get (D := (dC, dI)) (ci := 0) (v := Value.int v_most) (C := RX0) (T := TX0) (N := 11) hx hb hts iw_X0_firstCoin_X0 hown hK hP 0 rfl rfl 10 (by decide) (hts _ kk_X0_firstCoin_1) (fun _ h9 => h9) rfl dX0_firstCoin_14 ?_
    have bv_most := hv_most.u
    refine lv_icmp_gt (tgt := 47) hx hb dX0_firstCoin_17 (by decide) (fun c5 => ?_) (fun c5 => ?_)
    · have c59 := i32_lt c5 rfl rfl
      obtain ⟨x6, ex6⟩ : ∃ z : Int32, v1 + Int32.ofInt 1 = z := ⟨_, rfl⟩
      have tx6 := i32_inc ex6 rfl (by decide) (by omega) (by omega)
      refine lv_iinc (v := x6) (lv' := [(3, Value.int x6), (2, Value.int v4), (0, Value.ref o), (1, Value.int p0)]) hx hb dX0_firstCoin_47 hl (k := 0) rfl ex6 (by decide) rfl (fun ls hl => ?_)
      refine lv_goto (tgt := 4) hx hb dX0_firstCoin_50 (by decide) ?_
      exact ih4 _ _ _ _ (by omega) ⟨x6, v4, rfl, (iv.m (by omega)), (iv.m (by omega)), hP, hD, hS, lv_sub hl [0, 1, 2, 3] rfl⟩
    · have c59 := i32_nlt c5 rfl rfl
      refine lv_aload_n hx hb dX0_firstCoin_20 rfl (lv_at hl 2 rfl) ?_
      refine va_get (D := (dC, dI)) (ci := 0) (v := Value.ref a_share) (C := RX0) (T := TX0) (N := 11) hx hb hts iw_X0_firstCoin_X0 hown hK hP 0 rfl rfl 4 (by decide) (hts _ kk_X0_firstCoin_2) (fun _ h9 => h9) rfl dX0_firstCoin_21 ?_
      refine lv_iload_n hx hb dX0_firstCoin_24 rfl (lv_at hl 0 rfl) ?_
      have hinrw7 : vp_in v1 5 := (vq_in v1 5 (by omega))
      refine va_aldA hx hb hK hP 2 1 rfl rfl hinrw7 dX0_firstCoin_25 ?_
      refine px_v (row_sel hinrw7) ?_
      obtain ⟨rw7, erw7⟩ : ∃ z : Nat, z = R_a_share (Int32.toNatClampNeg v1) := ⟨_, rfl⟩
      rw [← erw7]
      have mrw7 : rw7 ∈ LP ∧ sh rw7 = 4 := by rw [erw7]; exact hRR_a_share _ (vin_lt hinrw7)
      refine lv_iload_n hx hb dX0_firstCoin_26 rfl (lv_at hl 3 rfl) ?_
      have bp0 := hp0.u
      obtain ⟨gk8, hgk8⟩ := pok_4 (hfp) mrw7
      obtain ⟨kk9, hkk9⟩ := va_pl_get (X := [(o, Sum.inr (0, [Value.ref a_chosen, Value.int v_bestCost, Value.ref a_felt, Value.ref a_own, Value.ref a_share, Value.ref a_rest, Value.ref a_left, Value.ref a_tried, Value.int v_signs, Value.int v_lines, Value.int v_most])), (a_felt, Sum.inl (k_a_felt, 21, Sum.inl f_a_felt)), (a_share, Sum.inl (k_a_share, 5, Sum.inr (Sum.inr (Sum.inr (Sum.inr (rows_of 5 R_a_share)))))), (a_rest, Sum.inl (k_a_rest, 5, Sum.inr (Sum.inr (Sum.inr (Sum.inr (rows_of 5 R_a_rest)))))), (a_left, Sum.inl (k_a_left, 5, Sum.inr (Sum.inr (Sum.inr (Sum.inr (rows_of 5 R_a_left))))))]) (f := fp) mrw7.1
      have qkk9 := hkk9
      rw [hgk8] at qkk9
      refine va_iald hx hb hK hP kk9 4 qkk9 rfl (vq_in p0 4 (by omega)) dX0_firstCoin_27 ?_
      refine lv_topi (fun x10 ex10 => ?_)
      have bx10 := i32_rng x10
      refine lv_if_lt (tgt := 47) hx hb dX0_firstCoin_28 (by decide) (fun c11 => ?_) (fun c11 => ?_)
      · have c119 := i32_lt c11 rfl (show (0 : Int32).toInt = 0 by decide)
        obtain ⟨x12, ex12⟩ : ∃ z : Int32, v1 + Int32.ofInt 1 = z := ⟨_, rfl⟩
        have tx12 := i32_inc ex12 rfl (by decide) (by omega) (by omega)
        refine lv_iinc (v := x12) (lv' := [(3, Value.int x12), (2, Value.int v4), (0, Value.ref o), (1, Value.int p0)]) hx hb dX0_firstCoin_47 hl (k := 0) rfl ex12 (by decide) rfl (fun ls hl => ?_)
        refine lv_goto (tgt := 4) hx hb dX0_firstCoin_50 (by decide) ?_
        exact ih4 _ _ _ _ (by omega) ⟨x12, v4, rfl, (iv.m (by omega)), (iv.m (by omega)), hP, hD, hS, lv_sub hl [0, 1, 2, 3] rfl⟩
      · have c119 := i32_nlt c11 rfl (show (0 : Int32).toInt = 0 by decide)
        refine lv_aload_n hx hb dX0_firstCoin_31 rfl (lv_at hl 2 rfl) ?_
        refine lv_iload_n hx hb dX0_firstCoin_32 rfl (lv_at hl 0 rfl) ?_
        refine lv_iload_n hx hb dX0_firstCoin_33 rfl (lv_at hl 3 rfl) ?_
        refine lv_iload_n hx hb dX0_firstCoin_34 rfl (lv_at hl 1 rfl) ?_
        have hPc := hP.part (cx := [(o, Sum.inr (0, [Value.ref a_chosen, Value.int v_bestCost, Value.ref a_felt, Value.ref a_own, Value.ref a_share, Value.ref a_rest, Value.ref a_left, Value.ref a_tried, Value.int v_signs, Value.int v_lines, Value.int v_most])), (a_felt, Sum.inl (k_a_felt, 21, Sum.inl f_a_felt)), (a_share, Sum.inl (k_a_share, 5, Sum.inr (Sum.inr (Sum.inr (Sum.inr (rows_of 5 R_a_share)))))), (a_rest, Sum.inl (k_a_rest, 5, Sum.inr (Sum.inr (Sum.inr (Sum.inr (rows_of 5 R_a_rest)))))), (a_left, Sum.inl (k_a_left, 5, Sum.inr (Sum.inr (Sum.inr (Sum.inr (rows_of 5 R_a_left))))))]) [0, 1, 2, 3, 4] rfl
        have hDc := hD.part (cx := [(o, Sum.inr (0, [Value.ref a_chosen, Value.int v_bestCost, Value.ref a_felt, Value.ref a_own, Value.ref a_share, Value.ref a_rest, Value.ref a_left, Value.ref a_tried, Value.int v_signs, Value.int v_lines, Value.int v_most])), (a_felt, Sum.inl (k_a_felt, 21, Sum.inl f_a_felt)), (a_share, Sum.inl (k_a_share, 5, Sum.inr (Sum.inr (Sum.inr (Sum.inr (rows_of 5 R_a_share)))))), (a_rest, Sum.inl (k_a_rest, 5, Sum.inr (Sum.inr (Sum.inr (Sum.inr (rows_of 5 R_a_rest)))))), (a_left, Sum.inl (k_a_left, 5, Sum.inr (Sum.inr (Sum.inr (Sum.inr (rows_of 5 R_a_left))))))]) [0, 1, 2, 3, 4] (by decide) rfl
        have hKc := hK.sub (tys' := [(k_a_felt, FieldType.int), (k_a_share, (FieldType.array FieldType.int)), (k_a_rest, (FieldType.array FieldType.int)), (k_a_left, (FieldType.array FieldType.int)), (cI, FieldType.int), (cJ, FieldType.long)]) [0, 1, 2, 3, 4, 5] rfl
        have hFc := va_freeP (cx := [(o, Sum.inr (0, [Value.ref a_chosen, Value.int v_bestCost, Value.ref a_felt, Value.ref a_own, Value.ref a_share, Value.ref a_rest, Value.ref a_left, Value.ref a_tried, Value.int v_signs, Value.int v_lines, Value.int v_most])), (a_felt, Sum.inl (k_a_felt, 21, Sum.inl f_a_felt)), (a_share, Sum.inl (k_a_share, 5, Sum.inr (Sum.inr (Sum.inr (Sum.inr (rows_of 5 R_a_share)))))), (a_rest, Sum.inl (k_a_rest, 5, Sum.inr (Sum.inr (Sum.inr (Sum.inr (rows_of 5 R_a_rest)))))), (a_left, Sum.inl (k_a_left, 5, Sum.inr (Sum.inr (Sum.inr (Sum.inr (rows_of 5 R_a_left))))))]) hD hS hA [0, 1, 2, 3, 4] rfl
        refine va_calli (va_runV (As := [Value.int v1, Value.int p0, Value.int v4]) (rest := []) ⟨hx, hb, hml, hown, hts⟩ (ct_X0_isShort l dC dI o v1 p0 v4 a_chosen v_bestCost a_felt a_own a_share a_rest a_left a_tried v_signs v_lines v_most k_a_felt f_a_felt k_a_share R_a_share k_a_rest R_a_rest k_a_left R_a_left LP sh fp cI cJ (iv.m (by omega)) hp0 (iv.m (by omega)) hfp hRR_a_share hRR_a_rest hRR_a_left H.size) (cwV 3 hts gX0_firstCoin_X0_isShort rfl rfl rfl ⟨rfl, cn_X0.1, cn_X0.2, ds_6⟩ ⟨Nat.le_of_ble_eq_true rfl, Nat.le_of_ble_eq_true rfl⟩) ⟨fun a U g mk q => by obtain ⟨q0, q1, qP, qK, qD⟩ := q; exact ⟨q0, q1, qP, va_K.moved (u := U) (U := U.calling g mk a) (Vm.Alike.refl U.vm) qK, qD⟩, va_recv hKc hPc (ci := 0) (q0 := 0) rfl rfl, fun U hU hW => ⟨rfl, by rw [hU], by rw [hU]; exact hPc, va_K.moved hW.alike hKc, hDc.weaken (fun _ _ _ _ => trivial)⟩⟩ rfl rfl hl.1 rfl (lv_room (Nat.le_of_ble_eq_true rfl)) dX0_firstCoin_35 ⟨Nat.le_of_ble_eq_true rfl, Nat.le_of_ble_eq_true rfl⟩) hS (fun q _ h => hFc q h) hFc (fun r13 u t H1 locs ht hvm hw hB hz1 hk1 hS => ?_)
        have hw : r13 = u := hw.symm
        subst hw
        obtain ⟨w14, hP1, hD1⟩ := hB
        rw [ht] at hP1
        obtain ⟨hP, hD⟩ := va_joinP (X := [(o, Sum.inr (0, [Value.ref a_chosen, Value.int v_bestCost, Value.ref a_felt, Value.ref a_own, Value.ref a_share, Value.ref a_rest, Value.ref a_left, Value.ref a_tried, Value.int v_signs, Value.int v_lines, Value.int v_most])), (a_felt, Sum.inl (k_a_felt, 21, Sum.inl f_a_felt)), (a_share, Sum.inl (k_a_share, 5, Sum.inr (Sum.inr (Sum.inr (Sum.inr (rows_of 5 R_a_share)))))), (a_rest, Sum.inl (k_a_rest, 5, Sum.inr (Sum.inr (Sum.inr (Sum.inr (rows_of 5 R_a_rest)))))), (a_left, Sum.inl (k_a_left, 5, Sum.inr (Sum.inr (Sum.inr (Sum.inr (rows_of 5 R_a_left))))))]) (cx := [(o, Sum.inr (0, [Value.ref a_chosen, Value.int v_bestCost, Value.ref a_felt, Value.ref a_own, Value.ref a_share, Value.ref a_rest, Value.ref a_left, Value.ref a_tried, Value.int v_signs, Value.int v_lines, Value.int v_most])), (a_felt, Sum.inl (k_a_felt, 21, Sum.inl f_a_felt)), (a_share, Sum.inl (k_a_share, 5, Sum.inr (Sum.inr (Sum.inr (Sum.inr (rows_of 5 R_a_share)))))), (a_rest, Sum.inl (k_a_rest, 5, Sum.inr (Sum.inr (Sum.inr (Sum.inr (rows_of 5 R_a_rest)))))), (a_left, Sum.inl (k_a_left, 5, Sum.inr (Sum.inr (Sum.inr (Sum.inr (rows_of 5 R_a_left))))))]) (wr := []) (rx := [(o, Sum.inr (0, [Value.ref a_chosen, Value.int v_bestCost, Value.ref a_felt, Value.ref a_own, Value.ref a_share, Value.ref a_rest, Value.ref a_left, Value.ref a_tried, Value.int v_signs, Value.int v_lines, Value.int v_most])), (a_felt, Sum.inl (k_a_felt, 21, Sum.inl f_a_felt)), (a_share, Sum.inl (k_a_share, 5, Sum.inr (Sum.inr (Sum.inr (Sum.inr (rows_of 5 R_a_share)))))), (a_rest, Sum.inl (k_a_rest, 5, Sum.inr (Sum.inr (Sum.inr (Sum.inr (rows_of 5 R_a_rest)))))), (a_left, Sum.inl (k_a_left, 5, Sum.inr (Sum.inr (Sum.inr (Sum.inr (rows_of 5 R_a_left))))))]) hP hD [0, 1, 2, 3, 4] [] rfl rfl (by decide) (by decide) hk1 hFc hP1 hD1
        clear hPc hDc hKc hFc hP1 hD1 hk1 hz1
        generalize H1 = H at hP hS ⊢
        have hP : va_P (dC, dI) vwCl ([(o, Sum.inr (0, [Value.ref a_chosen, Value.int v_bestCost, Value.ref a_felt, Value.ref a_own, Value.ref a_share, Value.ref a_rest, Value.ref a_left, Value.ref a_tried, Value.int v_signs, Value.int v_lines, Value.int v_most])), (a_felt, Sum.inl (k_a_felt, 21, Sum.inl f_a_felt)), (a_share, Sum.inl (k_a_share, 5, Sum.inr (Sum.inr (Sum.inr (Sum.inr (rows_of 5 R_a_share)))))), (a_rest, Sum.inl (k_a_rest, 5, Sum.inr (Sum.inr (Sum.inr (Sum.inr (rows_of 5 R_a_rest)))))), (a_left, Sum.inl (k_a_left, 5, Sum.inr (Sum.inr (Sum.inr (Sum.inr (rows_of 5 R_a_left))))))] ++ va_pl LP fp) H := hP
        have hD : va_D A ([(o, Sum.inr (0, [Value.ref a_chosen, Value.int v_bestCost, Value.ref a_felt, Value.ref a_own, Value.ref a_share, Value.ref a_rest, Value.ref a_left, Value.ref a_tried, Value.int v_signs, Value.int v_lines, Value.int v_most])), (a_felt, Sum.inl (k_a_felt, 21, Sum.inl f_a_felt)), (a_share, Sum.inl (k_a_share, 5, Sum.inr (Sum.inr (Sum.inr (Sum.inr (rows_of 5 R_a_share)))))), (a_rest, Sum.inl (k_a_rest, 5, Sum.inr (Sum.inr (Sum.inr (Sum.inr (rows_of 5 R_a_rest)))))), (a_left, Sum.inl (k_a_left, 5, Sum.inr (Sum.inr (Sum.inr (Sum.inr (rows_of 5 R_a_left))))))] ++ va_pl LP fp) := hD
        refine W.widen (k := 0) (n := 0) (by decide) (by decide) ?_
        rcases w14 with hr9 | hr9
        · subst hr9
          refine lv_if_eq (tgt := 47) hx hb dX0_firstCoin_38 (by decide) (fun _ => ?_) (fun cz => absurd cz (by decide))
          obtain ⟨x15, ex15⟩ : ∃ z : Int32, v1 + Int32.ofInt 1 = z := ⟨_, rfl⟩
          have tx15 := i32_inc ex15 rfl (by decide) (by omega) (by omega)
          refine lv_iinc (v := x15) (lv' := [(3, Value.int x15), (2, Value.int v4), (0, Value.ref o), (1, Value.int p0)]) hx hb dX0_firstCoin_47 hl (k := 0) rfl ex15 (by decide) rfl (fun ls hl => ?_)
          refine lv_goto (tgt := 4) hx hb dX0_firstCoin_50 (by decide) ?_
          exact ih4 _ _ _ _ (by omega) ⟨x15, v4, rfl, (iv.m (by omega)), (iv.m (by omega)), hP, hD, hS, lv_sub hl [0, 1, 2, 3] rfl⟩
        · subst hr9
          refine lv_if_eq (tgt := 47) hx hb dX0_firstCoin_38 (by decide) (fun cz => absurd cz (by decide)) (fun _ => ?_)
          obtain ⟨x16, ex16⟩ : ∃ z : Int32, v4 + Int32.ofInt 1 = z := ⟨_, rfl⟩
          have tx16 := i32_inc ex16 rfl (by decide) (by omega) (by omega)
          refine lv_iinc (v := x16) (lv' := [(2, Value.int x16), (3, Value.int v1), (0, Value.ref o), (1, Value.int p0)]) hx hb dX0_firstCoin_41 hl (k := 1) rfl ex16 (by decide) rfl (fun ls hl => ?_)
          refine lv_goto (tgt := 12) hx hb dX0_firstCoin_44 (by decide) ?_
          exact ih12 _ _ _ _ (by omega) ⟨x16, rfl, (iv.m (by omega)), hP, hD, hS, lv_sub hl [1, 0, 2, 3] rfl⟩

