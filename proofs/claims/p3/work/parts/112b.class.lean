set_option maxHeartbeats 4000000 in
set_option maxRecDepth 100000 in
theorem ct_J7_fill_53178_5 (l : Launch) (dC : Nat → ClassId) (dI : Nat → Nat → Nat) (p0 : Nat) (p1 : Int32) (k_p0 : ClassId) (f_p0 : Nat → Int32) (sz : Nat) : Met l yJ7_fill_53178 wsJ7_fill_53178 ({ frames := 0, cells := 0, slots := 0, locals := 0 }) (va_Pc [Value.ref p0, Value.int p1] (fun U => U.heap.size = sz ∧ va_P (dC, dI) vwCl [(p0, Sum.inl (k_p0, 5, Sum.inl f_p0))] U.heap ∧ va_K (dC, dI) vwCl [(k_p0, FieldType.int)] U ∧ va_D (fun _ => True) [(p0, Sum.inl (k_p0, 5, Sum.inl f_p0))])) (va_Qv (fun _ : Unit => True) (fun _ t => ∃ (e_f_p0 : Nat → Int32), va_P (dC, dI) vwCl [(p0, Sum.inl (k_p0, 5, Sum.inl e_f_p0))] t.heap ∧ va_D (va_A [(p0, Sum.inl (k_p0, 5, Sum.inl f_p0))] sz) [(p0, Sum.inl (k_p0, 5, Sum.inl e_f_p0))]) (va_A [(p0, Sum.inl (k_p0, 5, Sum.inl f_p0))] sz)) 0 0 (va_A [(p0, Sum.inl (k_p0, 5, Sum.inl f_p0))] sz) := by
  refine Met.ofW (cc := cJ7_fill_53178) (maxL := 4) (ret := none) pn_J7 rfl ?_
  intro p e s m args below meth c s₁ B hml hv
  obtain ⟨rfl, hsz, hP, hK, hD0⟩ := hv
  have hx := B.exec
  have hb := B.bytes
  have hr := B.returns
  have hts := atoms_spec (ws := wsJ7_fill_53178) B.pre
  have hown : s.vm.findClass RJ7 = some m.cls := findClass_of_methodNamed B.named
  have hlocks := B.notSynchronized
  subst hsz
  have hD := hD0.self (sz := s.heap.size)
  generalize hAe : va_A [(p0, Sum.inl (k_p0, 5, Sum.inl f_p0))] s.heap.size = A at hD ⊢
  have hA : ∀ q : Nat, s.heap.size ≤ q → A q := fun q h => by rw [← hAe]; exact Or.inr h
  have hS : va_S A s.heap s.heap [] := va_S.rf
  have hP : va_P (dC, dI) vwCl [(p0, Sum.inl (k_p0, 5, Sum.inl f_p0))] s.heap := hP
  have hl := lv_entry ([Value.ref p0, Value.int p1]) (n := 4) (Nat.le_of_ble_eq_true rfl)
  rw [lg_entry_eq]
  generalize (lg_sl ([Value.ref p0, Value.int p1]) ++ List.replicate (4 - (lg_sl ([Value.ref p0, Value.int p1])).length) Slot.unset).toArray = ls at hl ⊢
  have hl : lv_has ls 4 [(0, Value.ref p0), (1, Value.int p1)] := hl
  refine lv_iconst (v := 0) hx hb dJ7_fill_53178_0 (by decide) ?_
  refine lv_istore_n (lv' := [(2, Value.int 0), (0, Value.ref p0), (1, Value.int p1)]) hx hb dJ7_fill_53178_1 rfl hl (by decide) rfl (fun ls hl => ?_)
  refine lv_aload_n hx hb dJ7_fill_53178_2 rfl (lv_at hl 1 rfl) ?_
  refine va_alen hx hb hK hP 0 0 rfl rfl (v := 5) (show Int32.ofNat 5 = 5 by decide) dJ7_fill_53178_3 ?_
  refine lv_istore_n (lv' := [(3, Value.int 5), (2, Value.int 0), (0, Value.ref p0), (1, Value.int p1)]) hx hb dJ7_fill_53178_4 rfl hl (by decide) rfl (fun ls hl => ?_)
  refine tl_loop (I := fun nn H locs ls => ∃ (v1 : Int32) (f2 : Nat → Int32), nn = (5 - v1.toInt).toNat ∧ iv v1 0 5 ∧  va_P (dC, dI) vwCl [(p0, Sum.inl (k_p0, 5, Sum.inl f2))] H ∧ va_D A [(p0, Sum.inl (k_p0, 5, Sum.inl f2))] ∧ va_S A s.heap H locs ∧ lv_has ls 4 [(3, Value.int 5), (2, Value.int v1), (0, Value.ref p0), (1, Value.int p1)]) ?_ ⟨0, f_p0, rfl, (iv.m (by decide)), hP, hD, hS, lv_sub hl [0, 1, 2, 3] rfl⟩
  clear hP hD hS hl
  intro nn5 H locs ls hI ih5
  obtain ⟨v1, f2, hn5, hv1, hP, hD, hS, hl⟩ := hI
  have bv1 := hv1.u
  refine lv_iload_n hx hb dJ7_fill_53178_5 rfl (lv_at hl 1 rfl) ?_
  refine lv_iload_n hx hb dJ7_fill_53178_6 rfl (lv_at hl 0 rfl) ?_
  refine lv_icmp_ge (tgt := 20) hx hb dJ7_fill_53178_7 (by decide) (fun c3 => ?_) (fun c3 => ?_)
  · have c39 := i32_le c3 (show (5 : Int32).toInt = 5 by decide) rfl
    have hP9 := hP.sub (ws' := [(p0, Sum.inl (k_p0, 5, Sum.inl f2))]) [0] rfl
    have hD9 := hD.sub (ws' := [(p0, Sum.inl (k_p0, 5, Sum.inl f2))]) [0] (by decide) rfl
    exact W.vret hx hb hr (fun t ht hW => ⟨⟨(), rfl, trivial, f2, by rw [ht]; exact hP9, hD9⟩, hS.F ht⟩) hS.2.2 dJ7_fill_53178_20
  · have c39 := i32_nle c3 (show (5 : Int32).toInt = 5 by decide) rfl
    refine lv_aload_n hx hb dJ7_fill_53178_10 rfl (lv_at hl 2 rfl) ?_
    refine lv_iload_n hx hb dJ7_fill_53178_11 rfl (lv_at hl 1 rfl) ?_
    refine lv_iload_n hx hb dJ7_fill_53178_12 rfl (lv_at hl 3 rfl) ?_
    refine va_iast hx hb hK hP hD hS 0 0 rfl rfl (vq_in v1 5 (by omega)) dJ7_fill_53178_13 (fun H locs hP hD hS => ?_)
    have hP : va_P (dC, dI) vwCl [(p0, Sum.inl (k_p0, 5, Sum.inl (upd f2 (Int32.toNatClampNeg v1) p1)))] H := hP
    have hD : va_D A [(p0, Sum.inl (k_p0, 5, Sum.inl (upd f2 (Int32.toNatClampNeg v1) p1)))] := hD
    have wf4 : (upd f2 (Int32.toNatClampNeg v1) p1) (Int32.toNatClampNeg v1) = p1 := pk_us
    generalize upd f2 (Int32.toNatClampNeg v1) p1 = f4 at hP hD wf4
    have hP : va_P (dC, dI) vwCl [(p0, Sum.inl (k_p0, 5, Sum.inl f4))] H := hP
    have hD : va_D A [(p0, Sum.inl (k_p0, 5, Sum.inl f4))] := hD
    obtain ⟨x5, ex5⟩ : ∃ z : Int32, v1 + Int32.ofInt 1 = z := ⟨_, rfl⟩
    have tx5 := i32_inc ex5 rfl (by decide) (by omega) (by omega)
    refine lv_iinc (v := x5) (lv' := [(2, Value.int x5), (3, Value.int 5), (0, Value.ref p0), (1, Value.int p1)]) hx hb dJ7_fill_53178_14 hl (k := 1) rfl ex5 (by decide) rfl (fun ls hl => ?_)
    refine lv_goto (tgt := 5) hx hb dJ7_fill_53178_17 (by decide) ?_
    exact ih5 _ _ _ _ (by omega) ⟨x5, f4, rfl, (iv.m (by omega)), hP, hD, hS, lv_sub hl [1, 0, 2, 3] rfl⟩

set_option maxHeartbeats 4000000 in
set_option maxRecDepth 100000 in
theorem ct_X6_forget (l : Launch) (dC : Nat → ClassId) (dI : Nat → Nat → Nat) (o : Nat) (v_lowerNumber : Int32) (a_press : Nat) (v_pressOfElse : Int32) (a_mixed : Nat) (k_a_press : ClassId) (f_a_press : Nat → Int32) (k_a_mixed : ClassId) (f_a_mixed : Nat → Int32) (sz : Nat) : Met l yX6_forget wsX6_forget ({ frames := 1, cells := 0, slots := 0, locals := 23 }) (va_Pc [Value.ref o] (fun U => U.heap.size = sz ∧ va_P (dC, dI) vwCl [(o, Sum.inr (6, [Value.int v_lowerNumber, Value.ref a_press, Value.int v_pressOfElse, Value.ref a_mixed])), (a_press, Sum.inl (k_a_press, 5, Sum.inl f_a_press)), (a_mixed, Sum.inl (k_a_mixed, 5, Sum.inl f_a_mixed))] U.heap ∧ va_K (dC, dI) vwCl [(k_a_press, FieldType.int), (k_a_mixed, FieldType.int)] U ∧ va_D (fun _ => True) [(o, Sum.inr (6, [Value.int v_lowerNumber, Value.ref a_press, Value.int v_pressOfElse, Value.ref a_mixed])), (a_press, Sum.inl (k_a_press, 5, Sum.inl f_a_press)), (a_mixed, Sum.inl (k_a_mixed, 5, Sum.inl f_a_mixed))])) (va_Qv (fun _ : Unit => True) (fun _ t => ∃ (e_f_a_press : Nat → Int32) (e_f_a_mixed : Nat → Int32), va_P (dC, dI) vwCl [(o, Sum.inr (6, [Value.int 1, Value.ref a_press, Value.int 0, Value.ref a_mixed])), (a_press, Sum.inl (k_a_press, 5, Sum.inl e_f_a_press)), (a_mixed, Sum.inl (k_a_mixed, 5, Sum.inl e_f_a_mixed))] t.heap ∧ va_D (va_A [(o, Sum.inr (6, [Value.int v_lowerNumber, Value.ref a_press, Value.int v_pressOfElse, Value.ref a_mixed])), (a_press, Sum.inl (k_a_press, 5, Sum.inl f_a_press)), (a_mixed, Sum.inl (k_a_mixed, 5, Sum.inl f_a_mixed))] sz) [(o, Sum.inr (6, [Value.int 1, Value.ref a_press, Value.int 0, Value.ref a_mixed])), (a_press, Sum.inl (k_a_press, 5, Sum.inl e_f_a_press)), (a_mixed, Sum.inl (k_a_mixed, 5, Sum.inl e_f_a_mixed))]) (va_A [(o, Sum.inr (6, [Value.int v_lowerNumber, Value.ref a_press, Value.int v_pressOfElse, Value.ref a_mixed])), (a_press, Sum.inl (k_a_press, 5, Sum.inl f_a_press)), (a_mixed, Sum.inl (k_a_mixed, 5, Sum.inl f_a_mixed))] sz)) 0 0 (va_A [(o, Sum.inr (6, [Value.int v_lowerNumber, Value.ref a_press, Value.int v_pressOfElse, Value.ref a_mixed])), (a_press, Sum.inl (k_a_press, 5, Sum.inl f_a_press)), (a_mixed, Sum.inl (k_a_mixed, 5, Sum.inl f_a_mixed))] sz) := by
  refine Met.ofW (cc := cX6_forget) (maxL := 1) (ret := none) pn_X6 rfl ?_
  intro p e s m args below meth c s₁ B hml hv
  obtain ⟨rfl, hsz, hP, hK, hD0⟩ := hv
  have hx := B.exec
  have hb := B.bytes
  have hr := B.returns
  have hts := atoms_spec (ws := wsX6_forget) B.pre
  have hown : s.vm.findClass RX6 = some m.cls := findClass_of_methodNamed B.named
  have hlocks := B.notSynchronized
  subst hsz
  have hD := hD0.self (sz := s.heap.size)
  generalize hAe : va_A [(o, Sum.inr (6, [Value.int v_lowerNumber, Value.ref a_press, Value.int v_pressOfElse, Value.ref a_mixed])), (a_press, Sum.inl (k_a_press, 5, Sum.inl f_a_press)), (a_mixed, Sum.inl (k_a_mixed, 5, Sum.inl f_a_mixed))] s.heap.size = A at hD ⊢
  have hA : ∀ q : Nat, s.heap.size ≤ q → A q := fun q h => by rw [← hAe]; exact Or.inr h
  have hS : va_S A s.heap s.heap [] := va_S.rf
  have hP : va_P (dC, dI) vwCl [(o, Sum.inr (6, [Value.int v_lowerNumber, Value.ref a_press, Value.int v_pressOfElse, Value.ref a_mixed])), (a_press, Sum.inl (k_a_press, 5, Sum.inl f_a_press)), (a_mixed, Sum.inl (k_a_mixed, 5, Sum.inl f_a_mixed))] s.heap := hP
  have hl := lv_entry ([Value.ref o]) (n := 1) (Nat.le_of_ble_eq_true rfl)
  rw [lg_entry_eq]
  generalize (lg_sl ([Value.ref o]) ++ List.replicate (1 - (lg_sl ([Value.ref o])).length) Slot.unset).toArray = ls at hl ⊢
  have hl : lv_has ls 1 [(0, Value.ref o)] := hl
  refine lv_aload_n hx hb dX6_forget_0 rfl (lv_at hl 0 rfl) ?_
  refine lv_iconst (v := 1) hx hb dX6_forget_1 (by decide) ?_
  refine va_put (D := (dC, dI)) (ci := 6) (v := Value.int 1) (ty := FieldType.int) (C := RX6) (T := TX6) (N := 4) hx hb hts iw_X6_forget_X6 tyX6 tyX6_ok nmX6 hown hK hP hD hS 0 rfl rfl 0 (by decide) (hts _ kk_X6_forget_0) (fun _ h9 => h9) rfl (by decide +kernel) rfl rfl (Nat.le_of_ble_eq_true rfl) dX6_forget_2 (fun H locs hP hD hS => ?_)
  have hP : va_P (dC, dI) vwCl [(o, Sum.inr (6, [Value.int 1, Value.ref a_press, Value.int v_pressOfElse, Value.ref a_mixed])), (a_press, Sum.inl (k_a_press, 5, Sum.inl f_a_press)), (a_mixed, Sum.inl (k_a_mixed, 5, Sum.inl f_a_mixed))] H := hP
  have hD : va_D A [(o, Sum.inr (6, [Value.int 1, Value.ref a_press, Value.int v_pressOfElse, Value.ref a_mixed])), (a_press, Sum.inl (k_a_press, 5, Sum.inl f_a_press)), (a_mixed, Sum.inl (k_a_mixed, 5, Sum.inl f_a_mixed))] := hD
  refine lv_aload_n hx hb dX6_forget_5 rfl (lv_at hl 0 rfl) ?_
  refine lv_iconst (v := 0) hx hb dX6_forget_6 (by decide) ?_
  refine va_put (D := (dC, dI)) (ci := 6) (v := Value.int 0) (ty := FieldType.int) (C := RX6) (T := TX6) (N := 4) hx hb hts iw_X6_forget_X6 tyX6 tyX6_ok nmX6 hown hK hP hD hS 0 rfl rfl 2 (by decide) (hts _ kk_X6_forget_1) (fun _ h9 => h9) rfl (by decide +kernel) rfl rfl (Nat.le_of_ble_eq_true rfl) dX6_forget_7 (fun H locs hP hD hS => ?_)
  have hP : va_P (dC, dI) vwCl [(o, Sum.inr (6, [Value.int 1, Value.ref a_press, Value.int 0, Value.ref a_mixed])), (a_press, Sum.inl (k_a_press, 5, Sum.inl f_a_press)), (a_mixed, Sum.inl (k_a_mixed, 5, Sum.inl f_a_mixed))] H := hP
  have hD : va_D A [(o, Sum.inr (6, [Value.int 1, Value.ref a_press, Value.int 0, Value.ref a_mixed])), (a_press, Sum.inl (k_a_press, 5, Sum.inl f_a_press)), (a_mixed, Sum.inl (k_a_mixed, 5, Sum.inl f_a_mixed))] := hD
  refine lv_aload_n hx hb dX6_forget_10 rfl (lv_at hl 0 rfl) ?_
  refine va_get (D := (dC, dI)) (ci := 6) (v := Value.ref a_press) (C := RX6) (T := TX6) (N := 4) hx hb hts iw_X6_forget_X6 hown hK hP 0 rfl rfl 1 (by decide) (hts _ kk_X6_forget_2) (fun _ h9 => h9) rfl dX6_forget_11 ?_
  refine lv_iconst (v := 0) hx hb dX6_forget_14 (by decide) ?_
  have hPc := hP.sub (ws' := [(a_press, Sum.inl (k_a_press, 5, Sum.inl f_a_press))]) [1] rfl
  have hDc := hD.sub (ws' := [(a_press, Sum.inl (k_a_press, 5, Sum.inl f_a_press))]) [1] (by decide) rfl
  have hKc := hK.sub (tys' := [(k_a_press, FieldType.int)]) [0] rfl
  have hFc := va_free (wc := [(a_press, Sum.inl (k_a_press, 5, Sum.inl f_a_press))]) hD hS hA [1] rfl
  refine va_callv (va_runS (As := [Value.ref a_press, Value.int 0]) (rest := []) ⟨hx, hb, hml, hown, hts⟩ (ct_J7_fill_53178_5 l dC dI a_press 0 k_a_press f_a_press H.size) (va_cwS 2 hts gX6_forget_J7_fill_53178 rfl rfl rfl ⟨cn_J7.1, cn_J7.2, ds_50⟩ ⟨Nat.le_of_ble_eq_true rfl, Nat.le_of_ble_eq_true rfl⟩) ⟨fun a U g mk q => by obtain ⟨q0, q1, qP, qK, qD⟩ := q; exact ⟨q0, q1, qP, va_K.moved (u := U) (U := U.calling g mk a) (Vm.Alike.refl U.vm) qK, qD⟩, fun U hU hW => ⟨rfl, by rw [hU], by rw [hU]; exact hPc, va_K.moved hW.alike hKc, hDc.weaken (fun _ _ _ _ => trivial)⟩⟩ rfl rfl hl.1 rfl (lv_room (Nat.le_of_ble_eq_true rfl)) dX6_forget_15 ⟨Nat.le_of_ble_eq_true rfl, Nat.le_of_ble_eq_true rfl⟩) hS (fun q _ h => hFc q h) hFc (fun u t H1 locs ht hvm hw hB hz1 hk1 hS => ?_)
  obtain ⟨f2, hP1, hD1⟩ := hB
  rw [ht] at hP1
  obtain ⟨hP, hD⟩ := va_join (wr := [(o, Sum.inr (6, [Value.int 1, Value.ref a_press, Value.int 0, Value.ref a_mixed])), (a_mixed, Sum.inl (k_a_mixed, 5, Sum.inl f_a_mixed))]) (w1 := [(a_press, Sum.inl (k_a_press, 5, Sum.inl f2))]) hP hD [1] [0, 2] rfl rfl (by decide) (by decide) hk1 hFc hP1 hD1
  clear hPc hDc hKc hFc hP1 hD1 hk1 hz1
  generalize H1 = H at hP hS ⊢
  have hP : va_P (dC, dI) vwCl [(o, Sum.inr (6, [Value.int 1, Value.ref a_press, Value.int 0, Value.ref a_mixed])), (a_mixed, Sum.inl (k_a_mixed, 5, Sum.inl f_a_mixed)), (a_press, Sum.inl (k_a_press, 5, Sum.inl f2))] H := hP
  have hD : va_D A [(o, Sum.inr (6, [Value.int 1, Value.ref a_press, Value.int 0, Value.ref a_mixed])), (a_mixed, Sum.inl (k_a_mixed, 5, Sum.inl f_a_mixed)), (a_press, Sum.inl (k_a_press, 5, Sum.inl f2))] := hD
  refine W.widen (k := 0) (n := 0) (by decide) (by decide) ?_
  refine lv_aload_n hx hb dX6_forget_18 rfl (lv_at hl 0 rfl) ?_
  refine va_get (D := (dC, dI)) (ci := 6) (v := Value.ref a_mixed) (C := RX6) (T := TX6) (N := 4) hx hb hts iw_X6_forget_X6 hown hK hP 0 rfl rfl 3 (by decide) (hts _ kk_X6_forget_3) (fun _ h9 => h9) rfl dX6_forget_19 ?_
  refine lv_iconst (v := 0) hx hb dX6_forget_22 (by decide) ?_
  have hPc := hP.sub (ws' := [(a_mixed, Sum.inl (k_a_mixed, 5, Sum.inl f_a_mixed))]) [1] rfl
  have hDc := hD.sub (ws' := [(a_mixed, Sum.inl (k_a_mixed, 5, Sum.inl f_a_mixed))]) [1] (by decide) rfl
  have hKc := hK.sub (tys' := [(k_a_mixed, FieldType.int)]) [1] rfl
  have hFc := va_free (wc := [(a_mixed, Sum.inl (k_a_mixed, 5, Sum.inl f_a_mixed))]) hD hS hA [1] rfl
  refine va_callv (va_runS (As := [Value.ref a_mixed, Value.int 0]) (rest := []) ⟨hx, hb, hml, hown, hts⟩ (ct_J7_fill_53178_5 l dC dI a_mixed 0 k_a_mixed f_a_mixed H.size) (va_cwS 2 hts gX6_forget_J7_fill_53178 rfl rfl rfl ⟨cn_J7.1, cn_J7.2, ds_50⟩ ⟨Nat.le_of_ble_eq_true rfl, Nat.le_of_ble_eq_true rfl⟩) ⟨fun a U g mk q => by obtain ⟨q0, q1, qP, qK, qD⟩ := q; exact ⟨q0, q1, qP, va_K.moved (u := U) (U := U.calling g mk a) (Vm.Alike.refl U.vm) qK, qD⟩, fun U hU hW => ⟨rfl, by rw [hU], by rw [hU]; exact hPc, va_K.moved hW.alike hKc, hDc.weaken (fun _ _ _ _ => trivial)⟩⟩ rfl rfl hl.1 rfl (lv_room (Nat.le_of_ble_eq_true rfl)) dX6_forget_23 ⟨Nat.le_of_ble_eq_true rfl, Nat.le_of_ble_eq_true rfl⟩) hS (fun q _ h => hFc q h) hFc (fun u t H1 locs ht hvm hw hB hz1 hk1 hS => ?_)
  obtain ⟨f4, hP1, hD1⟩ := hB
  rw [ht] at hP1
  obtain ⟨hP, hD⟩ := va_join (wr := [(o, Sum.inr (6, [Value.int 1, Value.ref a_press, Value.int 0, Value.ref a_mixed])), (a_press, Sum.inl (k_a_press, 5, Sum.inl f2))]) (w1 := [(a_mixed, Sum.inl (k_a_mixed, 5, Sum.inl f4))]) hP hD [1] [0, 2] rfl rfl (by decide) (by decide) hk1 hFc hP1 hD1
  clear hPc hDc hKc hFc hP1 hD1 hk1 hz1
  generalize H1 = H at hP hS ⊢
  have hP : va_P (dC, dI) vwCl [(o, Sum.inr (6, [Value.int 1, Value.ref a_press, Value.int 0, Value.ref a_mixed])), (a_press, Sum.inl (k_a_press, 5, Sum.inl f2)), (a_mixed, Sum.inl (k_a_mixed, 5, Sum.inl f4))] H := hP
  have hD : va_D A [(o, Sum.inr (6, [Value.int 1, Value.ref a_press, Value.int 0, Value.ref a_mixed])), (a_press, Sum.inl (k_a_press, 5, Sum.inl f2)), (a_mixed, Sum.inl (k_a_mixed, 5, Sum.inl f4))] := hD
  refine W.widen (k := 0) (n := 0) (by decide) (by decide) ?_
  have hP9 := hP.sub (ws' := [(o, Sum.inr (6, [Value.int 1, Value.ref a_press, Value.int 0, Value.ref a_mixed])), (a_press, Sum.inl (k_a_press, 5, Sum.inl f2)), (a_mixed, Sum.inl (k_a_mixed, 5, Sum.inl f4))]) [0, 1, 2] rfl
  have hD9 := hD.sub (ws' := [(o, Sum.inr (6, [Value.int 1, Value.ref a_press, Value.int 0, Value.ref a_mixed])), (a_press, Sum.inl (k_a_press, 5, Sum.inl f2)), (a_mixed, Sum.inl (k_a_mixed, 5, Sum.inl f4))]) [0, 1, 2] (by decide) rfl
  exact W.vret hx hb hr (fun t ht hW => ⟨⟨(), rfl, trivial, f2, f4, by rw [ht]; exact hP9, hD9⟩, hS.F ht⟩) hS.2.2 dX6_forget_26

set_option maxHeartbeats 4000000 in
set_option maxRecDepth 100000 in
theorem ct_X6_changePress (l : Launch) (dC : Nat → ClassId) (dI : Nat → Nat → Nat) (o : Nat) (p0 : Int32) (p1 : Int32) (v_lowerNumber : Int32) (a_press : Nat) (v_pressOfElse : Int32) (a_mixed : Nat) (k_a_press : ClassId) (f_a_press : Nat → Int32) (hp0 : iv p0 0 4) (sz : Nat) : Met l yX6_changePress wsX6_changePress ({ frames := 0, cells := 0, slots := 0, locals := 0 }) (va_Pc [Value.ref o, Value.int p0, Value.int p1] (fun U => U.heap.size = sz ∧ va_P (dC, dI) vwCl [(o, Sum.inr (6, [Value.int v_lowerNumber, Value.ref a_press, Value.int v_pressOfElse, Value.ref a_mixed])), (a_press, Sum.inl (k_a_press, 5, Sum.inl f_a_press))] U.heap ∧ va_K (dC, dI) vwCl [(k_a_press, FieldType.int)] U ∧ va_D (fun _ => True) [(o, Sum.inr (6, [Value.int v_lowerNumber, Value.ref a_press, Value.int v_pressOfElse, Value.ref a_mixed])), (a_press, Sum.inl (k_a_press, 5, Sum.inl f_a_press))])) (va_Qi (fun (r u : Int32) => u = r) (fun (r : Int32) t => ∃ (e_f_a_press : Nat → Int32), va_P (dC, dI) vwCl [(o, Sum.inr (6, [Value.int v_lowerNumber, Value.ref a_press, Value.int v_pressOfElse, Value.ref a_mixed])), (a_press, Sum.inl (k_a_press, 5, Sum.inl e_f_a_press))] t.heap ∧ va_D (va_A [(o, Sum.inr (6, [Value.int v_lowerNumber, Value.ref a_press, Value.int v_pressOfElse, Value.ref a_mixed])), (a_press, Sum.inl (k_a_press, 5, Sum.inl f_a_press))] sz) [(o, Sum.inr (6, [Value.int v_lowerNumber, Value.ref a_press, Value.int v_pressOfElse, Value.ref a_mixed])), (a_press, Sum.inl (k_a_press, 5, Sum.inl e_f_a_press))]) (va_A [(o, Sum.inr (6, [Value.int v_lowerNumber, Value.ref a_press, Value.int v_pressOfElse, Value.ref a_mixed])), (a_press, Sum.inl (k_a_press, 5, Sum.inl f_a_press))] sz)) 0 0 (va_A [(o, Sum.inr (6, [Value.int v_lowerNumber, Value.ref a_press, Value.int v_pressOfElse, Value.ref a_mixed])), (a_press, Sum.inl (k_a_press, 5, Sum.inl f_a_press))] sz) := by
  refine Met.ofW (cc := cX6_changePress) (maxL := 4) (ret := (some .int)) pn_X6 rfl ?_
  intro p e s m args below meth c s₁ B hml hv
  obtain ⟨rfl, hsz, hP, hK, hD0⟩ := hv
  have hx := B.exec
  have hb := B.bytes
  have hr := B.returns
  have hts := atoms_spec (ws := wsX6_changePress) B.pre
  have hown : s.vm.findClass RX6 = some m.cls := findClass_of_methodNamed B.named
  have hlocks := B.notSynchronized
  subst hsz
  have hD := hD0.self (sz := s.heap.size)
  generalize hAe : va_A [(o, Sum.inr (6, [Value.int v_lowerNumber, Value.ref a_press, Value.int v_pressOfElse, Value.ref a_mixed])), (a_press, Sum.inl (k_a_press, 5, Sum.inl f_a_press))] s.heap.size = A at hD ⊢
  have hA : ∀ q : Nat, s.heap.size ≤ q → A q := fun q h => by rw [← hAe]; exact Or.inr h
  have hS : va_S A s.heap s.heap [] := va_S.rf
  have hP : va_P (dC, dI) vwCl [(o, Sum.inr (6, [Value.int v_lowerNumber, Value.ref a_press, Value.int v_pressOfElse, Value.ref a_mixed])), (a_press, Sum.inl (k_a_press, 5, Sum.inl f_a_press))] s.heap := hP
  have hl := lv_entry ([Value.ref o, Value.int p0, Value.int p1]) (n := 4) (Nat.le_of_ble_eq_true rfl)
  rw [lg_entry_eq]
  generalize (lg_sl ([Value.ref o, Value.int p0, Value.int p1]) ++ List.replicate (4 - (lg_sl ([Value.ref o, Value.int p0, Value.int p1])).length) Slot.unset).toArray = ls at hl ⊢
  have hl : lv_has ls 4 [(0, Value.ref o), (1, Value.int p0), (2, Value.int p1)] := hl
  refine lv_aload_n hx hb dX6_changePress_0 rfl (lv_at hl 0 rfl) ?_
  refine va_get (D := (dC, dI)) (ci := 6) (v := Value.ref a_press) (C := RX6) (T := TX6) (N := 4) hx hb hts iw_X6_changePress_X6 hown hK hP 0 rfl rfl 1 (by decide) (hts _ kk_X6_changePress_0) (fun _ h9 => h9) rfl dX6_changePress_1 ?_
  refine lv_iload_n hx hb dX6_changePress_4 rfl (lv_at hl 1 rfl) ?_
  have bp0 := hp0.u
  refine va_iald hx hb hK hP 1 0 rfl rfl (vq_in p0 5 (by omega)) dX6_changePress_5 ?_
  refine lv_topi (fun x1 ex1 => ?_)
  refine lv_istore_n (lv' := [(3, Value.int x1), (0, Value.ref o), (1, Value.int p0), (2, Value.int p1)]) hx hb dX6_changePress_6 rfl hl (by decide) rfl (fun ls hl => ?_)
  refine lv_aload_n hx hb dX6_changePress_7 rfl (lv_at hl 1 rfl) ?_
  refine va_get (D := (dC, dI)) (ci := 6) (v := Value.ref a_press) (C := RX6) (T := TX6) (N := 4) hx hb hts iw_X6_changePress_X6 hown hK hP 0 rfl rfl 1 (by decide) (hts _ kk_X6_changePress_0) (fun _ h9 => h9) rfl dX6_changePress_8 ?_
  refine lv_iload_n hx hb dX6_changePress_11 rfl (lv_at hl 2 rfl) ?_
  refine lv_iload_n hx hb dX6_changePress_12 rfl (lv_at hl 3 rfl) ?_
  refine va_iast hx hb hK hP hD hS 1 0 rfl rfl (vq_in p0 5 (by omega)) dX6_changePress_13 (fun H locs hP hD hS => ?_)
  have hP : va_P (dC, dI) vwCl [(o, Sum.inr (6, [Value.int v_lowerNumber, Value.ref a_press, Value.int v_pressOfElse, Value.ref a_mixed])), (a_press, Sum.inl (k_a_press, 5, Sum.inl (upd f_a_press (Int32.toNatClampNeg p0) p1)))] H := hP
  have hD : va_D A [(o, Sum.inr (6, [Value.int v_lowerNumber, Value.ref a_press, Value.int v_pressOfElse, Value.ref a_mixed])), (a_press, Sum.inl (k_a_press, 5, Sum.inl (upd f_a_press (Int32.toNatClampNeg p0) p1)))] := hD
  have wf2 : (upd f_a_press (Int32.toNatClampNeg p0) p1) (Int32.toNatClampNeg p0) = p1 := pk_us
  generalize upd f_a_press (Int32.toNatClampNeg p0) p1 = f2 at hP hD wf2
  have hP : va_P (dC, dI) vwCl [(o, Sum.inr (6, [Value.int v_lowerNumber, Value.ref a_press, Value.int v_pressOfElse, Value.ref a_mixed])), (a_press, Sum.inl (k_a_press, 5, Sum.inl f2))] H := hP
  have hD : va_D A [(o, Sum.inr (6, [Value.int v_lowerNumber, Value.ref a_press, Value.int v_pressOfElse, Value.ref a_mixed])), (a_press, Sum.inl (k_a_press, 5, Sum.inl f2))] := hD
  refine lv_iload_n hx hb dX6_changePress_14 rfl (lv_at hl 0 rfl) ?_
  have hP9 := hP.sub (ws' := [(o, Sum.inr (6, [Value.int v_lowerNumber, Value.ref a_press, Value.int v_pressOfElse, Value.ref a_mixed])), (a_press, Sum.inl (k_a_press, 5, Sum.inl f2))]) [0, 1] rfl
  have hD9 := hD.sub (ws' := [(o, Sum.inr (6, [Value.int v_lowerNumber, Value.ref a_press, Value.int v_pressOfElse, Value.ref a_mixed])), (a_press, Sum.inl (k_a_press, 5, Sum.inl f2))]) [0, 1] (by decide) rfl
  exact W.iret (v := x1) hx hb hr (fun t ht hW => ⟨⟨x1, x1, rfl, rfl, f2, by rw [ht]; exact hP9, hD9⟩, hS.F ht⟩) hS.2.2 dX6_changePress_15

set_option maxHeartbeats 4000000 in
set_option maxRecDepth 100000 in
theorem ct_X6_changeElse (l : Launch) (dC : Nat → ClassId) (dI : Nat → Nat → Nat) (o : Nat) (p0 : Int32) (v_lowerNumber : Int32) (a_press : Nat) (v_pressOfElse : Int32) (a_mixed : Nat) (sz : Nat) : Met l yX6_changeElse wsX6_changeElse ({ frames := 0, cells := 0, slots := 0, locals := 0 }) (va_Pc [Value.ref o, Value.int p0] (fun U => U.heap.size = sz ∧ va_P (dC, dI) vwCl [(o, Sum.inr (6, [Value.int v_lowerNumber, Value.ref a_press, Value.int v_pressOfElse, Value.ref a_mixed]))] U.heap ∧ va_K (dC, dI) vwCl [] U ∧ va_D (fun _ => True) [(o, Sum.inr (6, [Value.int v_lowerNumber, Value.ref a_press, Value.int v_pressOfElse, Value.ref a_mixed]))])) (va_Qi (fun (r u : Int32) => u = r) (fun (r : Int32) t => va_P (dC, dI) vwCl [(o, Sum.inr (6, [Value.int v_lowerNumber, Value.ref a_press, Value.int p0, Value.ref a_mixed]))] t.heap ∧ va_D (va_A [(o, Sum.inr (6, [Value.int v_lowerNumber, Value.ref a_press, Value.int v_pressOfElse, Value.ref a_mixed]))] sz) [(o, Sum.inr (6, [Value.int v_lowerNumber, Value.ref a_press, Value.int p0, Value.ref a_mixed]))]) (va_A [(o, Sum.inr (6, [Value.int v_lowerNumber, Value.ref a_press, Value.int v_pressOfElse, Value.ref a_mixed]))] sz)) 0 0 (va_A [(o, Sum.inr (6, [Value.int v_lowerNumber, Value.ref a_press, Value.int v_pressOfElse, Value.ref a_mixed]))] sz) := by
  refine Met.ofW (cc := cX6_changeElse) (maxL := 3) (ret := (some .int)) pn_X6 rfl ?_
  intro p e s m args below meth c s₁ B hml hv
  obtain ⟨rfl, hsz, hP, hK, hD0⟩ := hv
  have hx := B.exec
  have hb := B.bytes
  have hr := B.returns
  have hts := atoms_spec (ws := wsX6_changeElse) B.pre
  have hown : s.vm.findClass RX6 = some m.cls := findClass_of_methodNamed B.named
  have hlocks := B.notSynchronized
  subst hsz
  have hD := hD0.self (sz := s.heap.size)
  generalize hAe : va_A [(o, Sum.inr (6, [Value.int v_lowerNumber, Value.ref a_press, Value.int v_pressOfElse, Value.ref a_mixed]))] s.heap.size = A at hD ⊢
  have hA : ∀ q : Nat, s.heap.size ≤ q → A q := fun q h => by rw [← hAe]; exact Or.inr h
  have hS : va_S A s.heap s.heap [] := va_S.rf
  have hP : va_P (dC, dI) vwCl [(o, Sum.inr (6, [Value.int v_lowerNumber, Value.ref a_press, Value.int v_pressOfElse, Value.ref a_mixed]))] s.heap := hP
  have hl := lv_entry ([Value.ref o, Value.int p0]) (n := 3) (Nat.le_of_ble_eq_true rfl)
  rw [lg_entry_eq]
  generalize (lg_sl ([Value.ref o, Value.int p0]) ++ List.replicate (3 - (lg_sl ([Value.ref o, Value.int p0])).length) Slot.unset).toArray = ls at hl ⊢
  have hl : lv_has ls 3 [(0, Value.ref o), (1, Value.int p0)] := hl
  refine lv_aload_n hx hb dX6_changeElse_0 rfl (lv_at hl 0 rfl) ?_
  refine va_get (D := (dC, dI)) (ci := 6) (v := Value.int v_pressOfElse) (C := RX6) (T := TX6) (N := 4) hx hb hts iw_X6_changeElse_X6 hown hK hP 0 rfl rfl 2 (by decide) (hts _ kk_X6_changeElse_0) (fun _ h9 => h9) rfl dX6_changeElse_1 ?_
  refine lv_istore_n (lv' := [(2, Value.int v_pressOfElse), (0, Value.ref o), (1, Value.int p0)]) hx hb dX6_changeElse_4 rfl hl (by decide) rfl (fun ls hl => ?_)
  refine lv_aload_n hx hb dX6_changeElse_5 rfl (lv_at hl 1 rfl) ?_
  refine lv_iload_n hx hb dX6_changeElse_6 rfl (lv_at hl 2 rfl) ?_
  refine va_put (D := (dC, dI)) (ci := 6) (v := Value.int p0) (ty := FieldType.int) (C := RX6) (T := TX6) (N := 4) hx hb hts iw_X6_changeElse_X6 tyX6 tyX6_ok nmX6 hown hK hP hD hS 0 rfl rfl 2 (by decide) (hts _ kk_X6_changeElse_0) (fun _ h9 => h9) rfl (by decide +kernel) rfl rfl (Nat.le_of_ble_eq_true rfl) dX6_changeElse_7 (fun H locs hP hD hS => ?_)
  have hP : va_P (dC, dI) vwCl [(o, Sum.inr (6, [Value.int v_lowerNumber, Value.ref a_press, Value.int p0, Value.ref a_mixed]))] H := hP
  have hD : va_D A [(o, Sum.inr (6, [Value.int v_lowerNumber, Value.ref a_press, Value.int p0, Value.ref a_mixed]))] := hD
  refine lv_iload_n hx hb dX6_changeElse_10 rfl (lv_at hl 0 rfl) ?_
  have hP9 := hP.sub (ws' := [(o, Sum.inr (6, [Value.int v_lowerNumber, Value.ref a_press, Value.int p0, Value.ref a_mixed]))]) [0] rfl
  have hD9 := hD.sub (ws' := [(o, Sum.inr (6, [Value.int v_lowerNumber, Value.ref a_press, Value.int p0, Value.ref a_mixed]))]) [0] (by decide) rfl
  exact W.iret (v := v_pressOfElse) hx hb hr (fun t ht hW => ⟨⟨v_pressOfElse, v_pressOfElse, rfl, rfl, by rw [ht]; exact hP9, hD9⟩, hS.F ht⟩) hS.2.2 dX6_changeElse_11

set_option maxHeartbeats 4000000 in
set_option maxRecDepth 100000 in
theorem ct_X6_changeMix (l : Launch) (dC : Nat → ClassId) (dI : Nat → Nat → Nat) (o : Nat) (p0 : Int32) (p1 : Int32) (v_lowerNumber : Int32) (a_press : Nat) (v_pressOfElse : Int32) (a_mixed : Nat) (k_a_mixed : ClassId) (f_a_mixed : Nat → Int32) (hp0 : iv p0 0 4) (sz : Nat) : Met l yX6_changeMix wsX6_changeMix ({ frames := 0, cells := 0, slots := 0, locals := 0 }) (va_Pc [Value.ref o, Value.int p0, Value.int p1] (fun U => U.heap.size = sz ∧ va_P (dC, dI) vwCl [(o, Sum.inr (6, [Value.int v_lowerNumber, Value.ref a_press, Value.int v_pressOfElse, Value.ref a_mixed])), (a_mixed, Sum.inl (k_a_mixed, 5, Sum.inl f_a_mixed))] U.heap ∧ va_K (dC, dI) vwCl [(k_a_mixed, FieldType.int)] U ∧ va_D (fun _ => True) [(o, Sum.inr (6, [Value.int v_lowerNumber, Value.ref a_press, Value.int v_pressOfElse, Value.ref a_mixed])), (a_mixed, Sum.inl (k_a_mixed, 5, Sum.inl f_a_mixed))])) (va_Qi (fun (r u : Int32) => u = r) (fun (r : Int32) t => ∃ (e_f_a_mixed : Nat → Int32), va_P (dC, dI) vwCl [(o, Sum.inr (6, [Value.int v_lowerNumber, Value.ref a_press, Value.int v_pressOfElse, Value.ref a_mixed])), (a_mixed, Sum.inl (k_a_mixed, 5, Sum.inl e_f_a_mixed))] t.heap ∧ va_D (va_A [(o, Sum.inr (6, [Value.int v_lowerNumber, Value.ref a_press, Value.int v_pressOfElse, Value.ref a_mixed])), (a_mixed, Sum.inl (k_a_mixed, 5, Sum.inl f_a_mixed))] sz) [(o, Sum.inr (6, [Value.int v_lowerNumber, Value.ref a_press, Value.int v_pressOfElse, Value.ref a_mixed])), (a_mixed, Sum.inl (k_a_mixed, 5, Sum.inl e_f_a_mixed))]) (va_A [(o, Sum.inr (6, [Value.int v_lowerNumber, Value.ref a_press, Value.int v_pressOfElse, Value.ref a_mixed])), (a_mixed, Sum.inl (k_a_mixed, 5, Sum.inl f_a_mixed))] sz)) 0 0 (va_A [(o, Sum.inr (6, [Value.int v_lowerNumber, Value.ref a_press, Value.int v_pressOfElse, Value.ref a_mixed])), (a_mixed, Sum.inl (k_a_mixed, 5, Sum.inl f_a_mixed))] sz) := by
  refine Met.ofW (cc := cX6_changeMix) (maxL := 4) (ret := (some .int)) pn_X6 rfl ?_
  intro p e s m args below meth c s₁ B hml hv
  obtain ⟨rfl, hsz, hP, hK, hD0⟩ := hv
  have hx := B.exec
  have hb := B.bytes
  have hr := B.returns
  have hts := atoms_spec (ws := wsX6_changeMix) B.pre
  have hown : s.vm.findClass RX6 = some m.cls := findClass_of_methodNamed B.named
  have hlocks := B.notSynchronized
  subst hsz
  have hD := hD0.self (sz := s.heap.size)
  generalize hAe : va_A [(o, Sum.inr (6, [Value.int v_lowerNumber, Value.ref a_press, Value.int v_pressOfElse, Value.ref a_mixed])), (a_mixed, Sum.inl (k_a_mixed, 5, Sum.inl f_a_mixed))] s.heap.size = A at hD ⊢
  have hA : ∀ q : Nat, s.heap.size ≤ q → A q := fun q h => by rw [← hAe]; exact Or.inr h
  have hS : va_S A s.heap s.heap [] := va_S.rf
  have hP : va_P (dC, dI) vwCl [(o, Sum.inr (6, [Value.int v_lowerNumber, Value.ref a_press, Value.int v_pressOfElse, Value.ref a_mixed])), (a_mixed, Sum.inl (k_a_mixed, 5, Sum.inl f_a_mixed))] s.heap := hP
  have hl := lv_entry ([Value.ref o, Value.int p0, Value.int p1]) (n := 4) (Nat.le_of_ble_eq_true rfl)
  rw [lg_entry_eq]
  generalize (lg_sl ([Value.ref o, Value.int p0, Value.int p1]) ++ List.replicate (4 - (lg_sl ([Value.ref o, Value.int p0, Value.int p1])).length) Slot.unset).toArray = ls at hl ⊢
  have hl : lv_has ls 4 [(0, Value.ref o), (1, Value.int p0), (2, Value.int p1)] := hl
  refine lv_aload_n hx hb dX6_changeMix_0 rfl (lv_at hl 0 rfl) ?_
  refine va_get (D := (dC, dI)) (ci := 6) (v := Value.ref a_mixed) (C := RX6) (T := TX6) (N := 4) hx hb hts iw_X6_changeMix_X6 hown hK hP 0 rfl rfl 3 (by decide) (hts _ kk_X6_changeMix_0) (fun _ h9 => h9) rfl dX6_changeMix_1 ?_
  refine lv_iload_n hx hb dX6_changeMix_4 rfl (lv_at hl 1 rfl) ?_
  have bp0 := hp0.u
  refine va_iald hx hb hK hP 1 0 rfl rfl (vq_in p0 5 (by omega)) dX6_changeMix_5 ?_
  refine lv_topi (fun x1 ex1 => ?_)
  refine lv_istore_n (lv' := [(3, Value.int x1), (0, Value.ref o), (1, Value.int p0), (2, Value.int p1)]) hx hb dX6_changeMix_6 rfl hl (by decide) rfl (fun ls hl => ?_)
  refine lv_aload_n hx hb dX6_changeMix_7 rfl (lv_at hl 1 rfl) ?_
  refine va_get (D := (dC, dI)) (ci := 6) (v := Value.ref a_mixed) (C := RX6) (T := TX6) (N := 4) hx hb hts iw_X6_changeMix_X6 hown hK hP 0 rfl rfl 3 (by decide) (hts _ kk_X6_changeMix_0) (fun _ h9 => h9) rfl dX6_changeMix_8 ?_
  refine lv_iload_n hx hb dX6_changeMix_11 rfl (lv_at hl 2 rfl) ?_
  refine lv_iload_n hx hb dX6_changeMix_12 rfl (lv_at hl 3 rfl) ?_
  refine va_iast hx hb hK hP hD hS 1 0 rfl rfl (vq_in p0 5 (by omega)) dX6_changeMix_13 (fun H locs hP hD hS => ?_)
  have hP : va_P (dC, dI) vwCl [(o, Sum.inr (6, [Value.int v_lowerNumber, Value.ref a_press, Value.int v_pressOfElse, Value.ref a_mixed])), (a_mixed, Sum.inl (k_a_mixed, 5, Sum.inl (upd f_a_mixed (Int32.toNatClampNeg p0) p1)))] H := hP
  have hD : va_D A [(o, Sum.inr (6, [Value.int v_lowerNumber, Value.ref a_press, Value.int v_pressOfElse, Value.ref a_mixed])), (a_mixed, Sum.inl (k_a_mixed, 5, Sum.inl (upd f_a_mixed (Int32.toNatClampNeg p0) p1)))] := hD
  have wf2 : (upd f_a_mixed (Int32.toNatClampNeg p0) p1) (Int32.toNatClampNeg p0) = p1 := pk_us
  generalize upd f_a_mixed (Int32.toNatClampNeg p0) p1 = f2 at hP hD wf2
  have hP : va_P (dC, dI) vwCl [(o, Sum.inr (6, [Value.int v_lowerNumber, Value.ref a_press, Value.int v_pressOfElse, Value.ref a_mixed])), (a_mixed, Sum.inl (k_a_mixed, 5, Sum.inl f2))] H := hP
  have hD : va_D A [(o, Sum.inr (6, [Value.int v_lowerNumber, Value.ref a_press, Value.int v_pressOfElse, Value.ref a_mixed])), (a_mixed, Sum.inl (k_a_mixed, 5, Sum.inl f2))] := hD
  refine lv_iload_n hx hb dX6_changeMix_14 rfl (lv_at hl 0 rfl) ?_
  have hP9 := hP.sub (ws' := [(o, Sum.inr (6, [Value.int v_lowerNumber, Value.ref a_press, Value.int v_pressOfElse, Value.ref a_mixed])), (a_mixed, Sum.inl (k_a_mixed, 5, Sum.inl f2))]) [0, 1] rfl
  have hD9 := hD.sub (ws' := [(o, Sum.inr (6, [Value.int v_lowerNumber, Value.ref a_press, Value.int v_pressOfElse, Value.ref a_mixed])), (a_mixed, Sum.inl (k_a_mixed, 5, Sum.inl f2))]) [0, 1] (by decide) rfl
  exact W.iret (v := x1) hx hb hr (fun t ht hW => ⟨⟨x1, x1, rfl, rfl, f2, by rw [ht]; exact hP9, hD9⟩, hS.F ht⟩) hS.2.2 dX6_changeMix_15

