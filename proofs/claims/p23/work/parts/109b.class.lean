set_option maxHeartbeats 4000000 in
set_option maxRecDepth 100000 in
theorem ct_X2_copy (l : Launch) (dC : Nat → ClassId) (dI : Nat → Nat → Nat) (o : Nat) (p0 : Nat) (v_upper : Int64) (v_lower : Int64) (p0_v_upper : Int64) (p0_v_lower : Int64) (sz : Nat) : Met l yX2_copy wsX2_copy ({ frames := 0, cells := 0, slots := 0, locals := 0 }) (va_Pc [Value.ref o, Value.ref p0] (fun U => U.heap.size = sz ∧ va_P (dC, dI) vwCl [(o, Sum.inr (2, [Value.long v_upper, Value.long v_lower])), (p0, Sum.inr (2, [Value.long p0_v_upper, Value.long p0_v_lower]))] U.heap ∧ va_K (dC, dI) vwCl [] U ∧ va_D (fun _ => True) [(o, Sum.inr (2, [Value.long v_upper, Value.long v_lower])), (p0, Sum.inr (2, [Value.long p0_v_upper, Value.long p0_v_lower]))])) (va_Qv (fun _ : Unit => True) (fun _ t => va_P (dC, dI) vwCl [(o, Sum.inr (2, [Value.long p0_v_upper, Value.long p0_v_lower])), (p0, Sum.inr (2, [Value.long p0_v_upper, Value.long p0_v_lower]))] t.heap ∧ va_D (va_A [(o, Sum.inr (2, [Value.long v_upper, Value.long v_lower])), (p0, Sum.inr (2, [Value.long p0_v_upper, Value.long p0_v_lower]))] sz) [(o, Sum.inr (2, [Value.long p0_v_upper, Value.long p0_v_lower])), (p0, Sum.inr (2, [Value.long p0_v_upper, Value.long p0_v_lower]))]) (va_A [(o, Sum.inr (2, [Value.long v_upper, Value.long v_lower])), (p0, Sum.inr (2, [Value.long p0_v_upper, Value.long p0_v_lower]))] sz)) 0 0 (va_A [(o, Sum.inr (2, [Value.long v_upper, Value.long v_lower])), (p0, Sum.inr (2, [Value.long p0_v_upper, Value.long p0_v_lower]))] sz) := by
  refine Met.ofW (cc := cX2_copy) (maxL := 2) (ret := none) pn_X2 rfl ?_
  intro p e s m args below meth c s₁ B hml hv
  obtain ⟨rfl, hsz, hP, hK, hD0⟩ := hv
  have hx := B.exec
  have hb := B.bytes
  have hr := B.returns
  have hts := atoms_spec (ws := wsX2_copy) B.pre
  have hown : s.vm.findClass RX2 = some m.cls := findClass_of_methodNamed B.named
  have hlocks := B.notSynchronized
  subst hsz
  have hD := hD0.self (sz := s.heap.size)
  generalize hAe : va_A [(o, Sum.inr (2, [Value.long v_upper, Value.long v_lower])), (p0, Sum.inr (2, [Value.long p0_v_upper, Value.long p0_v_lower]))] s.heap.size = A at hD ⊢
  have hA : ∀ q : Nat, s.heap.size ≤ q → A q := fun q h => by rw [← hAe]; exact Or.inr h
  have hS : va_S A s.heap s.heap [] := va_S.rf
  have hP : va_P (dC, dI) vwCl [(o, Sum.inr (2, [Value.long v_upper, Value.long v_lower])), (p0, Sum.inr (2, [Value.long p0_v_upper, Value.long p0_v_lower]))] s.heap := hP
  have hl := lv_entry ([Value.ref o, Value.ref p0]) (n := 2) (Nat.le_of_ble_eq_true rfl)
  rw [lg_entry_eq]
  generalize (lg_sl ([Value.ref o, Value.ref p0]) ++ List.replicate (2 - (lg_sl ([Value.ref o, Value.ref p0])).length) Slot.unset).toArray = ls at hl ⊢
  have hl : lv_has ls 2 [(0, Value.ref o), (1, Value.ref p0)] := hl
  refine lv_aload_n hx hb dX2_copy_0 rfl (lv_at hl 0 rfl) ?_
  refine lv_aload_n hx hb dX2_copy_1 rfl (lv_at hl 1 rfl) ?_
  refine va_get (D := (dC, dI)) (ci := 2) (v := Value.long p0_v_upper) (C := RX2) (T := TX2) (N := 2) hx hb hts iw_X2_copy_X2 hown hK hP 1 rfl rfl 0 (by decide) (hts _ kk_X2_copy_0) (fun _ h9 => h9) rfl dX2_copy_2 ?_
  refine va_put (D := (dC, dI)) (ci := 2) (v := Value.long p0_v_upper) (ty := FieldType.long) (C := RX2) (T := TX2) (N := 2) hx hb hts iw_X2_copy_X2 tyX2 tyX2_ok nmX2 hown hK hP hD hS 0 rfl rfl 0 (by decide) (hts _ kk_X2_copy_0) (fun _ h9 => h9) rfl (by decide +kernel) rfl rfl (Nat.le_of_ble_eq_true rfl) dX2_copy_5 (fun H locs hP hD hS => ?_)
  have hP : va_P (dC, dI) vwCl [(o, Sum.inr (2, [Value.long p0_v_upper, Value.long v_lower])), (p0, Sum.inr (2, [Value.long p0_v_upper, Value.long p0_v_lower]))] H := hP
  have hD : va_D A [(o, Sum.inr (2, [Value.long p0_v_upper, Value.long v_lower])), (p0, Sum.inr (2, [Value.long p0_v_upper, Value.long p0_v_lower]))] := hD
  refine lv_aload_n hx hb dX2_copy_8 rfl (lv_at hl 0 rfl) ?_
  refine lv_aload_n hx hb dX2_copy_9 rfl (lv_at hl 1 rfl) ?_
  refine va_get (D := (dC, dI)) (ci := 2) (v := Value.long p0_v_lower) (C := RX2) (T := TX2) (N := 2) hx hb hts iw_X2_copy_X2 hown hK hP 1 rfl rfl 1 (by decide) (hts _ kk_X2_copy_1) (fun _ h9 => h9) rfl dX2_copy_10 ?_
  refine va_put (D := (dC, dI)) (ci := 2) (v := Value.long p0_v_lower) (ty := FieldType.long) (C := RX2) (T := TX2) (N := 2) hx hb hts iw_X2_copy_X2 tyX2 tyX2_ok nmX2 hown hK hP hD hS 0 rfl rfl 1 (by decide) (hts _ kk_X2_copy_1) (fun _ h9 => h9) rfl (by decide +kernel) rfl rfl (Nat.le_of_ble_eq_true rfl) dX2_copy_13 (fun H locs hP hD hS => ?_)
  have hP : va_P (dC, dI) vwCl [(o, Sum.inr (2, [Value.long p0_v_upper, Value.long p0_v_lower])), (p0, Sum.inr (2, [Value.long p0_v_upper, Value.long p0_v_lower]))] H := hP
  have hD : va_D A [(o, Sum.inr (2, [Value.long p0_v_upper, Value.long p0_v_lower])), (p0, Sum.inr (2, [Value.long p0_v_upper, Value.long p0_v_lower]))] := hD
  have hP9 := hP.sub (ws' := [(o, Sum.inr (2, [Value.long p0_v_upper, Value.long p0_v_lower])), (p0, Sum.inr (2, [Value.long p0_v_upper, Value.long p0_v_lower]))]) [0, 1] rfl
  have hD9 := hD.sub (ws' := [(o, Sum.inr (2, [Value.long p0_v_upper, Value.long p0_v_lower])), (p0, Sum.inr (2, [Value.long p0_v_upper, Value.long p0_v_lower]))]) [0, 1] (by decide) rfl
  exact W.vret hx hb hr (fun t ht hW => ⟨⟨(), rfl, trivial, by rw [ht]; exact hP9, hD9⟩, hS.F ht⟩) hS.2.2 dX2_copy_16

set_option maxHeartbeats 4000000 in
set_option maxRecDepth 100000 in
theorem ct_X2_commonPart (l : Launch) (dC : Nat → ClassId) (dI : Nat → Nat → Nat) (p0 : Int64) (p1 : Int64) (sz : Nat) : Met l yX2_commonPart wsX2_commonPart ({ frames := 0, cells := 0, slots := 0, locals := 0 }) (va_Pc [Value.long p0, Value.long p1] (fun U => U.heap.size = sz ∧ va_P (dC, dI) vwCl [] U.heap ∧ va_K (dC, dI) vwCl [] U ∧ va_D (fun _ => True) [])) (va_Ql (fun (r u : Int64) => u = r) (fun (r : Int64) t => (0 ≤ p0.toInt → 0 ≤ p1.toInt → r.toInt.natAbs = Nat.gcd p0.toInt.natAbs p1.toInt.natAbs ∧ 0 ≤ r.toInt) ∧ va_P (dC, dI) vwCl [] t.heap ∧ va_D (va_A [] sz) []) (va_A [] sz)) 0 0 (va_A [] sz) := by
  refine Met.ofW (cc := cX2_commonPart) (maxL := 11) (ret := (some .long)) pn_X2 rfl ?_
  intro p e s m args below meth c s₁ B hml hv
  obtain ⟨rfl, hsz, hP, hK, hD0⟩ := hv
  have hx := B.exec
  have hb := B.bytes
  have hr := B.returns
  have hts := atoms_spec (ws := wsX2_commonPart) B.pre
  have hown : s.vm.findClass RX2 = some m.cls := findClass_of_methodNamed B.named
  have hlocks := B.notSynchronized
  subst hsz
  have hD := hD0.self (sz := s.heap.size)
  generalize hAe : va_A [] s.heap.size = A at hD ⊢
  have hA : ∀ q : Nat, s.heap.size ≤ q → A q := fun q h => by rw [← hAe]; exact Or.inr h
  have hS : va_S A s.heap s.heap [] := va_S.rf
  have hP : va_P (dC, dI) vwCl [] s.heap := hP
  have hl := lv_entry ([Value.long p0, Value.long p1]) (n := 11) (Nat.le_of_ble_eq_true rfl)
  rw [lg_entry_eq]
  generalize (lg_sl ([Value.long p0, Value.long p1]) ++ List.replicate (11 - (lg_sl ([Value.long p0, Value.long p1])).length) Slot.unset).toArray = ls at hl ⊢
  have hl : lv_has ls 11 [(0, Value.long p0), (2, Value.long p1)] := hl
  refine lv_lload_n hx hb dX2_commonPart_0 rfl (lv_at hl 0 rfl) ?_
  refine lv_lstore (lv' := [(4, Value.long p0), (0, Value.long p0), (2, Value.long p1)]) hx hb dX2_commonPart_1 hl (by decide) rfl (fun ls hl => ?_)
  refine lv_lload_n hx hb dX2_commonPart_3 rfl (lv_at hl 2 rfl) ?_
  refine lv_lstore (lv' := [(6, Value.long p1), (4, Value.long p0), (0, Value.long p0), (2, Value.long p1)]) hx hb dX2_commonPart_4 hl (by decide) rfl (fun ls hl => ?_)
  refine lv_iconst (v := 0) hx hb dX2_commonPart_6 (by decide) ?_
  refine lv_istore (lv' := [(8, Value.int 0), (6, Value.long p1), (4, Value.long p0), (0, Value.long p0), (2, Value.long p1)]) hx hb dX2_commonPart_7 hl (by decide) rfl (fun ls hl => ?_)
  refine tl_loop (I := fun nn H locs ls => ∃ (v1 : Int32) (v2 : Int64) (v3 : Int64), nn = (900 - v1.toInt).toNat ∧ iv v1 0 900 ∧ (0 ≤ p0.toInt → 0 ≤ p1.toInt → eucL p0 p1 v3 v2 (v1).toNatClampNeg) ∧  va_P (dC, dI) vwCl [] H ∧ va_D A [] ∧ va_S A s.heap H locs ∧ lv_has ls 11 [(8, Value.int v1), (6, Value.long v2), (4, Value.long v3), (0, Value.long p0), (2, Value.long p1)]) ?_ ⟨0, p1, p0, rfl, (iv.m (by decide)), (fun h1 h2 => eucL_0 h1 h2), hP, hD, hS, lv_sub hl [0, 1, 2, 3, 4] rfl⟩
  clear hP hD hS hl
  intro nn9 H locs ls hI ih9
  obtain ⟨v1, v2, v3, hn9, hv1, hi9_0, hP, hD, hS, hl⟩ := hI
  have bv1 := hv1.u
  refine lv_iload hx hb dX2_commonPart_9 (lv_at hl 0 rfl) ?_
  refine lv_sipush (v := 200) hx hb dX2_commonPart_11 (by decide) ?_
  refine lv_icmp_ge (tgt := 45) hx hb dX2_commonPart_14 (by decide) (fun c4 => ?_) (fun c4 => ?_)
  · have c49 := i32_le c4 (show (200 : Int32).toInt = 200 by decide) rfl
    refine lv_lload hx hb dX2_commonPart_45 (lv_at hl 2 rfl) ?_
    have hP9 := hP.sub (ws' := []) [] rfl
    have hD9 := hD.sub (ws' := []) [] (by decide) rfl
    exact W.lret (v := v3) hx hb hr (fun t ht hW => ⟨⟨v3, v3, rfl, rfl, (by first | exact fun h1 h2 => eucL_n (hi9_0 h1 h2) (by omega) | exact fun h1 h2 => eucL_z (hi9_0 h1 h2) (by assumption)), by rw [ht]; exact hP9, hD9⟩, hS.F ht⟩) hS.2.2 dX2_commonPart_47
  · have c49 := i32_nle c4 (show (200 : Int32).toInt = 200 by decide) rfl
    refine lv_lload hx hb dX2_commonPart_17 (lv_at hl 1 rfl) ?_
    refine lv_lconst (v := 0) hx hb dX2_commonPart_19 (by decide) ?_
    refine W.lcmp hx hb dX2_commonPart_20 ?_
    refine lv_if_eq (tgt := 45) hx hb dX2_commonPart_21 (by decide) (fun c5 => ?_) (fun c5 => ?_)
    · skip
      have c59 := lc_eq c5
      refine lv_lload hx hb dX2_commonPart_45 (lv_at hl 2 rfl) ?_
      have hP9 := hP.sub (ws' := []) [] rfl
      have hD9 := hD.sub (ws' := []) [] (by decide) rfl
      exact W.lret (v := v3) hx hb hr (fun t ht hW => ⟨⟨v3, v3, rfl, rfl, (by first | exact fun h1 h2 => eucL_n (hi9_0 h1 h2) (by omega) | exact fun h1 h2 => eucL_z (hi9_0 h1 h2) (by assumption)), by rw [ht]; exact hP9, hD9⟩, hS.F ht⟩) hS.2.2 dX2_commonPart_47
    · skip
      have c59 := lc_ne c5
      refine lv_lload hx hb dX2_commonPart_24 (lv_at hl 2 rfl) ?_
      refine lv_lload hx hb dX2_commonPart_26 (lv_at hl 1 rfl) ?_
      refine lv_lrem hx hb dX2_commonPart_28 c59 ?_
      refine lv_topl (fun y6 ey6 => ?_)
      have hmy6 := i64_rem ey6 c59
      refine lv_lstore (lv' := [(9, Value.long y6), (8, Value.int v1), (6, Value.long v2), (4, Value.long v3), (0, Value.long p0), (2, Value.long p1)]) hx hb dX2_commonPart_29 hl (by decide) rfl (fun ls hl => ?_)
      refine lv_lload hx hb dX2_commonPart_31 (lv_at hl 2 rfl) ?_
      refine lv_lstore (lv' := [(4, Value.long v2), (9, Value.long y6), (8, Value.int v1), (6, Value.long v2), (0, Value.long p0), (2, Value.long p1)]) hx hb dX2_commonPart_33 hl (by decide) rfl (fun ls hl => ?_)
      refine lv_lload hx hb dX2_commonPart_35 (lv_at hl 1 rfl) ?_
      refine lv_lstore (lv' := [(6, Value.long y6), (4, Value.long v2), (9, Value.long y6), (8, Value.int v1), (0, Value.long p0), (2, Value.long p1)]) hx hb dX2_commonPart_37 hl (by decide) rfl (fun ls hl => ?_)
      obtain ⟨x7, ex7⟩ : ∃ z : Int32, v1 + Int32.ofInt 1 = z := ⟨_, rfl⟩
      have tx7 := i32_inc ex7 rfl (by decide) (by omega) (by omega)
      refine lv_iinc (v := x7) (lv' := [(8, Value.int x7), (6, Value.long y6), (4, Value.long v2), (9, Value.long y6), (0, Value.long p0), (2, Value.long p1)]) hx hb dX2_commonPart_39 hl (k := 3) rfl ex7 (by decide) rfl (fun ls hl => ?_)
      refine lv_goto (tgt := 9) hx hb dX2_commonPart_42 (by decide) ?_
      exact ih9 _ _ _ _ (ms_up hn9 tx7 (by decide) (by omega)) ⟨x7, y6, v2, rfl, (iv.m (by omega)), (fun h1 h2 => eucL_st (hi9_0 h1 h2) ey6 (by assumption) tx7 (by omega)), hP, hD, hS, lv_sub hl [0, 1, 2, 4, 5] rfl⟩

set_option maxHeartbeats 4000000 in
set_option maxRecDepth 100000 in
theorem ct_X2_become (l : Launch) (dC : Nat → ClassId) (dI : Nat → Nat → Nat) (o : Nat) (p0 : Int64) (p1 : Int64) (v_upper : Int64) (v_lower : Int64) (sz : Nat) : Met l yX2_become wsX2_become ({ frames := 1, cells := 0, slots := 0, locals := 30 }) (va_Pc [Value.ref o, Value.long p0, Value.long p1] (fun U => U.heap.size = sz ∧ va_P (dC, dI) vwCl [(o, Sum.inr (2, [Value.long v_upper, Value.long v_lower]))] U.heap ∧ va_K (dC, dI) vwCl [] U ∧ va_D (fun _ => True) [(o, Sum.inr (2, [Value.long v_upper, Value.long v_lower]))])) (va_Qv (fun _ : Unit => True) (fun _ t => ∃ (e_v_upper : Int64) (e_v_lower : Int64), (-9000000000000000000 ≤ p0.toInt → 1 ≤ p1.toInt → redR p0.toInt p1.toInt e_v_upper.toInt e_v_lower.toInt) ∧ va_P (dC, dI) vwCl [(o, Sum.inr (2, [Value.long e_v_upper, Value.long e_v_lower]))] t.heap ∧ va_D (va_A [(o, Sum.inr (2, [Value.long v_upper, Value.long v_lower]))] sz) [(o, Sum.inr (2, [Value.long e_v_upper, Value.long e_v_lower]))]) (va_A [(o, Sum.inr (2, [Value.long v_upper, Value.long v_lower]))] sz)) 0 0 (va_A [(o, Sum.inr (2, [Value.long v_upper, Value.long v_lower]))] sz) := by
  refine Met.ofW (cc := cX2_become) (maxL := 7) (ret := none) pn_X2 rfl ?_
  intro p e s m args below meth c s₁ B hml hv
  obtain ⟨rfl, hsz, hP, hK, hD0⟩ := hv
  have hx := B.exec
  have hb := B.bytes
  have hr := B.returns
  have hts := atoms_spec (ws := wsX2_become) B.pre
  have hown : s.vm.findClass RX2 = some m.cls := findClass_of_methodNamed B.named
  have hlocks := B.notSynchronized
  subst hsz
  have hD := hD0.self (sz := s.heap.size)
  generalize hAe : va_A [(o, Sum.inr (2, [Value.long v_upper, Value.long v_lower]))] s.heap.size = A at hD ⊢
  have hA : ∀ q : Nat, s.heap.size ≤ q → A q := fun q h => by rw [← hAe]; exact Or.inr h
  have hS : va_S A s.heap s.heap [] := va_S.rf
  have hP : va_P (dC, dI) vwCl [(o, Sum.inr (2, [Value.long v_upper, Value.long v_lower]))] s.heap := hP
  have hl := lv_entry ([Value.ref o, Value.long p0, Value.long p1]) (n := 7) (Nat.le_of_ble_eq_true rfl)
  rw [lg_entry_eq]
  generalize (lg_sl ([Value.ref o, Value.long p0, Value.long p1]) ++ List.replicate (7 - (lg_sl ([Value.ref o, Value.long p0, Value.long p1])).length) Slot.unset).toArray = ls at hl ⊢
  have hl : lv_has ls 7 [(0, Value.ref o), (1, Value.long p0), (3, Value.long p1)] := hl
  have z61 : (1 : Int64).toInt = 1 := by decide
  refine lv_lload_n hx hb dX2_become_0 rfl (lv_at hl 1 rfl) ?_
  refine va_mabs_long hx hb (by rw [hml]; exact hl.1.symm) hown (hts _ kk_X2_become_0) (hts _ kk_X2_become_1) (hts _ kk_X2_become_2) (hts _ kk_X2_become_3) (Nat.le_of_ble_eq_true rfl) (Nat.le_of_ble_eq_true rfl) (Nat.le_of_ble_eq_true rfl) (Nat.le_of_ble_eq_true rfl) dX2_become_1 ?_
  refine lv_topl (fun y1 ey1 => ?_)
  refine lv_lload_n hx hb dX2_become_4 rfl (lv_at hl 2 rfl) ?_
  have hPc := hP.sub (ws' := []) [] rfl
  have hDc := hD.sub (ws' := []) [] (by decide) rfl
  have hKc := hK.sub (tys' := []) [] rfl
  have hFc := va_free (wc := []) hD hS hA [] rfl
  refine va_calll (va_runS (As := [Value.long y1, Value.long p1]) (rest := []) ⟨hx, hb, hml, hown, hts⟩ (ct_X2_commonPart l dC dI y1 p1 s.heap.size) (va_cwS 2 hts gX2_become_X2_commonPart rfl rfl rfl ⟨cn_X2.1, cn_X2.2, ds_15⟩ ⟨Nat.le_of_ble_eq_true rfl, Nat.le_of_ble_eq_true rfl⟩) ⟨fun a U g mk q => by obtain ⟨q0, q1, qP, qK, qD⟩ := q; exact ⟨q0, q1, qP, va_K.moved (u := U) (U := U.calling g mk a) (Vm.Alike.refl U.vm) qK, qD⟩, fun U hU hW => ⟨rfl, by rw [hU], by rw [hU]; exact hPc, va_K.moved hW.alike hKc, hDc.weaken (fun _ _ _ _ => trivial)⟩⟩ rfl rfl hl.1 rfl (lv_room (Nat.le_of_ble_eq_true rfl)) dX2_become_5 ⟨Nat.le_of_ble_eq_true rfl, Nat.le_of_ble_eq_true rfl⟩) hS (fun q _ h => hFc q h) hFc (fun r2 u t H1 locs ht hvm hw hB hz1 hk1 hS => ?_)
  have hw : r2 = u := hw.symm
  subst hw
  obtain ⟨w3, hP1, hD1⟩ := hB
  rw [ht] at hP1
  obtain ⟨hP, hD⟩ := va_join (wr := [(o, Sum.inr (2, [Value.long v_upper, Value.long v_lower]))]) (w1 := []) hP hD [] [0] rfl rfl (by decide) (by decide) hk1 hFc hP1 hD1
  clear hPc hDc hKc hFc hP1 hD1 hk1 hz1
  generalize H1 = H at hP hS ⊢
  have hP : va_P (dC, dI) vwCl [(o, Sum.inr (2, [Value.long v_upper, Value.long v_lower]))] H := hP
  have hD : va_D A [(o, Sum.inr (2, [Value.long v_upper, Value.long v_lower]))] := hD
  refine W.widen (k := 0) (n := 0) (by decide) (by decide) ?_
  refine lv_lstore (lv' := [(5, Value.long r2), (0, Value.ref o), (1, Value.long p0), (3, Value.long p1)]) hx hb dX2_become_8 hl (by decide) rfl (fun ls hl => ?_)
  refine lv_lload_n hx hb dX2_become_10 rfl (lv_at hl 3 rfl) ?_
  refine lv_lconst (v := 1) hx hb dX2_become_11 (by decide) ?_
  refine W.lcmp hx hb dX2_become_12 ?_
  refine lv_if_lt (tgt := 23) hx hb dX2_become_13 (by decide) (fun c4 => ?_) (fun c4 => ?_)
  · skip
    have c49 := lc_lt c4
    have bp1 : (-9223372036854775808 : Int) ≤ p1.toInt ∧ p1.toInt ≤ 9223372036854775807 := ⟨i64_min _, i64_max _⟩
    have dp1 := i64_lt c49 rfl (show (1 : Int64).toInt = 1 by decide)
    have hp1 : jv p1 (-9223372036854775808) 0 := jv.m (by omega)
    have c48 := l_lt c49
    refine lv_aload_n hx hb dX2_become_23 rfl (lv_at hl 1 rfl) ?_
    have hPc := hP.sub (ws' := [(o, Sum.inr (2, [Value.long v_upper, Value.long v_lower]))]) [0] rfl
    have hDc := hD.sub (ws' := [(o, Sum.inr (2, [Value.long v_upper, Value.long v_lower]))]) [0] (by decide) rfl
    have hKc := hK.sub (tys' := []) [] rfl
    have hFc := va_free (wc := [(o, Sum.inr (2, [Value.long v_upper, Value.long v_lower]))]) hD hS hA [0] rfl
    refine va_callv (va_runV (As := []) (rest := []) ⟨hx, hb, hml, hown, hts⟩ (ct_X2_forget l dC dI o v_upper v_lower H.size) (cwV 0 hts gX2_become_X2_forget rfl rfl rfl ⟨rfl, cn_X2.1, cn_X2.2, ds_7⟩ ⟨Nat.le_of_ble_eq_true rfl, Nat.le_of_ble_eq_true rfl⟩) ⟨fun a U g mk q => by obtain ⟨q0, q1, qP, qK, qD⟩ := q; exact ⟨q0, q1, qP, va_K.moved (u := U) (U := U.calling g mk a) (Vm.Alike.refl U.vm) qK, qD⟩, va_recv hKc hPc (ci := 2) (q0 := 0) rfl rfl, fun U hU hW => ⟨rfl, by rw [hU], by rw [hU]; exact hPc, va_K.moved hW.alike hKc, hDc.weaken (fun _ _ _ _ => trivial)⟩⟩ rfl rfl hl.1 rfl (lv_room (Nat.le_of_ble_eq_true rfl)) dX2_become_24 ⟨Nat.le_of_ble_eq_true rfl, Nat.le_of_ble_eq_true rfl⟩) hS (fun q _ h => hFc q h) hFc (fun u t H1 locs ht hvm hw hB hz1 hk1 hS => ?_)
    obtain ⟨hP1, hD1⟩ := hB
    rw [ht] at hP1
    obtain ⟨hP, hD⟩ := va_join (wr := []) (w1 := [(o, Sum.inr (2, [Value.long (-2000000000), Value.long 0]))]) hP hD [0] [] rfl rfl (by decide) (by decide) hk1 hFc hP1 hD1
    clear hPc hDc hKc hFc hP1 hD1 hk1 hz1
    generalize H1 = H at hP hS ⊢
    have hP : va_P (dC, dI) vwCl [(o, Sum.inr (2, [Value.long (-2000000000), Value.long 0]))] H := hP
    have hD : va_D A [(o, Sum.inr (2, [Value.long (-2000000000), Value.long 0]))] := hD
    refine W.widen (k := 0) (n := 0) (by decide) (by decide) ?_
    have hP9 := hP.sub (ws' := [(o, Sum.inr (2, [Value.long (-2000000000), Value.long 0]))]) [0] rfl
    have hD9 := hD.sub (ws' := [(o, Sum.inr (2, [Value.long (-2000000000), Value.long 0]))]) [0] (by decide) rfl
    exact W.vret hx hb hr (fun t ht hW => ⟨⟨(), rfl, trivial, (-2000000000), 0, (by intro h1 h2; have a9 := abs_n ey1 h1; have g9 := w3 a9.2 (by omega); have k9 := gcd_1 g9 h2; exfalso; omega), by rw [ht]; exact hP9, hD9⟩, hS.F ht⟩) hS.2.2 dX2_become_27
  · skip
    have c49 := lc_nlt c4
    have bp1 : (-9223372036854775808 : Int) ≤ p1.toInt ∧ p1.toInt ≤ 9223372036854775807 := ⟨i64_min _, i64_max _⟩
    have dp1 := i64_le c49 (show (1 : Int64).toInt = 1 by decide) rfl
    have hp1 : jv p1 1 9223372036854775807 := jv.m (by omega)
    have c48 := l_le c49
    refine lv_lload hx hb dX2_become_16 (lv_at hl 0 rfl) ?_
    refine lv_lconst (v := 1) hx hb dX2_become_18 (by decide) ?_
    refine W.lcmp hx hb dX2_become_19 ?_
    refine lv_if_ge (tgt := 28) hx hb dX2_become_20 (by decide) (fun c6 => ?_) (fun c6 => ?_)
    · skip
      have c69 := lc_ge c6
      have br2 : (-9223372036854775808 : Int) ≤ r2.toInt ∧ r2.toInt ≤ 9223372036854775807 := ⟨i64_min _, i64_max _⟩
      have dr2 := i64_le c69 (show (1 : Int64).toInt = 1 by decide) rfl
      have hr2 : jv r2 1 9223372036854775807 := jv.m (by omega)
      have c68 := l_le c69
      refine lv_aload_n hx hb dX2_become_28 rfl (lv_at hl 1 rfl) ?_
      refine lv_lload_n hx hb dX2_become_29 rfl (lv_at hl 2 rfl) ?_
      refine lv_lload hx hb dX2_become_30 (lv_at hl 0 rfl) ?_
      refine lv_ldiv hx hb dX2_become_32 (jv.nz hr2 (by decide)) ?_
      refine lv_topl (fun y7 ey7 => ?_)
      refine va_put (D := (dC, dI)) (ci := 2) (v := Value.long y7) (ty := FieldType.long) (C := RX2) (T := TX2) (N := 2) hx hb hts iw_X2_become_X2 tyX2 tyX2_ok nmX2 hown hK hP hD hS 0 rfl rfl 0 (by decide) (hts _ kk_X2_become_4) (fun _ h9 => h9) rfl (by decide +kernel) rfl rfl (Nat.le_of_ble_eq_true rfl) dX2_become_33 (fun H locs hP hD hS => ?_)
      have hP : va_P (dC, dI) vwCl [(o, Sum.inr (2, [Value.long y7, Value.long v_lower]))] H := hP
      have hD : va_D A [(o, Sum.inr (2, [Value.long y7, Value.long v_lower]))] := hD
      refine lv_aload_n hx hb dX2_become_36 rfl (lv_at hl 1 rfl) ?_
      refine lv_lload_n hx hb dX2_become_37 rfl (lv_at hl 3 rfl) ?_
      refine lv_lload hx hb dX2_become_38 (lv_at hl 0 rfl) ?_
      refine lv_ldiv hx hb dX2_become_40 (jv.nz hr2 (by decide)) ?_
      refine lv_topl (fun y8 ey8 => ?_)
      refine va_put (D := (dC, dI)) (ci := 2) (v := Value.long y8) (ty := FieldType.long) (C := RX2) (T := TX2) (N := 2) hx hb hts iw_X2_become_X2 tyX2 tyX2_ok nmX2 hown hK hP hD hS 0 rfl rfl 1 (by decide) (hts _ kk_X2_become_5) (fun _ h9 => h9) rfl (by decide +kernel) rfl rfl (Nat.le_of_ble_eq_true rfl) dX2_become_41 (fun H locs hP hD hS => ?_)
      have hP : va_P (dC, dI) vwCl [(o, Sum.inr (2, [Value.long y7, Value.long y8]))] H := hP
      have hD : va_D A [(o, Sum.inr (2, [Value.long y7, Value.long y8]))] := hD
      have hP9 := hP.sub (ws' := [(o, Sum.inr (2, [Value.long y7, Value.long y8]))]) [0] rfl
      have hD9 := hD.sub (ws' := [(o, Sum.inr (2, [Value.long y7, Value.long y8]))]) [0] (by decide) rfl
      exact W.vret hx hb hr (fun t ht hW => ⟨⟨(), rfl, trivial, y7, y8, (by intro h1 h2; have a9 := abs_n ey1 h1; have g9 := w3 a9.2 (by omega); have k9 := gcd_1 g9 h2; exact red_of a9.1 h2 g9 k9 ey7 ey8), by rw [ht]; exact hP9, hD9⟩, hS.F ht⟩) hS.2.2 dX2_become_44
    · skip
      have c69 := lc_nge c6
      have br2 : (-9223372036854775808 : Int) ≤ r2.toInt ∧ r2.toInt ≤ 9223372036854775807 := ⟨i64_min _, i64_max _⟩
      have dr2 := i64_lt c69 rfl (show (1 : Int64).toInt = 1 by decide)
      have hr2 : jv r2 (-9223372036854775808) 0 := jv.m (by omega)
      have c68 := l_lt c69
      refine lv_aload_n hx hb dX2_become_23 rfl (lv_at hl 1 rfl) ?_
      have hPc := hP.sub (ws' := [(o, Sum.inr (2, [Value.long v_upper, Value.long v_lower]))]) [0] rfl
      have hDc := hD.sub (ws' := [(o, Sum.inr (2, [Value.long v_upper, Value.long v_lower]))]) [0] (by decide) rfl
      have hKc := hK.sub (tys' := []) [] rfl
      have hFc := va_free (wc := [(o, Sum.inr (2, [Value.long v_upper, Value.long v_lower]))]) hD hS hA [0] rfl
      refine va_callv (va_runV (As := []) (rest := []) ⟨hx, hb, hml, hown, hts⟩ (ct_X2_forget l dC dI o v_upper v_lower H.size) (cwV 0 hts gX2_become_X2_forget rfl rfl rfl ⟨rfl, cn_X2.1, cn_X2.2, ds_7⟩ ⟨Nat.le_of_ble_eq_true rfl, Nat.le_of_ble_eq_true rfl⟩) ⟨fun a U g mk q => by obtain ⟨q0, q1, qP, qK, qD⟩ := q; exact ⟨q0, q1, qP, va_K.moved (u := U) (U := U.calling g mk a) (Vm.Alike.refl U.vm) qK, qD⟩, va_recv hKc hPc (ci := 2) (q0 := 0) rfl rfl, fun U hU hW => ⟨rfl, by rw [hU], by rw [hU]; exact hPc, va_K.moved hW.alike hKc, hDc.weaken (fun _ _ _ _ => trivial)⟩⟩ rfl rfl hl.1 rfl (lv_room (Nat.le_of_ble_eq_true rfl)) dX2_become_24 ⟨Nat.le_of_ble_eq_true rfl, Nat.le_of_ble_eq_true rfl⟩) hS (fun q _ h => hFc q h) hFc (fun u t H1 locs ht hvm hw hB hz1 hk1 hS => ?_)
      obtain ⟨hP1, hD1⟩ := hB
      rw [ht] at hP1
      obtain ⟨hP, hD⟩ := va_join (wr := []) (w1 := [(o, Sum.inr (2, [Value.long (-2000000000), Value.long 0]))]) hP hD [0] [] rfl rfl (by decide) (by decide) hk1 hFc hP1 hD1
      clear hPc hDc hKc hFc hP1 hD1 hk1 hz1
      generalize H1 = H at hP hS ⊢
      have hP : va_P (dC, dI) vwCl [(o, Sum.inr (2, [Value.long (-2000000000), Value.long 0]))] H := hP
      have hD : va_D A [(o, Sum.inr (2, [Value.long (-2000000000), Value.long 0]))] := hD
      refine W.widen (k := 0) (n := 0) (by decide) (by decide) ?_
      have hP9 := hP.sub (ws' := [(o, Sum.inr (2, [Value.long (-2000000000), Value.long 0]))]) [0] rfl
      have hD9 := hD.sub (ws' := [(o, Sum.inr (2, [Value.long (-2000000000), Value.long 0]))]) [0] (by decide) rfl
      exact W.vret hx hb hr (fun t ht hW => ⟨⟨(), rfl, trivial, (-2000000000), 0, (by intro h1 h2; have a9 := abs_n ey1 h1; have g9 := w3 a9.2 (by omega); have k9 := gcd_1 g9 h2; exfalso; omega), by rw [ht]; exact hP9, hD9⟩, hS.F ht⟩) hS.2.2 dX2_become_27

set_option maxHeartbeats 4000000 in
set_option maxRecDepth 100000 in
theorem ct_X2_add (l : Launch) (dC : Nat → ClassId) (dI : Nat → Nat → Nat) (o : Nat) (p0 : Int64) (p1 : Int64) (v_upper : Int64) (v_lower : Int64) (sz : Nat) : Met l yX2_add wsX2_add ({ frames := 2, cells := 0, slots := 0, locals := 56 }) (va_Pc [Value.ref o, Value.long p0, Value.long p1] (fun U => U.heap.size = sz ∧ va_P (dC, dI) vwCl [(o, Sum.inr (2, [Value.long v_upper, Value.long v_lower]))] U.heap ∧ va_K (dC, dI) vwCl [] U ∧ va_D (fun _ => True) [(o, Sum.inr (2, [Value.long v_upper, Value.long v_lower]))])) (va_Qv (fun _ : Unit => True) (fun _ t => ∃ (e_v_upper : Int64) (e_v_lower : Int64), (-60000000000 ≤ v_upper.toInt ∧ v_upper.toInt ≤ 60000000000 ∧ 1 ≤ v_lower.toInt ∧ v_lower.toInt ≤ 800000 ∧ 0 ≤ p0.toInt ∧ p0.toInt ≤ 100000 ∧ 1 ≤ p1.toInt ∧ p1.toInt ≤ 10 → redR (v_upper.toInt * p1.toInt + p0.toInt * v_lower.toInt) (v_lower.toInt * p1.toInt) e_v_upper.toInt e_v_lower.toInt) ∧ va_P (dC, dI) vwCl [(o, Sum.inr (2, [Value.long e_v_upper, Value.long e_v_lower]))] t.heap ∧ va_D (va_A [(o, Sum.inr (2, [Value.long v_upper, Value.long v_lower]))] sz) [(o, Sum.inr (2, [Value.long e_v_upper, Value.long e_v_lower]))]) (va_A [(o, Sum.inr (2, [Value.long v_upper, Value.long v_lower]))] sz)) 0 0 (va_A [(o, Sum.inr (2, [Value.long v_upper, Value.long v_lower]))] sz) := by
  refine Met.ofW (cc := cX2_add) (maxL := 5) (ret := none) pn_X2 rfl ?_
  intro p e s m args below meth c s₁ B hml hv
  obtain ⟨rfl, hsz, hP, hK, hD0⟩ := hv
  have hx := B.exec
  have hb := B.bytes
  have hr := B.returns
  have hts := atoms_spec (ws := wsX2_add) B.pre
  have hown : s.vm.findClass RX2 = some m.cls := findClass_of_methodNamed B.named
  have hlocks := B.notSynchronized
  subst hsz
  have hD := hD0.self (sz := s.heap.size)
  generalize hAe : va_A [(o, Sum.inr (2, [Value.long v_upper, Value.long v_lower]))] s.heap.size = A at hD ⊢
  have hA : ∀ q : Nat, s.heap.size ≤ q → A q := fun q h => by rw [← hAe]; exact Or.inr h
  have hS : va_S A s.heap s.heap [] := va_S.rf
  have hP : va_P (dC, dI) vwCl [(o, Sum.inr (2, [Value.long v_upper, Value.long v_lower]))] s.heap := hP
  have hl := lv_entry ([Value.ref o, Value.long p0, Value.long p1]) (n := 5) (Nat.le_of_ble_eq_true rfl)
  rw [lg_entry_eq]
  generalize (lg_sl ([Value.ref o, Value.long p0, Value.long p1]) ++ List.replicate (5 - (lg_sl ([Value.ref o, Value.long p0, Value.long p1])).length) Slot.unset).toArray = ls at hl ⊢
  have hl : lv_has ls 5 [(0, Value.ref o), (1, Value.long p0), (3, Value.long p1)] := hl
  refine lv_aload_n hx hb dX2_add_0 rfl (lv_at hl 0 rfl) ?_
  refine lv_aload_n hx hb dX2_add_1 rfl (lv_at hl 0 rfl) ?_
  refine va_get (D := (dC, dI)) (ci := 2) (v := Value.long v_upper) (C := RX2) (T := TX2) (N := 2) hx hb hts iw_X2_add_X2 hown hK hP 0 rfl rfl 0 (by decide) (hts _ kk_X2_add_0) (fun _ h9 => h9) rfl dX2_add_2 ?_
  refine lv_lload_n hx hb dX2_add_5 rfl (lv_at hl 2 rfl) ?_
  refine lv_lmul hx hb dX2_add_6 ?_
  refine lv_topl (fun y1 ey1 => ?_)
  refine lv_lload_n hx hb dX2_add_7 rfl (lv_at hl 1 rfl) ?_
  refine lv_aload_n hx hb dX2_add_8 rfl (lv_at hl 0 rfl) ?_
  refine va_get (D := (dC, dI)) (ci := 2) (v := Value.long v_lower) (C := RX2) (T := TX2) (N := 2) hx hb hts iw_X2_add_X2 hown hK hP 0 rfl rfl 1 (by decide) (hts _ kk_X2_add_1) (fun _ h9 => h9) rfl dX2_add_9 ?_
  refine lv_lmul hx hb dX2_add_12 ?_
  refine lv_topl (fun y2 ey2 => ?_)
  refine lv_ladd hx hb dX2_add_13 ?_
  refine lv_topl (fun y3 ey3 => ?_)
  refine lv_aload_n hx hb dX2_add_14 rfl (lv_at hl 0 rfl) ?_
  refine va_get (D := (dC, dI)) (ci := 2) (v := Value.long v_lower) (C := RX2) (T := TX2) (N := 2) hx hb hts iw_X2_add_X2 hown hK hP 0 rfl rfl 1 (by decide) (hts _ kk_X2_add_1) (fun _ h9 => h9) rfl dX2_add_15 ?_
  refine lv_lload_n hx hb dX2_add_18 rfl (lv_at hl 2 rfl) ?_
  refine lv_lmul hx hb dX2_add_19 ?_
  refine lv_topl (fun y4 ey4 => ?_)
  have hPc := hP.sub (ws' := [(o, Sum.inr (2, [Value.long v_upper, Value.long v_lower]))]) [0] rfl
  have hDc := hD.sub (ws' := [(o, Sum.inr (2, [Value.long v_upper, Value.long v_lower]))]) [0] (by decide) rfl
  have hKc := hK.sub (tys' := []) [] rfl
  have hFc := va_free (wc := [(o, Sum.inr (2, [Value.long v_upper, Value.long v_lower]))]) hD hS hA [0] rfl
  refine va_callv (va_runV (As := [Value.long y3, Value.long y4]) (rest := []) ⟨hx, hb, hml, hown, hts⟩ (ct_X2_become l dC dI o y3 y4 v_upper v_lower s.heap.size) (cwV 2 hts gX2_add_X2_become rfl rfl rfl ⟨rfl, cn_X2.1, cn_X2.2, ds_13⟩ ⟨Nat.le_of_ble_eq_true rfl, Nat.le_of_ble_eq_true rfl⟩) ⟨fun a U g mk q => by obtain ⟨q0, q1, qP, qK, qD⟩ := q; exact ⟨q0, q1, qP, va_K.moved (u := U) (U := U.calling g mk a) (Vm.Alike.refl U.vm) qK, qD⟩, va_recv hKc hPc (ci := 2) (q0 := 0) rfl rfl, fun U hU hW => ⟨rfl, by rw [hU], by rw [hU]; exact hPc, va_K.moved hW.alike hKc, hDc.weaken (fun _ _ _ _ => trivial)⟩⟩ rfl rfl hl.1 rfl (lv_room (Nat.le_of_ble_eq_true rfl)) dX2_add_20 ⟨Nat.le_of_ble_eq_true rfl, Nat.le_of_ble_eq_true rfl⟩) hS (fun q _ h => hFc q h) hFc (fun u t H1 locs ht hvm hw hB hz1 hk1 hS => ?_)
  obtain ⟨y6, y7, w8, hP1, hD1⟩ := hB
  rw [ht] at hP1
  obtain ⟨hP, hD⟩ := va_join (wr := []) (w1 := [(o, Sum.inr (2, [Value.long y6, Value.long y7]))]) hP hD [0] [] rfl rfl (by decide) (by decide) hk1 hFc hP1 hD1
  clear hPc hDc hKc hFc hP1 hD1 hk1 hz1
  generalize H1 = H at hP hS ⊢
  have hP : va_P (dC, dI) vwCl [(o, Sum.inr (2, [Value.long y6, Value.long y7]))] H := hP
  have hD : va_D A [(o, Sum.inr (2, [Value.long y6, Value.long y7]))] := hD
  refine W.widen (k := 0) (n := 0) (by decide) (by decide) ?_
  have hP9 := hP.sub (ws' := [(o, Sum.inr (2, [Value.long y6, Value.long y7]))]) [0] rfl
  have hD9 := hD.sub (ws' := [(o, Sum.inr (2, [Value.long y6, Value.long y7]))]) [0] (by decide) rfl
  exact W.vret hx hb hr (fun t ht hW => ⟨⟨(), rfl, trivial, y6, y7, (by intro hb; exact ad_e ey1 ey2 ey3 ey4 hb w8), by rw [ht]; exact hP9, hD9⟩, hS.F ht⟩) hS.2.2 dX2_add_23

set_option maxHeartbeats 4000000 in
set_option maxRecDepth 100000 in
theorem ct_X2_isBelow (l : Launch) (dC : Nat → ClassId) (dI : Nat → Nat → Nat) (p0 : Nat) (p1 : Nat) (p0_v_upper : Int64) (p0_v_lower : Int64) (p1_v_upper : Int64) (p1_v_lower : Int64) (sz : Nat) : Met l yX2_isBelow wsX2_isBelow ({ frames := 0, cells := 0, slots := 0, locals := 0 }) (va_Pc [Value.ref p0, Value.ref p1] (fun U => U.heap.size = sz ∧ va_P (dC, dI) vwCl [(p0, Sum.inr (2, [Value.long p0_v_upper, Value.long p0_v_lower])), (p1, Sum.inr (2, [Value.long p1_v_upper, Value.long p1_v_lower]))] U.heap ∧ va_K (dC, dI) vwCl [] U ∧ va_D (fun _ => True) [(p0, Sum.inr (2, [Value.long p0_v_upper, Value.long p0_v_lower])), (p1, Sum.inr (2, [Value.long p1_v_upper, Value.long p1_v_lower]))])) (va_Qi (fun (r u : Int32) => u = r) (fun (r : Int32) t => ((r = 0 ∧ (-700000000000 ≤ p0_v_upper.toInt ∧ p0_v_upper.toInt ≤ 700000000000 ∧ 1 ≤ p0_v_lower.toInt ∧ p0_v_lower.toInt ≤ 8000000 ∧ -700000000000 ≤ p1_v_upper.toInt ∧ p1_v_upper.toInt ≤ 700000000000 ∧ 1 ≤ p1_v_lower.toInt ∧ p1_v_lower.toInt ≤ 8000000 → p1_v_upper.toInt * p0_v_lower.toInt ≤ p0_v_upper.toInt * p1_v_lower.toInt)) ∨ (r = 1 ∧ (-700000000000 ≤ p0_v_upper.toInt ∧ p0_v_upper.toInt ≤ 700000000000 ∧ 1 ≤ p0_v_lower.toInt ∧ p0_v_lower.toInt ≤ 8000000 ∧ -700000000000 ≤ p1_v_upper.toInt ∧ p1_v_upper.toInt ≤ 700000000000 ∧ 1 ≤ p1_v_lower.toInt ∧ p1_v_lower.toInt ≤ 8000000 → p0_v_upper.toInt * p1_v_lower.toInt < p1_v_upper.toInt * p0_v_lower.toInt))) ∧ va_P (dC, dI) vwCl [(p0, Sum.inr (2, [Value.long p0_v_upper, Value.long p0_v_lower])), (p1, Sum.inr (2, [Value.long p1_v_upper, Value.long p1_v_lower]))] t.heap ∧ va_D (va_A [(p0, Sum.inr (2, [Value.long p0_v_upper, Value.long p0_v_lower])), (p1, Sum.inr (2, [Value.long p1_v_upper, Value.long p1_v_lower]))] sz) [(p0, Sum.inr (2, [Value.long p0_v_upper, Value.long p0_v_lower])), (p1, Sum.inr (2, [Value.long p1_v_upper, Value.long p1_v_lower]))]) (va_A [(p0, Sum.inr (2, [Value.long p0_v_upper, Value.long p0_v_lower])), (p1, Sum.inr (2, [Value.long p1_v_upper, Value.long p1_v_lower]))] sz)) 0 0 (va_A [(p0, Sum.inr (2, [Value.long p0_v_upper, Value.long p0_v_lower])), (p1, Sum.inr (2, [Value.long p1_v_upper, Value.long p1_v_lower]))] sz) := by
  refine Met.ofW (cc := cX2_isBelow) (maxL := 2) (ret := (some .boolean)) pn_X2 rfl ?_
  intro p e s m args below meth c s₁ B hml hv
  obtain ⟨rfl, hsz, hP, hK, hD0⟩ := hv
  have hx := B.exec
  have hb := B.bytes
  have hr := B.returns
  have hts := atoms_spec (ws := wsX2_isBelow) B.pre
  have hown : s.vm.findClass RX2 = some m.cls := findClass_of_methodNamed B.named
  have hlocks := B.notSynchronized
  subst hsz
  have hD := hD0.self (sz := s.heap.size)
  generalize hAe : va_A [(p0, Sum.inr (2, [Value.long p0_v_upper, Value.long p0_v_lower])), (p1, Sum.inr (2, [Value.long p1_v_upper, Value.long p1_v_lower]))] s.heap.size = A at hD ⊢
  have hA : ∀ q : Nat, s.heap.size ≤ q → A q := fun q h => by rw [← hAe]; exact Or.inr h
  have hS : va_S A s.heap s.heap [] := va_S.rf
  have hP : va_P (dC, dI) vwCl [(p0, Sum.inr (2, [Value.long p0_v_upper, Value.long p0_v_lower])), (p1, Sum.inr (2, [Value.long p1_v_upper, Value.long p1_v_lower]))] s.heap := hP
  have hl := lv_entry ([Value.ref p0, Value.ref p1]) (n := 2) (Nat.le_of_ble_eq_true rfl)
  rw [lg_entry_eq]
  generalize (lg_sl ([Value.ref p0, Value.ref p1]) ++ List.replicate (2 - (lg_sl ([Value.ref p0, Value.ref p1])).length) Slot.unset).toArray = ls at hl ⊢
  have hl : lv_has ls 2 [(0, Value.ref p0), (1, Value.ref p1)] := hl
  refine lv_aload_n hx hb dX2_isBelow_0 rfl (lv_at hl 0 rfl) ?_
  refine va_get (D := (dC, dI)) (ci := 2) (v := Value.long p0_v_upper) (C := RX2) (T := TX2) (N := 2) hx hb hts iw_X2_isBelow_X2 hown hK hP 0 rfl rfl 0 (by decide) (hts _ kk_X2_isBelow_0) (fun _ h9 => h9) rfl dX2_isBelow_1 ?_
  refine lv_aload_n hx hb dX2_isBelow_4 rfl (lv_at hl 1 rfl) ?_
  refine va_get (D := (dC, dI)) (ci := 2) (v := Value.long p1_v_lower) (C := RX2) (T := TX2) (N := 2) hx hb hts iw_X2_isBelow_X2 hown hK hP 1 rfl rfl 1 (by decide) (hts _ kk_X2_isBelow_1) (fun _ h9 => h9) rfl dX2_isBelow_5 ?_
  refine lv_lmul hx hb dX2_isBelow_8 ?_
  refine lv_topl (fun y1 ey1 => ?_)
  refine lv_aload_n hx hb dX2_isBelow_9 rfl (lv_at hl 1 rfl) ?_
  refine va_get (D := (dC, dI)) (ci := 2) (v := Value.long p1_v_upper) (C := RX2) (T := TX2) (N := 2) hx hb hts iw_X2_isBelow_X2 hown hK hP 1 rfl rfl 0 (by decide) (hts _ kk_X2_isBelow_0) (fun _ h9 => h9) rfl dX2_isBelow_10 ?_
  refine lv_aload_n hx hb dX2_isBelow_13 rfl (lv_at hl 0 rfl) ?_
  refine va_get (D := (dC, dI)) (ci := 2) (v := Value.long p0_v_lower) (C := RX2) (T := TX2) (N := 2) hx hb hts iw_X2_isBelow_X2 hown hK hP 0 rfl rfl 1 (by decide) (hts _ kk_X2_isBelow_1) (fun _ h9 => h9) rfl dX2_isBelow_14 ?_
  refine lv_lmul hx hb dX2_isBelow_17 ?_
  refine lv_topl (fun y2 ey2 => ?_)
  refine W.lcmp hx hb dX2_isBelow_18 ?_
  refine lv_if_ge (tgt := 26) hx hb dX2_isBelow_19 (by decide) (fun c3 => ?_) (fun c3 => ?_)
  · skip
    have c39 := lc_ge c3
    have c38 := l_le c39
    refine lv_iconst (v := 0) hx hb dX2_isBelow_26 (by decide) ?_
    have hP9 := hP.sub (ws' := [(p0, Sum.inr (2, [Value.long p0_v_upper, Value.long p0_v_lower])), (p1, Sum.inr (2, [Value.long p1_v_upper, Value.long p1_v_lower]))]) [0, 1] rfl
    have hD9 := hD.sub (ws' := [(p0, Sum.inr (2, [Value.long p0_v_upper, Value.long p0_v_lower])), (p1, Sum.inr (2, [Value.long p1_v_upper, Value.long p1_v_lower]))]) [0, 1] (by decide) rfl
    exact W.zret (v := 0) hx hb hr rfl (fun t ht hW => ⟨⟨0, 0, rfl, rfl, (Or.inl ⟨rfl, (by intro hb; have f8 := ib_e ey1 ey2 hb; omega)⟩), by rw [ht]; exact hP9, hD9⟩, hS.F ht⟩) hS.2.2 dX2_isBelow_27
  · skip
    have c39 := lc_nge c3
    have c38 := l_lt c39
    refine lv_iconst (v := 1) hx hb dX2_isBelow_22 (by decide) ?_
    refine lv_goto (tgt := 27) hx hb dX2_isBelow_23 (by decide) ?_
    have hP9 := hP.sub (ws' := [(p0, Sum.inr (2, [Value.long p0_v_upper, Value.long p0_v_lower])), (p1, Sum.inr (2, [Value.long p1_v_upper, Value.long p1_v_lower]))]) [0, 1] rfl
    have hD9 := hD.sub (ws' := [(p0, Sum.inr (2, [Value.long p0_v_upper, Value.long p0_v_lower])), (p1, Sum.inr (2, [Value.long p1_v_upper, Value.long p1_v_lower]))]) [0, 1] (by decide) rfl
    exact W.zret (v := 1) hx hb hr rfl (fun t ht hW => ⟨⟨1, 1, rfl, rfl, (Or.inr (⟨rfl, (by intro hb; have f8 := ib_e ey1 ey2 hb; omega)⟩)), by rw [ht]; exact hP9, hD9⟩, hS.F ht⟩) hS.2.2 dX2_isBelow_27

