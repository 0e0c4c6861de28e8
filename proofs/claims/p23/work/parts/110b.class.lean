set_option maxHeartbeats 4000000 in
set_option maxRecDepth 100000 in
theorem ct_X3_wageOf (l : Launch) (dC : Nat → ClassId) (dI : Nat → Nat → Nat) (o : Nat) (p0 : Int64) (p1 : Int64) (p2 : Nat) (v_signs : Int32) (v_works : Int32) (v_whole : Int32) (v_otherwise : Int32) (v_least : Int32) (v_rates : Int32) (a_brings : Nat) (a_costs : Nat) (a_chances : Nat) (a_rate : Nat) (a_mark : Nat) (k_a_rate : ClassId) (f_a_rate : Nat → Int32) (k_a_mark : ClassId) (f_a_mark : Nat → Int32) (p2_v_upper : Int64) (p2_v_lower : Int64) (hp0 : jv p0 (-20000000) 20000000) (hp1 : jv p1 1 1600) (hv_rates : iv v_rates 1 3) (hf_a_rate : ivf f_a_rate 0 5) (hf_a_mark : ivf f_a_mark 0 99) (hmr : mkR v_rates.toNatClampNeg f_a_mark) (hrp : ∀ i : Nat, i < v_rates.toNatClampNeg → 1 ≤ (f_a_rate i).toInt) (sz : Nat) : Met l yX3_wageOf wsX3_wageOf ({ frames := 2, cells := 0, slots := 0, locals := 56 }) (va_Pc [Value.ref o, Value.long p0, Value.long p1, Value.ref p2] (fun U => U.heap.size = sz ∧ va_P (dC, dI) vwCl [(o, Sum.inr (3, [Value.int v_signs, Value.int v_works, Value.int v_whole, Value.int v_otherwise, Value.int v_least, Value.int v_rates, Value.ref a_brings, Value.ref a_costs, Value.ref a_chances, Value.ref a_rate, Value.ref a_mark])), (a_rate, Sum.inl (k_a_rate, 3, Sum.inl f_a_rate)), (a_mark, Sum.inl (k_a_mark, 2, Sum.inl f_a_mark)), (p2, Sum.inr (2, [Value.long p2_v_upper, Value.long p2_v_lower]))] U.heap ∧ va_K (dC, dI) vwCl [(k_a_rate, FieldType.int), (k_a_mark, FieldType.int)] U ∧ va_D (fun _ => True) [(o, Sum.inr (3, [Value.int v_signs, Value.int v_works, Value.int v_whole, Value.int v_otherwise, Value.int v_least, Value.int v_rates, Value.ref a_brings, Value.ref a_costs, Value.ref a_chances, Value.ref a_rate, Value.ref a_mark])), (a_rate, Sum.inl (k_a_rate, 3, Sum.inl f_a_rate)), (a_mark, Sum.inl (k_a_mark, 2, Sum.inl f_a_mark)), (p2, Sum.inr (2, [Value.long p2_v_upper, Value.long p2_v_lower]))])) (va_Qv (fun _ : Unit => True) (fun _ t => ∃ (e_p2_v_upper : Int64) (e_p2_v_lower : Int64), (wgR v_rates.toNatClampNeg (tI f_a_rate) (tI f_a_mark) (rcV (tI f_a_rate) (tI f_a_mark)) p0.toInt p1.toInt e_p2_v_upper.toInt e_p2_v_lower.toInt ∧ 1 ≤ e_p2_v_lower.toInt ∧ e_p2_v_lower.toInt ≤ 8000 ∧ -30000000 ≤ e_p2_v_upper.toInt ∧ e_p2_v_upper.toInt ≤ 30000000) ∧ va_P (dC, dI) vwCl [(o, Sum.inr (3, [Value.int v_signs, Value.int v_works, Value.int v_whole, Value.int v_otherwise, Value.int v_least, Value.int v_rates, Value.ref a_brings, Value.ref a_costs, Value.ref a_chances, Value.ref a_rate, Value.ref a_mark])), (a_rate, Sum.inl (k_a_rate, 3, Sum.inl f_a_rate)), (a_mark, Sum.inl (k_a_mark, 2, Sum.inl f_a_mark)), (p2, Sum.inr (2, [Value.long e_p2_v_upper, Value.long e_p2_v_lower]))] t.heap ∧ va_D (va_A [(o, Sum.inr (3, [Value.int v_signs, Value.int v_works, Value.int v_whole, Value.int v_otherwise, Value.int v_least, Value.int v_rates, Value.ref a_brings, Value.ref a_costs, Value.ref a_chances, Value.ref a_rate, Value.ref a_mark])), (a_rate, Sum.inl (k_a_rate, 3, Sum.inl f_a_rate)), (a_mark, Sum.inl (k_a_mark, 2, Sum.inl f_a_mark)), (p2, Sum.inr (2, [Value.long p2_v_upper, Value.long p2_v_lower]))] sz) [(o, Sum.inr (3, [Value.int v_signs, Value.int v_works, Value.int v_whole, Value.int v_otherwise, Value.int v_least, Value.int v_rates, Value.ref a_brings, Value.ref a_costs, Value.ref a_chances, Value.ref a_rate, Value.ref a_mark])), (a_rate, Sum.inl (k_a_rate, 3, Sum.inl f_a_rate)), (a_mark, Sum.inl (k_a_mark, 2, Sum.inl f_a_mark)), (p2, Sum.inr (2, [Value.long e_p2_v_upper, Value.long e_p2_v_lower]))]) (va_A [(o, Sum.inr (3, [Value.int v_signs, Value.int v_works, Value.int v_whole, Value.int v_otherwise, Value.int v_least, Value.int v_rates, Value.ref a_brings, Value.ref a_costs, Value.ref a_chances, Value.ref a_rate, Value.ref a_mark])), (a_rate, Sum.inl (k_a_rate, 3, Sum.inl f_a_rate)), (a_mark, Sum.inl (k_a_mark, 2, Sum.inl f_a_mark)), (p2, Sum.inr (2, [Value.long p2_v_upper, Value.long p2_v_lower]))] sz)) 0 0 (va_A [(o, Sum.inr (3, [Value.int v_signs, Value.int v_works, Value.int v_whole, Value.int v_otherwise, Value.int v_least, Value.int v_rates, Value.ref a_brings, Value.ref a_costs, Value.ref a_chances, Value.ref a_rate, Value.ref a_mark])), (a_rate, Sum.inl (k_a_rate, 3, Sum.inl f_a_rate)), (a_mark, Sum.inl (k_a_mark, 2, Sum.inl f_a_mark)), (p2, Sum.inr (2, [Value.long p2_v_upper, Value.long p2_v_lower]))] sz) := by
  refine Met.ofW (cc := cX3_wageOf) (maxL := 13) (ret := none) pn_X3 rfl ?_
  intro p e s m args below meth c s₁ B hml hv
  obtain ⟨rfl, hsz, hP, hK, hD0⟩ := hv
  have hx := B.exec
  have hb := B.bytes
  have hr := B.returns
  have hts := atoms_spec (ws := wsX3_wageOf) B.pre
  have hown : s.vm.findClass RX3 = some m.cls := findClass_of_methodNamed B.named
  have hlocks := B.notSynchronized
  subst hsz
  have hD := hD0.self (sz := s.heap.size)
  generalize hAe : va_A [(o, Sum.inr (3, [Value.int v_signs, Value.int v_works, Value.int v_whole, Value.int v_otherwise, Value.int v_least, Value.int v_rates, Value.ref a_brings, Value.ref a_costs, Value.ref a_chances, Value.ref a_rate, Value.ref a_mark])), (a_rate, Sum.inl (k_a_rate, 3, Sum.inl f_a_rate)), (a_mark, Sum.inl (k_a_mark, 2, Sum.inl f_a_mark)), (p2, Sum.inr (2, [Value.long p2_v_upper, Value.long p2_v_lower]))] s.heap.size = A at hD ⊢
  have hA : ∀ q : Nat, s.heap.size ≤ q → A q := fun q h => by rw [← hAe]; exact Or.inr h
  have hS : va_S A s.heap s.heap [] := va_S.rf
  have hP : va_P (dC, dI) vwCl [(o, Sum.inr (3, [Value.int v_signs, Value.int v_works, Value.int v_whole, Value.int v_otherwise, Value.int v_least, Value.int v_rates, Value.ref a_brings, Value.ref a_costs, Value.ref a_chances, Value.ref a_rate, Value.ref a_mark])), (a_rate, Sum.inl (k_a_rate, 3, Sum.inl f_a_rate)), (a_mark, Sum.inl (k_a_mark, 2, Sum.inl f_a_mark)), (p2, Sum.inr (2, [Value.long p2_v_upper, Value.long p2_v_lower]))] s.heap := hP
  have hl := lv_entry ([Value.ref o, Value.long p0, Value.long p1, Value.ref p2]) (n := 13) (Nat.le_of_ble_eq_true rfl)
  rw [lg_entry_eq]
  generalize (lg_sl ([Value.ref o, Value.long p0, Value.long p1, Value.ref p2]) ++ List.replicate (13 - (lg_sl ([Value.ref o, Value.long p0, Value.long p1, Value.ref p2])).length) Slot.unset).toArray = ls at hl ⊢
  have hl : lv_has ls 13 [(0, Value.ref o), (1, Value.long p0), (3, Value.long p1), (5, Value.ref p2)] := hl
  have bv_rates := hv_rates.u
  refine lv_lconst (v := 0) hx hb dX3_wageOf_0 (by decide) ?_
  refine lv_lstore (lv' := [(6, Value.long 0), (0, Value.ref o), (1, Value.long p0), (3, Value.long p1), (5, Value.ref p2)]) hx hb dX3_wageOf_1 hl (by decide) rfl (fun ls hl => ?_)
  refine lv_lconst (v := 0) hx hb dX3_wageOf_3 (by decide) ?_
  refine lv_lstore (lv' := [(8, Value.long 0), (6, Value.long 0), (0, Value.ref o), (1, Value.long p0), (3, Value.long p1), (5, Value.ref p2)]) hx hb dX3_wageOf_4 hl (by decide) rfl (fun ls hl => ?_)
  refine lv_iconst (v := 0) hx hb dX3_wageOf_6 (by decide) ?_
  refine lv_istore (lv' := [(10, Value.int 0), (8, Value.long 0), (6, Value.long 0), (0, Value.ref o), (1, Value.long p0), (3, Value.long p1), (5, Value.ref p2)]) hx hb dX3_wageOf_7 hl (by decide) rfl (fun ls hl => ?_)
  refine tl_loop (I := fun nn H locs ls => ∃ (v1 : Int32) (v2 : Int64) (v3 : Int64), nn = (2 - v1.toInt).toNat ∧ iv v1 0 2 ∧ jv v2 0 495 ∧ jv v3 0 99 ∧ ((v3 : Int64).toInt = wfr (tI f_a_mark) (v1).toNatClampNeg ∧ (v2 : Int64).toInt = wfr (rcV (tI f_a_rate) (tI f_a_mark)) (v1).toNatClampNeg) ∧ ((v1).toInt = 0 ∨ p1.toInt * (rcV (tI f_a_rate) (tI f_a_mark)) ((v1).toNatClampNeg - 1) < p0.toInt) ∧ ((v1).toInt + 1 ≤ v_rates.toInt) ∧  va_P (dC, dI) vwCl [(o, Sum.inr (3, [Value.int v_signs, Value.int v_works, Value.int v_whole, Value.int v_otherwise, Value.int v_least, Value.int v_rates, Value.ref a_brings, Value.ref a_costs, Value.ref a_chances, Value.ref a_rate, Value.ref a_mark])), (a_rate, Sum.inl (k_a_rate, 3, Sum.inl f_a_rate)), (a_mark, Sum.inl (k_a_mark, 2, Sum.inl f_a_mark)), (p2, Sum.inr (2, [Value.long p2_v_upper, Value.long p2_v_lower]))] H ∧ va_D A [(o, Sum.inr (3, [Value.int v_signs, Value.int v_works, Value.int v_whole, Value.int v_otherwise, Value.int v_least, Value.int v_rates, Value.ref a_brings, Value.ref a_costs, Value.ref a_chances, Value.ref a_rate, Value.ref a_mark])), (a_rate, Sum.inl (k_a_rate, 3, Sum.inl f_a_rate)), (a_mark, Sum.inl (k_a_mark, 2, Sum.inl f_a_mark)), (p2, Sum.inr (2, [Value.long p2_v_upper, Value.long p2_v_lower]))] ∧ va_S A s.heap H locs ∧ lv_has ls 13 [(10, Value.int v1), (8, Value.long v2), (6, Value.long v3), (0, Value.ref o), (1, Value.long p0), (3, Value.long p1), (5, Value.ref p2)]) ?_ ⟨0, 0, 0, rfl, (iv.m (by decide)), (jv.m (show 0 ≤ (0 : Int64).toInt ∧ (0 : Int64).toInt ≤ 495 by decide)), (jv.m (show 0 ≤ (0 : Int64).toInt ∧ (0 : Int64).toInt ≤ 99 by decide)), ⟨wfr_0, wfr_0⟩, (Or.inl (by decide)), (by have hz9 : (0 : Int32).toInt = 0 := (by decide); omega), hP, hD, hS, lv_sub hl [0, 1, 2, 3, 4, 5, 6] rfl⟩
  clear hP hD hS hl
  intro nn9 H locs ls hI ih9
  obtain ⟨v1, v2, v3, hn9, hv1, hv2, hv3, hi9_0, hi9_1, hi9_2, hP, hD, hS, hl⟩ := hI
  have bv1 := hv1.u
  refine lv_iload hx hb dX3_wageOf_9 (lv_at hl 0 rfl) ?_
  refine lv_aload_n hx hb dX3_wageOf_11 rfl (lv_at hl 3 rfl) ?_
  refine va_get (D := (dC, dI)) (ci := 3) (v := Value.int v_rates) (C := RX3) (T := TX3) (N := 11) hx hb hts iw_X3_wageOf_X3 hown hK hP 0 rfl rfl 5 (by decide) (hts _ kk_X3_wageOf_0) (fun _ h9 => h9) rfl dX3_wageOf_12 ?_
  refine lv_iconst (v := 1) hx hb dX3_wageOf_15 (by decide) ?_
  refine lv_isub hx hb dX3_wageOf_16 ?_
  refine lv_topi (fun x4 ex4 => ?_)
  have tx4 := i32_sub ex4 rfl (show (1 : Int32).toInt = 1 by decide) (by omega) (by omega)
  refine lv_icmp_ge (tgt := 77) hx hb dX3_wageOf_17 (by decide) (fun c5 => ?_) (fun c5 => ?_)
  · have c59 := i32_le c5 rfl rfl
    refine lv_aload hx hb dX3_wageOf_77 (lv_at hl 6 rfl) ?_
    refine lv_lload_n hx hb dX3_wageOf_79 rfl (lv_at hl 4 rfl) ?_
    refine lv_lload hx hb dX3_wageOf_80 (lv_at hl 1 rfl) ?_
    refine lv_lload_n hx hb dX3_wageOf_82 rfl (lv_at hl 5 rfl) ?_
    refine lv_lmul hx hb dX3_wageOf_83 ?_
    refine lv_topl (fun y6 ey6 => ?_)
    have hy6 : jv y6 0 792000 := jv.mulp ey6 hv2 hp1 (by decide) (by decide) (by decide) (by decide) (by decide)
    refine lv_lsub hx hb dX3_wageOf_84 ?_
    refine lv_topl (fun y7 ey7 => ?_)
    have hy7 : jv y7 (-20792000) 20000000 := jv.sub ey7 hp0 hy6 (by decide) (by decide) (by decide) (by decide)
    refine lv_lload hx hb dX3_wageOf_85 (lv_at hl 2 rfl) ?_
    refine lv_aload_n hx hb dX3_wageOf_87 rfl (lv_at hl 3 rfl) ?_
    refine va_get (D := (dC, dI)) (ci := 3) (v := Value.ref a_rate) (C := RX3) (T := TX3) (N := 11) hx hb hts iw_X3_wageOf_X3 hown hK hP 0 rfl rfl 9 (by decide) (hts _ kk_X3_wageOf_1) (fun _ h9 => h9) rfl dX3_wageOf_88 ?_
    refine lv_iload hx hb dX3_wageOf_91 (lv_at hl 0 rfl) ?_
    refine va_iald hx hb hK hP 1 0 rfl rfl (vq_in v1 3 (by omega)) dX3_wageOf_93 ?_
    refine lv_topi (fun x8 ex8 => ?_)
    have hx8 : iv x8 0 5 := iv.of (hf_a_rate _) ex8
    refine lv_i2l (v := (x8).toInt64) hx hb dX3_wageOf_94 rfl ?_
    refine lv_lmul hx hb dX3_wageOf_95 ?_
    refine lv_topl (fun y9 ey9 => ?_)
    have hy9 : jv y9 0 495 := jv.mulp ey9 hv3 (jv.i (show iv x8 0 5 from hx8)) (by decide) (by decide) (by decide) (by decide) (by decide)
    refine lv_lload_n hx hb dX3_wageOf_96 rfl (lv_at hl 5 rfl) ?_
    refine lv_lmul hx hb dX3_wageOf_97 ?_
    refine lv_topl (fun y10 ey10 => ?_)
    have hy10 : jv y10 0 792000 := jv.mulp ey10 hy9 hp1 (by decide) (by decide) (by decide) (by decide) (by decide)
    refine lv_ladd hx hb dX3_wageOf_98 ?_
    refine lv_topl (fun y11 ey11 => ?_)
    have hy11 : jv y11 (-20792000) 20792000 := jv.add ey11 hy7 hy10 (by decide) (by decide) (by decide) (by decide)
    refine lv_aload_n hx hb dX3_wageOf_99 rfl (lv_at hl 3 rfl) ?_
    refine va_get (D := (dC, dI)) (ci := 3) (v := Value.ref a_rate) (C := RX3) (T := TX3) (N := 11) hx hb hts iw_X3_wageOf_X3 hown hK hP 0 rfl rfl 9 (by decide) (hts _ kk_X3_wageOf_1) (fun _ h9 => h9) rfl dX3_wageOf_100 ?_
    refine lv_iload hx hb dX3_wageOf_103 (lv_at hl 0 rfl) ?_
    refine va_iald hx hb hK hP 1 0 rfl rfl (vq_in v1 3 (by omega)) dX3_wageOf_105 ?_
    refine px_i (v := x8) ex8.symm ?_
    refine lv_i2l (v := (x8).toInt64) hx hb dX3_wageOf_106 rfl ?_
    refine lv_lload_n hx hb dX3_wageOf_107 rfl (lv_at hl 5 rfl) ?_
    refine lv_lmul hx hb dX3_wageOf_108 ?_
    refine lv_topl (fun y12 ey12 => ?_)
    have hy12 : jv y12 0 8000 := jv.mulp ey12 (jv.i (show iv x8 0 5 from hx8)) hp1 (by decide) (by decide) (by decide) (by decide) (by decide)
    have ny6 : y6.toInt = v2.toInt * p1.toInt := i64_sm ey6 (show jv v2 (-100000000) 100000000 from (hv2.w (by decide) (by decide))).1 (show jv v2 (-100000000) 100000000 from (hv2.w (by decide) (by decide))).2 (show jv p1 (-100000000) 100000000 from (hp1.w (by decide) (by decide))).1 (show jv p1 (-100000000) 100000000 from (hp1.w (by decide) (by decide))).2
    have ny7 : y7.toInt = p0.toInt - y6.toInt := i64_subE ey7 hp0 hy6 (by decide) (by decide)
    have ny9 : y9.toInt = v3.toInt * ((x8).toInt64).toInt := i64_sm ey9 (show jv v3 (-100000000) 100000000 from (hv3.w (by decide) (by decide))).1 (show jv v3 (-100000000) 100000000 from (hv3.w (by decide) (by decide))).2 (show jv ((x8).toInt64) (-100000000) 100000000 from ((jv.i (show iv x8 0 5 from hx8)).w (by decide) (by decide))).1 (show jv ((x8).toInt64) (-100000000) 100000000 from ((jv.i (show iv x8 0 5 from hx8)).w (by decide) (by decide))).2
    have ny10 : y10.toInt = y9.toInt * p1.toInt := i64_sm ey10 (show jv y9 (-100000000) 100000000 from (hy9.w (by decide) (by decide))).1 (show jv y9 (-100000000) 100000000 from (hy9.w (by decide) (by decide))).2 (show jv p1 (-100000000) 100000000 from (hp1.w (by decide) (by decide))).1 (show jv p1 (-100000000) 100000000 from (hp1.w (by decide) (by decide))).2
    have ny11 : y11.toInt = y7.toInt + y10.toInt := i64_addE ey11 hy7 hy10 (by decide) (by decide)
    have ny12 : y12.toInt = ((x8).toInt64).toInt * p1.toInt := i64_sm ey12 (show jv ((x8).toInt64) (-100000000) 100000000 from ((jv.i (show iv x8 0 5 from hx8)).w (by decide) (by decide))).1 (show jv ((x8).toInt64) (-100000000) 100000000 from ((jv.i (show iv x8 0 5 from hx8)).w (by decide) (by decide))).2 (show jv p1 (-100000000) 100000000 from (hp1.w (by decide) (by decide))).1 (show jv p1 (-100000000) 100000000 from (hp1.w (by decide) (by decide))).2
    have hPc := hP.sub (ws' := [(p2, Sum.inr (2, [Value.long p2_v_upper, Value.long p2_v_lower]))]) [3] rfl
    have hDc := hD.sub (ws' := [(p2, Sum.inr (2, [Value.long p2_v_upper, Value.long p2_v_lower]))]) [3] (by decide) rfl
    have hKc := hK.sub (tys' := []) [] rfl
    have hFc := va_free (wc := [(p2, Sum.inr (2, [Value.long p2_v_upper, Value.long p2_v_lower]))]) hD hS hA [3] rfl
    refine va_callv (va_runV (As := [Value.long y11, Value.long y12]) (rest := []) ⟨hx, hb, hml, hown, hts⟩ (ct_X2_become l dC dI p2 y11 y12 p2_v_upper p2_v_lower H.size) (cwV 2 hts gX3_wageOf_X2_become rfl rfl rfl ⟨rfl, cn_X2.1, cn_X2.2, ds_13⟩ ⟨Nat.le_of_ble_eq_true rfl, Nat.le_of_ble_eq_true rfl⟩) ⟨fun a U g mk q => by obtain ⟨q0, q1, qP, qK, qD⟩ := q; exact ⟨q0, q1, qP, va_K.moved (u := U) (U := U.calling g mk a) (Vm.Alike.refl U.vm) qK, qD⟩, va_recv hKc hPc (ci := 2) (q0 := 0) rfl rfl, fun U hU hW => ⟨rfl, by rw [hU], by rw [hU]; exact hPc, va_K.moved hW.alike hKc, hDc.weaken (fun _ _ _ _ => trivial)⟩⟩ rfl rfl hl.1 rfl (lv_room (Nat.le_of_ble_eq_true rfl)) dX3_wageOf_109 ⟨Nat.le_of_ble_eq_true rfl, Nat.le_of_ble_eq_true rfl⟩) hS (fun q _ h => hFc q h) hFc (fun u t H1 locs ht hvm hw hB hz1 hk1 hS => ?_)
    obtain ⟨y14, y15, w16, hP1, hD1⟩ := hB
    rw [ht] at hP1
    obtain ⟨hP, hD⟩ := va_join (wr := [(o, Sum.inr (3, [Value.int v_signs, Value.int v_works, Value.int v_whole, Value.int v_otherwise, Value.int v_least, Value.int v_rates, Value.ref a_brings, Value.ref a_costs, Value.ref a_chances, Value.ref a_rate, Value.ref a_mark])), (a_rate, Sum.inl (k_a_rate, 3, Sum.inl f_a_rate)), (a_mark, Sum.inl (k_a_mark, 2, Sum.inl f_a_mark))]) (w1 := [(p2, Sum.inr (2, [Value.long y14, Value.long y15]))]) hP hD [3] [0, 1, 2] rfl rfl (by decide) (by decide) hk1 hFc hP1 hD1
    clear hPc hDc hKc hFc hP1 hD1 hk1 hz1
    generalize H1 = H at hP hS ⊢
    have hP : va_P (dC, dI) vwCl [(o, Sum.inr (3, [Value.int v_signs, Value.int v_works, Value.int v_whole, Value.int v_otherwise, Value.int v_least, Value.int v_rates, Value.ref a_brings, Value.ref a_costs, Value.ref a_chances, Value.ref a_rate, Value.ref a_mark])), (a_rate, Sum.inl (k_a_rate, 3, Sum.inl f_a_rate)), (a_mark, Sum.inl (k_a_mark, 2, Sum.inl f_a_mark)), (p2, Sum.inr (2, [Value.long y14, Value.long y15]))] H := hP
    have hD : va_D A [(o, Sum.inr (3, [Value.int v_signs, Value.int v_works, Value.int v_whole, Value.int v_otherwise, Value.int v_least, Value.int v_rates, Value.ref a_brings, Value.ref a_costs, Value.ref a_chances, Value.ref a_rate, Value.ref a_mark])), (a_rate, Sum.inl (k_a_rate, 3, Sum.inl f_a_rate)), (a_mark, Sum.inl (k_a_mark, 2, Sum.inl f_a_mark)), (p2, Sum.inr (2, [Value.long y14, Value.long y15]))] := hD
    refine W.widen (k := 0) (n := 0) (by decide) (by decide) ?_
    have hP9 := hP.sub (ws' := [(o, Sum.inr (3, [Value.int v_signs, Value.int v_works, Value.int v_whole, Value.int v_otherwise, Value.int v_least, Value.int v_rates, Value.ref a_brings, Value.ref a_costs, Value.ref a_chances, Value.ref a_rate, Value.ref a_mark])), (a_rate, Sum.inl (k_a_rate, 3, Sum.inl f_a_rate)), (a_mark, Sum.inl (k_a_mark, 2, Sum.inl f_a_mark)), (p2, Sum.inr (2, [Value.long y14, Value.long y15]))]) [0, 1, 2, 3] rfl
    have hD9 := hD.sub (ws' := [(o, Sum.inr (3, [Value.int v_signs, Value.int v_works, Value.int v_whole, Value.int v_otherwise, Value.int v_least, Value.int v_rates, Value.ref a_brings, Value.ref a_costs, Value.ref a_chances, Value.ref a_rate, Value.ref a_mark])), (a_rate, Sum.inl (k_a_rate, 3, Sum.inl f_a_rate)), (a_mark, Sum.inl (k_a_mark, 2, Sum.inl f_a_mark)), (p2, Sum.inr (2, [Value.long y14, Value.long y15]))]) [0, 1, 2, 3] (by decide) rfl
    exact W.vret hx hb hr (fun t ht hW => ⟨⟨(), rfl, trivial, y14, y15, (by exact wo_end hp1.1 hp1.2 hp0.1 hp0.2 hmr hf_a_rate hf_a_mark hrp (by omega) (by omega) hi9_0.1 hi9_0.2 hi9_1 (Or.inl (by omega)) ex8 (by simp only [ny6, ny7, ny9, ny10, ny11, ny12, l_i]) (by simp only [ny6, ny7, ny9, ny10, ny11, ny12, l_i]) w16), by rw [ht]; exact hP9, hD9⟩, hS.F ht⟩) hS.2.2 dX3_wageOf_112
  · have c59 := i32_nle c5 rfl rfl
    refine lv_lload hx hb dX3_wageOf_20 (lv_at hl 1 rfl) ?_
    refine lv_aload_n hx hb dX3_wageOf_22 rfl (lv_at hl 3 rfl) ?_
    refine va_get (D := (dC, dI)) (ci := 3) (v := Value.ref a_rate) (C := RX3) (T := TX3) (N := 11) hx hb hts iw_X3_wageOf_X3 hown hK hP 0 rfl rfl 9 (by decide) (hts _ kk_X3_wageOf_1) (fun _ h9 => h9) rfl dX3_wageOf_23 ?_
    refine lv_iload hx hb dX3_wageOf_26 (lv_at hl 0 rfl) ?_
    refine va_iald hx hb hK hP 1 0 rfl rfl (vq_in v1 3 (by omega)) dX3_wageOf_28 ?_
    refine lv_topi (fun x17 ex17 => ?_)
    have hx17 : iv x17 0 5 := iv.of (hf_a_rate _) ex17
    refine lv_i2l (v := (x17).toInt64) hx hb dX3_wageOf_29 rfl ?_
    refine lv_aload_n hx hb dX3_wageOf_30 rfl (lv_at hl 3 rfl) ?_
    refine va_get (D := (dC, dI)) (ci := 3) (v := Value.ref a_mark) (C := RX3) (T := TX3) (N := 11) hx hb hts iw_X3_wageOf_X3 hown hK hP 0 rfl rfl 10 (by decide) (hts _ kk_X3_wageOf_2) (fun _ h9 => h9) rfl dX3_wageOf_31 ?_
    refine lv_iload hx hb dX3_wageOf_34 (lv_at hl 0 rfl) ?_
    refine va_iald hx hb hK hP 2 1 rfl rfl (vq_in v1 2 (by omega)) dX3_wageOf_36 ?_
    refine lv_topi (fun x18 ex18 => ?_)
    have hx18 : iv x18 0 99 := iv.of (hf_a_mark _) ex18
    refine lv_i2l (v := (x18).toInt64) hx hb dX3_wageOf_37 rfl ?_
    refine lv_lload hx hb dX3_wageOf_38 (lv_at hl 2 rfl) ?_
    refine lv_lsub hx hb dX3_wageOf_40 ?_
    refine lv_topl (fun y19 ey19 => ?_)
    have hy19 : jv y19 (-99) 99 := jv.sub ey19 (jv.i (show iv x18 0 99 from hx18)) hv3 (by decide) (by decide) (by decide) (by decide)
    refine lv_lmul hx hb dX3_wageOf_41 ?_
    refine lv_topl (fun y20 ey20 => ?_)
    have hy20 : jv y20 (-495) 495 := jv.mula (B := 5) (D := 99) ey20 (jv.i (show iv x17 0 5 from hx17)) hy19 (by decide) (by decide) (by decide) (by decide) (by decide) (by decide)
    refine lv_ladd hx hb dX3_wageOf_42 ?_
    refine lv_topl (fun y21 ey21 => ?_)
    have hy21 : jv y21 (-495) 990 := jv.add ey21 hv2 hy20 (by decide) (by decide) (by decide) (by decide)
    have ny19 : y19.toInt = ((x18).toInt64).toInt - v3.toInt := i64_subE ey19 (jv.i (show iv x18 0 99 from hx18)) hv3 (by decide) (by decide)
    have ny20 : y20.toInt = ((x17).toInt64).toInt * y19.toInt := i64_sm ey20 (show jv ((x17).toInt64) (-100000000) 100000000 from ((jv.i (show iv x17 0 5 from hx17)).w (by decide) (by decide))).1 (show jv ((x17).toInt64) (-100000000) 100000000 from ((jv.i (show iv x17 0 5 from hx17)).w (by decide) (by decide))).2 (show jv y19 (-100000000) 100000000 from (hy19.w (by decide) (by decide))).1 (show jv y19 (-100000000) 100000000 from (hy19.w (by decide) (by decide))).2
    have ny21 : y21.toInt = v2.toInt + y20.toInt := i64_addE ey21 hv2 hy20 (by decide) (by decide)
    have qy21 : y21.toInt = (rcV (tI f_a_rate) (tI f_a_mark)) (v1).toNatClampNeg := wo_rc hi9_0.1 hi9_0.2 ex17 ex18 (by simp only [ny19, ny20, ny21, l_i])
    have hy21 : jv y21 0 495 := by have z9 := rc_b hmr hf_a_rate hf_a_mark (v1).toNatClampNeg (by have e8 := nn_eq v1; have e9 := nn_eq v_rates; omega); exact jv.m (by rw [qy21]; omega)
    refine lv_lstore (lv' := [(11, Value.long y21), (10, Value.int v1), (8, Value.long v2), (6, Value.long v3), (0, Value.ref o), (1, Value.long p0), (3, Value.long p1), (5, Value.ref p2)]) hx hb dX3_wageOf_43 hl (by decide) rfl (fun ls hl => ?_)
    refine lv_lload_n hx hb dX3_wageOf_45 rfl (lv_at hl 5 rfl) ?_
    refine lv_lload hx hb dX3_wageOf_46 (lv_at hl 0 rfl) ?_
    refine lv_lload_n hx hb dX3_wageOf_48 rfl (lv_at hl 6 rfl) ?_
    refine lv_lmul hx hb dX3_wageOf_49 ?_
    refine lv_topl (fun y22 ey22 => ?_)
    have hy22 : jv y22 0 792000 := jv.mulp ey22 hy21 hp1 (by decide) (by decide) (by decide) (by decide) (by decide)
    have ny19 : y19.toInt = ((x18).toInt64).toInt - v3.toInt := i64_subE ey19 (jv.i (show iv x18 0 99 from hx18)) hv3 (by decide) (by decide)
    have ny20 : y20.toInt = ((x17).toInt64).toInt * y19.toInt := i64_sm ey20 (show jv ((x17).toInt64) (-100000000) 100000000 from ((jv.i (show iv x17 0 5 from hx17)).w (by decide) (by decide))).1 (show jv ((x17).toInt64) (-100000000) 100000000 from ((jv.i (show iv x17 0 5 from hx17)).w (by decide) (by decide))).2 (show jv y19 (-100000000) 100000000 from (hy19.w (by decide) (by decide))).1 (show jv y19 (-100000000) 100000000 from (hy19.w (by decide) (by decide))).2
    have ny21 : y21.toInt = v2.toInt + y20.toInt := i64_addE ey21 hv2 hy20 (by decide) (by decide)
    have ny22 : y22.toInt = y21.toInt * p1.toInt := i64_sm ey22 (show jv y21 (-100000000) 100000000 from (hy21.w (by decide) (by decide))).1 (show jv y21 (-100000000) 100000000 from (hy21.w (by decide) (by decide))).2 (show jv p1 (-100000000) 100000000 from (hp1.w (by decide) (by decide))).1 (show jv p1 (-100000000) 100000000 from (hp1.w (by decide) (by decide))).2
    refine W.lcmp hx hb dX3_wageOf_50 ?_
    refine lv_if_gt (tgt := 57) hx hb dX3_wageOf_51 (by decide) (fun c23 => ?_) (fun c23 => ?_)
    · skip
      have c239 := lc_gt c23
      have c238 := l_lt c239
      refine lv_lload hx hb dX3_wageOf_57 (lv_at hl 0 rfl) ?_
      refine lv_lstore (lv' := [(8, Value.long y21), (11, Value.long y21), (10, Value.int v1), (6, Value.long v3), (0, Value.ref o), (1, Value.long p0), (3, Value.long p1), (5, Value.ref p2)]) hx hb dX3_wageOf_59 hl (by decide) rfl (fun ls hl => ?_)
      refine lv_aload_n hx hb dX3_wageOf_61 rfl (lv_at hl 4 rfl) ?_
      refine va_get (D := (dC, dI)) (ci := 3) (v := Value.ref a_mark) (C := RX3) (T := TX3) (N := 11) hx hb hts iw_X3_wageOf_X3 hown hK hP 0 rfl rfl 10 (by decide) (hts _ kk_X3_wageOf_2) (fun _ h9 => h9) rfl dX3_wageOf_62 ?_
      refine lv_iload hx hb dX3_wageOf_65 (lv_at hl 2 rfl) ?_
      refine va_iald hx hb hK hP 2 1 rfl rfl (vq_in v1 2 (by omega)) dX3_wageOf_67 ?_
      refine px_i (v := x18) ex18.symm ?_
      refine lv_i2l (v := (x18).toInt64) hx hb dX3_wageOf_68 rfl ?_
      refine lv_lstore (lv' := [(6, Value.long ((x18).toInt64)), (8, Value.long y21), (11, Value.long y21), (10, Value.int v1), (0, Value.ref o), (1, Value.long p0), (3, Value.long p1), (5, Value.ref p2)]) hx hb dX3_wageOf_69 hl (by decide) rfl (fun ls hl => ?_)
      obtain ⟨x24, ex24⟩ : ∃ z : Int32, v1 + Int32.ofInt 1 = z := ⟨_, rfl⟩
      have tx24 := i32_inc ex24 rfl (by decide) (by omega) (by omega)
      refine lv_iinc (v := x24) (lv' := [(10, Value.int x24), (6, Value.long ((x18).toInt64)), (8, Value.long y21), (11, Value.long y21), (0, Value.ref o), (1, Value.long p0), (3, Value.long p1), (5, Value.ref p2)]) hx hb dX3_wageOf_71 hl (k := 3) rfl ex24 (by decide) rfl (fun ls hl => ?_)
      refine lv_goto (tgt := 9) hx hb dX3_wageOf_74 (by decide) ?_
      exact ih9 _ _ _ _ (ms_up hn9 tx24 (by decide) (by omega)) ⟨x24, y21, (x18).toInt64, rfl, (iv.m (by omega)), hy21, (jv.i (show iv x18 0 99 from hx18)), ⟨wfr_s (by rw [l_i, ex18]; rfl) tx24 (by omega), wfr_s qy21 tx24 (by omega)⟩, (wo_lo qy21 ny22 (by assumption) tx24 (by omega)), (by omega), hP, hD, hS, lv_sub hl [0, 2, 1, 4, 5, 6, 7] rfl⟩
    · skip
      have c239 := lc_ngt c23
      have c238 := l_le c239
      refine lv_goto (tgt := 77) hx hb dX3_wageOf_54 (by decide) ?_
      refine lv_aload hx hb dX3_wageOf_77 (lv_at hl 7 rfl) ?_
      refine lv_lload_n hx hb dX3_wageOf_79 rfl (lv_at hl 5 rfl) ?_
      refine lv_lload hx hb dX3_wageOf_80 (lv_at hl 2 rfl) ?_
      refine lv_lload_n hx hb dX3_wageOf_82 rfl (lv_at hl 6 rfl) ?_
      refine lv_lmul hx hb dX3_wageOf_83 ?_
      refine lv_topl (fun y25 ey25 => ?_)
      have hy25 : jv y25 0 792000 := jv.mulp ey25 hv2 hp1 (by decide) (by decide) (by decide) (by decide) (by decide)
      refine lv_lsub hx hb dX3_wageOf_84 ?_
      refine lv_topl (fun y26 ey26 => ?_)
      have hy26 : jv y26 (-20792000) 20000000 := jv.sub ey26 hp0 hy25 (by decide) (by decide) (by decide) (by decide)
      refine lv_lload hx hb dX3_wageOf_85 (lv_at hl 3 rfl) ?_
      refine lv_aload_n hx hb dX3_wageOf_87 rfl (lv_at hl 4 rfl) ?_
      refine va_get (D := (dC, dI)) (ci := 3) (v := Value.ref a_rate) (C := RX3) (T := TX3) (N := 11) hx hb hts iw_X3_wageOf_X3 hown hK hP 0 rfl rfl 9 (by decide) (hts _ kk_X3_wageOf_1) (fun _ h9 => h9) rfl dX3_wageOf_88 ?_
      refine lv_iload hx hb dX3_wageOf_91 (lv_at hl 1 rfl) ?_
      refine va_iald hx hb hK hP 1 0 rfl rfl (vq_in v1 3 (by omega)) dX3_wageOf_93 ?_
      refine px_i (v := x17) ex17.symm ?_
      refine lv_i2l (v := (x17).toInt64) hx hb dX3_wageOf_94 rfl ?_
      refine lv_lmul hx hb dX3_wageOf_95 ?_
      refine lv_topl (fun y27 ey27 => ?_)
      have hy27 : jv y27 0 495 := jv.mulp ey27 hv3 (jv.i (show iv x17 0 5 from hx17)) (by decide) (by decide) (by decide) (by decide) (by decide)
      refine lv_lload_n hx hb dX3_wageOf_96 rfl (lv_at hl 6 rfl) ?_
      refine lv_lmul hx hb dX3_wageOf_97 ?_
      refine lv_topl (fun y28 ey28 => ?_)
      have hy28 : jv y28 0 792000 := jv.mulp ey28 hy27 hp1 (by decide) (by decide) (by decide) (by decide) (by decide)
      refine lv_ladd hx hb dX3_wageOf_98 ?_
      refine lv_topl (fun y29 ey29 => ?_)
      have hy29 : jv y29 (-20792000) 20792000 := jv.add ey29 hy26 hy28 (by decide) (by decide) (by decide) (by decide)
      refine lv_aload_n hx hb dX3_wageOf_99 rfl (lv_at hl 4 rfl) ?_
      refine va_get (D := (dC, dI)) (ci := 3) (v := Value.ref a_rate) (C := RX3) (T := TX3) (N := 11) hx hb hts iw_X3_wageOf_X3 hown hK hP 0 rfl rfl 9 (by decide) (hts _ kk_X3_wageOf_1) (fun _ h9 => h9) rfl dX3_wageOf_100 ?_
      refine lv_iload hx hb dX3_wageOf_103 (lv_at hl 1 rfl) ?_
      refine va_iald hx hb hK hP 1 0 rfl rfl (vq_in v1 3 (by omega)) dX3_wageOf_105 ?_
      refine px_i (v := x17) ex17.symm ?_
      refine lv_i2l (v := (x17).toInt64) hx hb dX3_wageOf_106 rfl ?_
      refine lv_lload_n hx hb dX3_wageOf_107 rfl (lv_at hl 6 rfl) ?_
      refine lv_lmul hx hb dX3_wageOf_108 ?_
      refine lv_topl (fun y30 ey30 => ?_)
      have hy30 : jv y30 0 8000 := jv.mulp ey30 (jv.i (show iv x17 0 5 from hx17)) hp1 (by decide) (by decide) (by decide) (by decide) (by decide)
      have ny25 : y25.toInt = v2.toInt * p1.toInt := i64_sm ey25 (show jv v2 (-100000000) 100000000 from (hv2.w (by decide) (by decide))).1 (show jv v2 (-100000000) 100000000 from (hv2.w (by decide) (by decide))).2 (show jv p1 (-100000000) 100000000 from (hp1.w (by decide) (by decide))).1 (show jv p1 (-100000000) 100000000 from (hp1.w (by decide) (by decide))).2
      have ny26 : y26.toInt = p0.toInt - y25.toInt := i64_subE ey26 hp0 hy25 (by decide) (by decide)
      have ny27 : y27.toInt = v3.toInt * ((x17).toInt64).toInt := i64_sm ey27 (show jv v3 (-100000000) 100000000 from (hv3.w (by decide) (by decide))).1 (show jv v3 (-100000000) 100000000 from (hv3.w (by decide) (by decide))).2 (show jv ((x17).toInt64) (-100000000) 100000000 from ((jv.i (show iv x17 0 5 from hx17)).w (by decide) (by decide))).1 (show jv ((x17).toInt64) (-100000000) 100000000 from ((jv.i (show iv x17 0 5 from hx17)).w (by decide) (by decide))).2
      have ny28 : y28.toInt = y27.toInt * p1.toInt := i64_sm ey28 (show jv y27 (-100000000) 100000000 from (hy27.w (by decide) (by decide))).1 (show jv y27 (-100000000) 100000000 from (hy27.w (by decide) (by decide))).2 (show jv p1 (-100000000) 100000000 from (hp1.w (by decide) (by decide))).1 (show jv p1 (-100000000) 100000000 from (hp1.w (by decide) (by decide))).2
      have ny29 : y29.toInt = y26.toInt + y28.toInt := i64_addE ey29 hy26 hy28 (by decide) (by decide)
      have ny30 : y30.toInt = ((x17).toInt64).toInt * p1.toInt := i64_sm ey30 (show jv ((x17).toInt64) (-100000000) 100000000 from ((jv.i (show iv x17 0 5 from hx17)).w (by decide) (by decide))).1 (show jv ((x17).toInt64) (-100000000) 100000000 from ((jv.i (show iv x17 0 5 from hx17)).w (by decide) (by decide))).2 (show jv p1 (-100000000) 100000000 from (hp1.w (by decide) (by decide))).1 (show jv p1 (-100000000) 100000000 from (hp1.w (by decide) (by decide))).2
      have hPc := hP.sub (ws' := [(p2, Sum.inr (2, [Value.long p2_v_upper, Value.long p2_v_lower]))]) [3] rfl
      have hDc := hD.sub (ws' := [(p2, Sum.inr (2, [Value.long p2_v_upper, Value.long p2_v_lower]))]) [3] (by decide) rfl
      have hKc := hK.sub (tys' := []) [] rfl
      have hFc := va_free (wc := [(p2, Sum.inr (2, [Value.long p2_v_upper, Value.long p2_v_lower]))]) hD hS hA [3] rfl
      refine va_callv (va_runV (As := [Value.long y29, Value.long y30]) (rest := []) ⟨hx, hb, hml, hown, hts⟩ (ct_X2_become l dC dI p2 y29 y30 p2_v_upper p2_v_lower H.size) (cwV 2 hts gX3_wageOf_X2_become rfl rfl rfl ⟨rfl, cn_X2.1, cn_X2.2, ds_13⟩ ⟨Nat.le_of_ble_eq_true rfl, Nat.le_of_ble_eq_true rfl⟩) ⟨fun a U g mk q => by obtain ⟨q0, q1, qP, qK, qD⟩ := q; exact ⟨q0, q1, qP, va_K.moved (u := U) (U := U.calling g mk a) (Vm.Alike.refl U.vm) qK, qD⟩, va_recv hKc hPc (ci := 2) (q0 := 0) rfl rfl, fun U hU hW => ⟨rfl, by rw [hU], by rw [hU]; exact hPc, va_K.moved hW.alike hKc, hDc.weaken (fun _ _ _ _ => trivial)⟩⟩ rfl rfl hl.1 rfl (lv_room (Nat.le_of_ble_eq_true rfl)) dX3_wageOf_109 ⟨Nat.le_of_ble_eq_true rfl, Nat.le_of_ble_eq_true rfl⟩) hS (fun q _ h => hFc q h) hFc (fun u t H1 locs ht hvm hw hB hz1 hk1 hS => ?_)
      obtain ⟨y32, y33, w34, hP1, hD1⟩ := hB
      rw [ht] at hP1
      obtain ⟨hP, hD⟩ := va_join (wr := [(o, Sum.inr (3, [Value.int v_signs, Value.int v_works, Value.int v_whole, Value.int v_otherwise, Value.int v_least, Value.int v_rates, Value.ref a_brings, Value.ref a_costs, Value.ref a_chances, Value.ref a_rate, Value.ref a_mark])), (a_rate, Sum.inl (k_a_rate, 3, Sum.inl f_a_rate)), (a_mark, Sum.inl (k_a_mark, 2, Sum.inl f_a_mark))]) (w1 := [(p2, Sum.inr (2, [Value.long y32, Value.long y33]))]) hP hD [3] [0, 1, 2] rfl rfl (by decide) (by decide) hk1 hFc hP1 hD1
      clear hPc hDc hKc hFc hP1 hD1 hk1 hz1
      generalize H1 = H at hP hS ⊢
      have hP : va_P (dC, dI) vwCl [(o, Sum.inr (3, [Value.int v_signs, Value.int v_works, Value.int v_whole, Value.int v_otherwise, Value.int v_least, Value.int v_rates, Value.ref a_brings, Value.ref a_costs, Value.ref a_chances, Value.ref a_rate, Value.ref a_mark])), (a_rate, Sum.inl (k_a_rate, 3, Sum.inl f_a_rate)), (a_mark, Sum.inl (k_a_mark, 2, Sum.inl f_a_mark)), (p2, Sum.inr (2, [Value.long y32, Value.long y33]))] H := hP
      have hD : va_D A [(o, Sum.inr (3, [Value.int v_signs, Value.int v_works, Value.int v_whole, Value.int v_otherwise, Value.int v_least, Value.int v_rates, Value.ref a_brings, Value.ref a_costs, Value.ref a_chances, Value.ref a_rate, Value.ref a_mark])), (a_rate, Sum.inl (k_a_rate, 3, Sum.inl f_a_rate)), (a_mark, Sum.inl (k_a_mark, 2, Sum.inl f_a_mark)), (p2, Sum.inr (2, [Value.long y32, Value.long y33]))] := hD
      refine W.widen (k := 0) (n := 0) (by decide) (by decide) ?_
      have hP9 := hP.sub (ws' := [(o, Sum.inr (3, [Value.int v_signs, Value.int v_works, Value.int v_whole, Value.int v_otherwise, Value.int v_least, Value.int v_rates, Value.ref a_brings, Value.ref a_costs, Value.ref a_chances, Value.ref a_rate, Value.ref a_mark])), (a_rate, Sum.inl (k_a_rate, 3, Sum.inl f_a_rate)), (a_mark, Sum.inl (k_a_mark, 2, Sum.inl f_a_mark)), (p2, Sum.inr (2, [Value.long y32, Value.long y33]))]) [0, 1, 2, 3] rfl
      have hD9 := hD.sub (ws' := [(o, Sum.inr (3, [Value.int v_signs, Value.int v_works, Value.int v_whole, Value.int v_otherwise, Value.int v_least, Value.int v_rates, Value.ref a_brings, Value.ref a_costs, Value.ref a_chances, Value.ref a_rate, Value.ref a_mark])), (a_rate, Sum.inl (k_a_rate, 3, Sum.inl f_a_rate)), (a_mark, Sum.inl (k_a_mark, 2, Sum.inl f_a_mark)), (p2, Sum.inr (2, [Value.long y32, Value.long y33]))]) [0, 1, 2, 3] (by decide) rfl
      exact W.vret hx hb hr (fun t ht hW => ⟨⟨(), rfl, trivial, y32, y33, (by exact wo_end hp1.1 hp1.2 hp0.1 hp0.2 hmr hf_a_rate hf_a_mark hrp (by omega) (by omega) hi9_0.1 hi9_0.2 hi9_1 (by first | exact Or.inr (wo_hi qy21 ny22 (by assumption)) | exact Or.inl (by omega)) ex17 (by simp only [ny25, ny26, ny27, ny28, ny29, ny30, l_i]) (by simp only [ny25, ny26, ny27, ny28, ny29, ny30, l_i]) w34), by rw [ht]; exact hP9, hD9⟩, hS.F ht⟩) hS.2.2 dX3_wageOf_112

set_option maxHeartbeats 4000000 in
set_option maxRecDepth 100000 in
theorem ct_X3_broughtBy (l : Launch) (dC : Nat → ClassId) (dI : Nat → Nat → Nat) (o : Nat) (p0 : Int32) (v_signs : Int32) (v_works : Int32) (v_whole : Int32) (v_otherwise : Int32) (v_least : Int32) (v_rates : Int32) (a_brings : Nat) (a_costs : Nat) (a_chances : Nat) (a_rate : Nat) (a_mark : Nat) (k_a_brings : ClassId) (f_a_brings : Nat → Int32) (k_a_chances : ClassId) (R_a_chances : Nat → Nat) (LP : List Nat) (sh : Nat → Nat) (fp : Nat → va_E) (cI : ClassId) (cJ : ClassId) (CT : Nat → Nat → Int32) (hp0 : iv p0 0 4) (hv_signs : iv v_signs 0 4) (hf_a_brings : ivf f_a_brings 0 999) (hfp : pok cI cJ LP sh CT fp) (hRR_a_chances : ∀ i : Nat, i < 5 → R_a_chances i ∈ LP ∧ sh (R_a_chances i) = 104) (sz : Nat) : Met l yX3_broughtBy wsX3_broughtBy ({ frames := 0, cells := 0, slots := 0, locals := 0 }) (va_Pc [Value.ref o, Value.int p0] (fun U => U.heap.size = sz ∧ va_P (dC, dI) vwCl ([(o, Sum.inr (3, [Value.int v_signs, Value.int v_works, Value.int v_whole, Value.int v_otherwise, Value.int v_least, Value.int v_rates, Value.ref a_brings, Value.ref a_costs, Value.ref a_chances, Value.ref a_rate, Value.ref a_mark])), (a_brings, Sum.inl (k_a_brings, 4, Sum.inl f_a_brings)), (a_chances, Sum.inl (k_a_chances, 5, Sum.inr (Sum.inr (Sum.inr (Sum.inr (rows_of 5 R_a_chances))))))] ++ va_pl LP fp) U.heap ∧ va_K (dC, dI) vwCl [(k_a_brings, FieldType.int), (k_a_chances, (FieldType.array FieldType.int)), (cI, FieldType.int), (cJ, FieldType.long)] U ∧ va_D (fun _ => True) ([(o, Sum.inr (3, [Value.int v_signs, Value.int v_works, Value.int v_whole, Value.int v_otherwise, Value.int v_least, Value.int v_rates, Value.ref a_brings, Value.ref a_costs, Value.ref a_chances, Value.ref a_rate, Value.ref a_mark])), (a_brings, Sum.inl (k_a_brings, 4, Sum.inl f_a_brings)), (a_chances, Sum.inl (k_a_chances, 5, Sum.inr (Sum.inr (Sum.inr (Sum.inr (rows_of 5 R_a_chances))))))] ++ va_pl LP fp))) (va_Qi (fun (r u : Int32) => u = r) (fun (r : Int32) t => va_P (dC, dI) vwCl ([(o, Sum.inr (3, [Value.int v_signs, Value.int v_works, Value.int v_whole, Value.int v_otherwise, Value.int v_least, Value.int v_rates, Value.ref a_brings, Value.ref a_costs, Value.ref a_chances, Value.ref a_rate, Value.ref a_mark])), (a_brings, Sum.inl (k_a_brings, 4, Sum.inl f_a_brings)), (a_chances, Sum.inl (k_a_chances, 5, Sum.inr (Sum.inr (Sum.inr (Sum.inr (rows_of 5 R_a_chances))))))] ++ va_pl LP fp) t.heap ∧ va_D (va_A ([(o, Sum.inr (3, [Value.int v_signs, Value.int v_works, Value.int v_whole, Value.int v_otherwise, Value.int v_least, Value.int v_rates, Value.ref a_brings, Value.ref a_costs, Value.ref a_chances, Value.ref a_rate, Value.ref a_mark])), (a_brings, Sum.inl (k_a_brings, 4, Sum.inl f_a_brings)), (a_chances, Sum.inl (k_a_chances, 5, Sum.inr (Sum.inr (Sum.inr (Sum.inr (rows_of 5 R_a_chances))))))] ++ va_pl LP fp) sz) ([(o, Sum.inr (3, [Value.int v_signs, Value.int v_works, Value.int v_whole, Value.int v_otherwise, Value.int v_least, Value.int v_rates, Value.ref a_brings, Value.ref a_costs, Value.ref a_chances, Value.ref a_rate, Value.ref a_mark])), (a_brings, Sum.inl (k_a_brings, 4, Sum.inl f_a_brings)), (a_chances, Sum.inl (k_a_chances, 5, Sum.inr (Sum.inr (Sum.inr (Sum.inr (rows_of 5 R_a_chances))))))] ++ va_pl LP fp)) (va_A ([(o, Sum.inr (3, [Value.int v_signs, Value.int v_works, Value.int v_whole, Value.int v_otherwise, Value.int v_least, Value.int v_rates, Value.ref a_brings, Value.ref a_costs, Value.ref a_chances, Value.ref a_rate, Value.ref a_mark])), (a_brings, Sum.inl (k_a_brings, 4, Sum.inl f_a_brings)), (a_chances, Sum.inl (k_a_chances, 5, Sum.inr (Sum.inr (Sum.inr (Sum.inr (rows_of 5 R_a_chances))))))] ++ va_pl LP fp) sz)) 0 0 (va_A ([(o, Sum.inr (3, [Value.int v_signs, Value.int v_works, Value.int v_whole, Value.int v_otherwise, Value.int v_least, Value.int v_rates, Value.ref a_brings, Value.ref a_costs, Value.ref a_chances, Value.ref a_rate, Value.ref a_mark])), (a_brings, Sum.inl (k_a_brings, 4, Sum.inl f_a_brings)), (a_chances, Sum.inl (k_a_chances, 5, Sum.inr (Sum.inr (Sum.inr (Sum.inr (rows_of 5 R_a_chances))))))] ++ va_pl LP fp) sz) := by
  refine Met.ofW (cc := cX3_broughtBy) (maxL := 4) (ret := (some .int)) pn_X3 rfl ?_
  intro p e s m args below meth c s₁ B hml hv
  obtain ⟨rfl, hsz, hP, hK, hD0⟩ := hv
  have hx := B.exec
  have hb := B.bytes
  have hr := B.returns
  have hts := atoms_spec (ws := wsX3_broughtBy) B.pre
  have hown : s.vm.findClass RX3 = some m.cls := findClass_of_methodNamed B.named
  have hlocks := B.notSynchronized
  subst hsz
  have hD := hD0.self (sz := s.heap.size)
  generalize hAe : va_A ([(o, Sum.inr (3, [Value.int v_signs, Value.int v_works, Value.int v_whole, Value.int v_otherwise, Value.int v_least, Value.int v_rates, Value.ref a_brings, Value.ref a_costs, Value.ref a_chances, Value.ref a_rate, Value.ref a_mark])), (a_brings, Sum.inl (k_a_brings, 4, Sum.inl f_a_brings)), (a_chances, Sum.inl (k_a_chances, 5, Sum.inr (Sum.inr (Sum.inr (Sum.inr (rows_of 5 R_a_chances))))))] ++ va_pl LP fp) s.heap.size = A at hD ⊢
  have hA : ∀ q : Nat, s.heap.size ≤ q → A q := fun q h => by rw [← hAe]; exact Or.inr h
  have hS : va_S A s.heap s.heap [] := va_S.rf
  have hP : va_P (dC, dI) vwCl ([(o, Sum.inr (3, [Value.int v_signs, Value.int v_works, Value.int v_whole, Value.int v_otherwise, Value.int v_least, Value.int v_rates, Value.ref a_brings, Value.ref a_costs, Value.ref a_chances, Value.ref a_rate, Value.ref a_mark])), (a_brings, Sum.inl (k_a_brings, 4, Sum.inl f_a_brings)), (a_chances, Sum.inl (k_a_chances, 5, Sum.inr (Sum.inr (Sum.inr (Sum.inr (rows_of 5 R_a_chances))))))] ++ va_pl LP fp) s.heap := hP
  have hl := lv_entry ([Value.ref o, Value.int p0]) (n := 4) (Nat.le_of_ble_eq_true rfl)
  rw [lg_entry_eq]
  generalize (lg_sl ([Value.ref o, Value.int p0]) ++ List.replicate (4 - (lg_sl ([Value.ref o, Value.int p0])).length) Slot.unset).toArray = ls at hl ⊢
  have hl : lv_has ls 4 [(0, Value.ref o), (1, Value.int p0)] := hl
  refine lv_iconst (v := 0) hx hb dX3_broughtBy_0 (by decide) ?_
  refine lv_istore_n (lv' := [(2, Value.int 0), (0, Value.ref o), (1, Value.int p0)]) hx hb dX3_broughtBy_1 rfl hl (by decide) rfl (fun ls hl => ?_)
  refine lv_iconst (v := 0) hx hb dX3_broughtBy_2 (by decide) ?_
  refine lv_istore_n (lv' := [(3, Value.int 0), (2, Value.int 0), (0, Value.ref o), (1, Value.int p0)]) hx hb dX3_broughtBy_3 rfl hl (by decide) rfl (fun ls hl => ?_)
  refine tl_loop (I := fun nn H locs ls => ∃ (v1 : Int32) (v2 : Int32), nn = (4 - v1.toInt).toNat ∧ iv v1 0 4 ∧  va_P (dC, dI) vwCl ([(o, Sum.inr (3, [Value.int v_signs, Value.int v_works, Value.int v_whole, Value.int v_otherwise, Value.int v_least, Value.int v_rates, Value.ref a_brings, Value.ref a_costs, Value.ref a_chances, Value.ref a_rate, Value.ref a_mark])), (a_brings, Sum.inl (k_a_brings, 4, Sum.inl f_a_brings)), (a_chances, Sum.inl (k_a_chances, 5, Sum.inr (Sum.inr (Sum.inr (Sum.inr (rows_of 5 R_a_chances))))))] ++ va_pl LP fp) H ∧ va_D A ([(o, Sum.inr (3, [Value.int v_signs, Value.int v_works, Value.int v_whole, Value.int v_otherwise, Value.int v_least, Value.int v_rates, Value.ref a_brings, Value.ref a_costs, Value.ref a_chances, Value.ref a_rate, Value.ref a_mark])), (a_brings, Sum.inl (k_a_brings, 4, Sum.inl f_a_brings)), (a_chances, Sum.inl (k_a_chances, 5, Sum.inr (Sum.inr (Sum.inr (Sum.inr (rows_of 5 R_a_chances))))))] ++ va_pl LP fp) ∧ va_S A s.heap H locs ∧ lv_has ls 4 [(3, Value.int v1), (2, Value.int v2), (0, Value.ref o), (1, Value.int p0)]) ?_ ⟨0, 0, rfl, (iv.m (by decide)), hP, hD, hS, lv_sub hl [0, 1, 2, 3] rfl⟩
  clear hP hD hS hl
  intro nn4 H locs ls hI ih4
  obtain ⟨v1, v2, hn4, hv1, hP, hD, hS, hl⟩ := hI
  have bv1 := hv1.u
  have bv2 := i32_rng v2
  refine lv_iload_n hx hb dX3_broughtBy_4 rfl (lv_at hl 0 rfl) ?_
  refine lv_aload_n hx hb dX3_broughtBy_5 rfl (lv_at hl 2 rfl) ?_
  refine va_get (D := (dC, dI)) (ci := 3) (v := Value.int v_signs) (C := RX3) (T := TX3) (N := 11) hx hb hts iw_X3_broughtBy_X3 hown hK hP 0 rfl rfl 0 (by decide) (hts _ kk_X3_broughtBy_0) (fun _ h9 => h9) rfl dX3_broughtBy_6 ?_
  have bv_signs := hv_signs.u
  refine lv_icmp_ge (tgt := 36) hx hb dX3_broughtBy_9 (by decide) (fun c3 => ?_) (fun c3 => ?_)
  · have c39 := i32_le c3 rfl rfl
    refine lv_iload_n hx hb dX3_broughtBy_36 rfl (lv_at hl 1 rfl) ?_
    have hP9 := hP.part (cx := [(o, Sum.inr (3, [Value.int v_signs, Value.int v_works, Value.int v_whole, Value.int v_otherwise, Value.int v_least, Value.int v_rates, Value.ref a_brings, Value.ref a_costs, Value.ref a_chances, Value.ref a_rate, Value.ref a_mark])), (a_brings, Sum.inl (k_a_brings, 4, Sum.inl f_a_brings)), (a_chances, Sum.inl (k_a_chances, 5, Sum.inr (Sum.inr (Sum.inr (Sum.inr (rows_of 5 R_a_chances))))))]) [0, 1, 2] rfl
    have hD9 := hD.part (cx := [(o, Sum.inr (3, [Value.int v_signs, Value.int v_works, Value.int v_whole, Value.int v_otherwise, Value.int v_least, Value.int v_rates, Value.ref a_brings, Value.ref a_costs, Value.ref a_chances, Value.ref a_rate, Value.ref a_mark])), (a_brings, Sum.inl (k_a_brings, 4, Sum.inl f_a_brings)), (a_chances, Sum.inl (k_a_chances, 5, Sum.inr (Sum.inr (Sum.inr (Sum.inr (rows_of 5 R_a_chances))))))]) [0, 1, 2] (by decide) rfl
    exact W.iret (v := v2) hx hb hr (fun t ht hW => ⟨⟨v2, v2, rfl, rfl, by rw [ht]; exact hP9, hD9⟩, hS.F ht⟩) hS.2.2 dX3_broughtBy_37
  · have c39 := i32_nle c3 rfl rfl
    refine lv_iload_n hx hb dX3_broughtBy_12 rfl (lv_at hl 1 rfl) ?_
    refine lv_aload_n hx hb dX3_broughtBy_13 rfl (lv_at hl 2 rfl) ?_
    refine va_get (D := (dC, dI)) (ci := 3) (v := Value.ref a_chances) (C := RX3) (T := TX3) (N := 11) hx hb hts iw_X3_broughtBy_X3 hown hK hP 0 rfl rfl 8 (by decide) (hts _ kk_X3_broughtBy_1) (fun _ h9 => h9) rfl dX3_broughtBy_14 ?_
    refine lv_iload_n hx hb dX3_broughtBy_17 rfl (lv_at hl 3 rfl) ?_
    have bp0 := hp0.u
    have hinrw4 : vp_in p0 5 := (vq_in p0 5 (by omega))
    refine va_aldA hx hb hK hP 2 1 rfl rfl hinrw4 dX3_broughtBy_18 ?_
    obtain ⟨rw4, erw4⟩ : ∃ z : Nat, z = R_a_chances (Int32.toNatClampNeg p0) := ⟨_, rfl⟩
    refine px_v ((row_sel hinrw4).trans (congrArg Value.ref erw4.symm)) ?_
    have mrw4 : rw4 ∈ LP ∧ sh rw4 = 104 := by rw [erw4]; exact hRR_a_chances _ (vin_lt hinrw4)
    refine lv_iload_n hx hb dX3_broughtBy_19 rfl (lv_at hl 0 rfl) ?_
    obtain ⟨hgk5, bgk5⟩ := pok_104 (hfp) mrw4
    obtain ⟨kk6, hkk6⟩ := va_pl_get (X := [(o, Sum.inr (3, [Value.int v_signs, Value.int v_works, Value.int v_whole, Value.int v_otherwise, Value.int v_least, Value.int v_rates, Value.ref a_brings, Value.ref a_costs, Value.ref a_chances, Value.ref a_rate, Value.ref a_mark])), (a_brings, Sum.inl (k_a_brings, 4, Sum.inl f_a_brings)), (a_chances, Sum.inl (k_a_chances, 5, Sum.inr (Sum.inr (Sum.inr (Sum.inr (rows_of 5 R_a_chances))))))]) (f := fp) mrw4.1
    have qkk6 := hkk6
    rw [hgk5] at qkk6
    refine va_iald hx hb hK hP kk6 2 qkk6 rfl (vq_in v1 4 (by omega)) dX3_broughtBy_20 ?_
    refine lv_topi (fun x7 ex7 => ?_)
    have hx7 : iv x7 0 10 := iv.of (bgk5 _) ex7
    refine lv_aload_n hx hb dX3_broughtBy_21 rfl (lv_at hl 2 rfl) ?_
    refine va_get (D := (dC, dI)) (ci := 3) (v := Value.ref a_brings) (C := RX3) (T := TX3) (N := 11) hx hb hts iw_X3_broughtBy_X3 hown hK hP 0 rfl rfl 6 (by decide) (hts _ kk_X3_broughtBy_2) (fun _ h9 => h9) rfl dX3_broughtBy_22 ?_
    refine lv_iload_n hx hb dX3_broughtBy_25 rfl (lv_at hl 0 rfl) ?_
    refine va_iald hx hb hK hP 1 0 rfl rfl (vq_in v1 4 (by omega)) dX3_broughtBy_26 ?_
    refine lv_topi (fun x8 ex8 => ?_)
    have hx8 : iv x8 0 999 := iv.of (hf_a_brings _) ex8
    refine lv_imul hx hb dX3_broughtBy_27 ?_
    refine lv_topi (fun x9 ex9 => ?_)
    refine lv_iadd hx hb dX3_broughtBy_28 ?_
    refine lv_topi (fun x10 ex10 => ?_)
    refine lv_istore_n (lv' := [(2, Value.int x10), (3, Value.int v1), (0, Value.ref o), (1, Value.int p0)]) hx hb dX3_broughtBy_29 rfl hl (by decide) rfl (fun ls hl => ?_)
    obtain ⟨x11, ex11⟩ : ∃ z : Int32, v1 + Int32.ofInt 1 = z := ⟨_, rfl⟩
    have tx11 := i32_inc ex11 rfl (by decide) (by omega) (by omega)
    refine lv_iinc (v := x11) (lv' := [(3, Value.int x11), (2, Value.int x10), (0, Value.ref o), (1, Value.int p0)]) hx hb dX3_broughtBy_30 hl (k := 1) rfl ex11 (by decide) rfl (fun ls hl => ?_)
    refine lv_goto (tgt := 4) hx hb dX3_broughtBy_33 (by decide) ?_
    have bx10 := i32_rng x10
    exact ih4 _ _ _ _ (ms_up hn4 tx11 (by decide) (by omega)) ⟨x11, x10, rfl, (iv.m (by omega)), hP, hD, hS, lv_sub hl [0, 1, 2, 3] rfl⟩

set_option maxHeartbeats 4000000 in
set_option maxRecDepth 100000 in
theorem ct_X3_chanceFrom (l : Launch) (dC : Nat → ClassId) (dI : Nat → Nat → Nat) (o : Nat) (p0 : Int32) (p1 : Int32) (v_signs : Int32) (v_works : Int32) (v_whole : Int32) (v_otherwise : Int32) (v_least : Int32) (v_rates : Int32) (a_brings : Nat) (a_costs : Nat) (a_chances : Nat) (a_rate : Nat) (a_mark : Nat) (k_a_brings : ClassId) (f_a_brings : Nat → Int32) (k_a_chances : ClassId) (R_a_chances : Nat → Nat) (LP : List Nat) (sh : Nat → Nat) (fp : Nat → va_E) (cI : ClassId) (cJ : ClassId) (CT : Nat → Nat → Int32) (hp0 : iv p0 0 4) (hp1 : iv p1 0 3) (hv_signs : iv v_signs 0 4) (hf_a_brings : ivf f_a_brings 0 999) (hfp : pok cI cJ LP sh CT fp) (hRR_a_chances : ∀ i : Nat, i < 5 → R_a_chances i ∈ LP ∧ sh (R_a_chances i) = 104) (sz : Nat) : Met l yX3_chanceFrom wsX3_chanceFrom ({ frames := 0, cells := 0, slots := 0, locals := 0 }) (va_Pc [Value.ref o, Value.int p0, Value.int p1] (fun U => U.heap.size = sz ∧ va_P (dC, dI) vwCl ([(o, Sum.inr (3, [Value.int v_signs, Value.int v_works, Value.int v_whole, Value.int v_otherwise, Value.int v_least, Value.int v_rates, Value.ref a_brings, Value.ref a_costs, Value.ref a_chances, Value.ref a_rate, Value.ref a_mark])), (a_brings, Sum.inl (k_a_brings, 4, Sum.inl f_a_brings)), (a_chances, Sum.inl (k_a_chances, 5, Sum.inr (Sum.inr (Sum.inr (Sum.inr (rows_of 5 R_a_chances))))))] ++ va_pl LP fp) U.heap ∧ va_K (dC, dI) vwCl [(k_a_brings, FieldType.int), (k_a_chances, (FieldType.array FieldType.int)), (cI, FieldType.int), (cJ, FieldType.long)] U ∧ va_D (fun _ => True) ([(o, Sum.inr (3, [Value.int v_signs, Value.int v_works, Value.int v_whole, Value.int v_otherwise, Value.int v_least, Value.int v_rates, Value.ref a_brings, Value.ref a_costs, Value.ref a_chances, Value.ref a_rate, Value.ref a_mark])), (a_brings, Sum.inl (k_a_brings, 4, Sum.inl f_a_brings)), (a_chances, Sum.inl (k_a_chances, 5, Sum.inr (Sum.inr (Sum.inr (Sum.inr (rows_of 5 R_a_chances))))))] ++ va_pl LP fp))) (va_Qi (fun (r u : Int32) => u = r) (fun (r : Int32) t => iv r 0 40 ∧ (r.toInt = cfr f_a_brings (CT (R_a_chances p0.toNatClampNeg)) p1.toNatClampNeg v_signs.toNatClampNeg) ∧ va_P (dC, dI) vwCl ([(o, Sum.inr (3, [Value.int v_signs, Value.int v_works, Value.int v_whole, Value.int v_otherwise, Value.int v_least, Value.int v_rates, Value.ref a_brings, Value.ref a_costs, Value.ref a_chances, Value.ref a_rate, Value.ref a_mark])), (a_brings, Sum.inl (k_a_brings, 4, Sum.inl f_a_brings)), (a_chances, Sum.inl (k_a_chances, 5, Sum.inr (Sum.inr (Sum.inr (Sum.inr (rows_of 5 R_a_chances))))))] ++ va_pl LP fp) t.heap ∧ va_D (va_A ([(o, Sum.inr (3, [Value.int v_signs, Value.int v_works, Value.int v_whole, Value.int v_otherwise, Value.int v_least, Value.int v_rates, Value.ref a_brings, Value.ref a_costs, Value.ref a_chances, Value.ref a_rate, Value.ref a_mark])), (a_brings, Sum.inl (k_a_brings, 4, Sum.inl f_a_brings)), (a_chances, Sum.inl (k_a_chances, 5, Sum.inr (Sum.inr (Sum.inr (Sum.inr (rows_of 5 R_a_chances))))))] ++ va_pl LP fp) sz) ([(o, Sum.inr (3, [Value.int v_signs, Value.int v_works, Value.int v_whole, Value.int v_otherwise, Value.int v_least, Value.int v_rates, Value.ref a_brings, Value.ref a_costs, Value.ref a_chances, Value.ref a_rate, Value.ref a_mark])), (a_brings, Sum.inl (k_a_brings, 4, Sum.inl f_a_brings)), (a_chances, Sum.inl (k_a_chances, 5, Sum.inr (Sum.inr (Sum.inr (Sum.inr (rows_of 5 R_a_chances))))))] ++ va_pl LP fp)) (va_A ([(o, Sum.inr (3, [Value.int v_signs, Value.int v_works, Value.int v_whole, Value.int v_otherwise, Value.int v_least, Value.int v_rates, Value.ref a_brings, Value.ref a_costs, Value.ref a_chances, Value.ref a_rate, Value.ref a_mark])), (a_brings, Sum.inl (k_a_brings, 4, Sum.inl f_a_brings)), (a_chances, Sum.inl (k_a_chances, 5, Sum.inr (Sum.inr (Sum.inr (Sum.inr (rows_of 5 R_a_chances))))))] ++ va_pl LP fp) sz)) 0 0 (va_A ([(o, Sum.inr (3, [Value.int v_signs, Value.int v_works, Value.int v_whole, Value.int v_otherwise, Value.int v_least, Value.int v_rates, Value.ref a_brings, Value.ref a_costs, Value.ref a_chances, Value.ref a_rate, Value.ref a_mark])), (a_brings, Sum.inl (k_a_brings, 4, Sum.inl f_a_brings)), (a_chances, Sum.inl (k_a_chances, 5, Sum.inr (Sum.inr (Sum.inr (Sum.inr (rows_of 5 R_a_chances))))))] ++ va_pl LP fp) sz) := by
  refine Met.ofW (cc := cX3_chanceFrom) (maxL := 5) (ret := (some .int)) pn_X3 rfl ?_
  intro p e s m args below meth c s₁ B hml hv
  obtain ⟨rfl, hsz, hP, hK, hD0⟩ := hv
  have hx := B.exec
  have hb := B.bytes
  have hr := B.returns
  have hts := atoms_spec (ws := wsX3_chanceFrom) B.pre
  have hown : s.vm.findClass RX3 = some m.cls := findClass_of_methodNamed B.named
  have hlocks := B.notSynchronized
  subst hsz
  have hD := hD0.self (sz := s.heap.size)
  generalize hAe : va_A ([(o, Sum.inr (3, [Value.int v_signs, Value.int v_works, Value.int v_whole, Value.int v_otherwise, Value.int v_least, Value.int v_rates, Value.ref a_brings, Value.ref a_costs, Value.ref a_chances, Value.ref a_rate, Value.ref a_mark])), (a_brings, Sum.inl (k_a_brings, 4, Sum.inl f_a_brings)), (a_chances, Sum.inl (k_a_chances, 5, Sum.inr (Sum.inr (Sum.inr (Sum.inr (rows_of 5 R_a_chances))))))] ++ va_pl LP fp) s.heap.size = A at hD ⊢
  have hA : ∀ q : Nat, s.heap.size ≤ q → A q := fun q h => by rw [← hAe]; exact Or.inr h
  have hS : va_S A s.heap s.heap [] := va_S.rf
  have hP : va_P (dC, dI) vwCl ([(o, Sum.inr (3, [Value.int v_signs, Value.int v_works, Value.int v_whole, Value.int v_otherwise, Value.int v_least, Value.int v_rates, Value.ref a_brings, Value.ref a_costs, Value.ref a_chances, Value.ref a_rate, Value.ref a_mark])), (a_brings, Sum.inl (k_a_brings, 4, Sum.inl f_a_brings)), (a_chances, Sum.inl (k_a_chances, 5, Sum.inr (Sum.inr (Sum.inr (Sum.inr (rows_of 5 R_a_chances))))))] ++ va_pl LP fp) s.heap := hP
  have hl := lv_entry ([Value.ref o, Value.int p0, Value.int p1]) (n := 5) (Nat.le_of_ble_eq_true rfl)
  rw [lg_entry_eq]
  generalize (lg_sl ([Value.ref o, Value.int p0, Value.int p1]) ++ List.replicate (5 - (lg_sl ([Value.ref o, Value.int p0, Value.int p1])).length) Slot.unset).toArray = ls at hl ⊢
  have hl : lv_has ls 5 [(0, Value.ref o), (1, Value.int p0), (2, Value.int p1)] := hl
  have bv_signs := hv_signs.u
  have bp0 := hp0.u
  have bp1 := hp1.u
  refine lv_iconst (v := 0) hx hb dX3_chanceFrom_0 (by decide) ?_
  refine lv_istore_n (lv' := [(3, Value.int 0), (0, Value.ref o), (1, Value.int p0), (2, Value.int p1)]) hx hb dX3_chanceFrom_1 rfl hl (by decide) rfl (fun ls hl => ?_)
  refine lv_iconst (v := 0) hx hb dX3_chanceFrom_2 (by decide) ?_
  refine lv_istore (lv' := [(4, Value.int 0), (3, Value.int 0), (0, Value.ref o), (1, Value.int p0), (2, Value.int p1)]) hx hb dX3_chanceFrom_3 hl (by decide) rfl (fun ls hl => ?_)
  refine tl_loop (I := fun nn H locs ls => ∃ (v1 : Int32) (v2 : Int32), nn = (4 - v1.toInt).toNat ∧ iv v1 0 4 ∧ iv v2 0 40 ∧ ((v2).toInt = cfr f_a_brings (CT (R_a_chances p0.toNatClampNeg)) p1.toNatClampNeg (v1).toNatClampNeg) ∧ ((v1).toInt ≤ v_signs.toInt) ∧ ((v2).toInt ≤ 10 * (v1).toInt) ∧  va_P (dC, dI) vwCl ([(o, Sum.inr (3, [Value.int v_signs, Value.int v_works, Value.int v_whole, Value.int v_otherwise, Value.int v_least, Value.int v_rates, Value.ref a_brings, Value.ref a_costs, Value.ref a_chances, Value.ref a_rate, Value.ref a_mark])), (a_brings, Sum.inl (k_a_brings, 4, Sum.inl f_a_brings)), (a_chances, Sum.inl (k_a_chances, 5, Sum.inr (Sum.inr (Sum.inr (Sum.inr (rows_of 5 R_a_chances))))))] ++ va_pl LP fp) H ∧ va_D A ([(o, Sum.inr (3, [Value.int v_signs, Value.int v_works, Value.int v_whole, Value.int v_otherwise, Value.int v_least, Value.int v_rates, Value.ref a_brings, Value.ref a_costs, Value.ref a_chances, Value.ref a_rate, Value.ref a_mark])), (a_brings, Sum.inl (k_a_brings, 4, Sum.inl f_a_brings)), (a_chances, Sum.inl (k_a_chances, 5, Sum.inr (Sum.inr (Sum.inr (Sum.inr (rows_of 5 R_a_chances))))))] ++ va_pl LP fp) ∧ va_S A s.heap H locs ∧ lv_has ls 5 [(4, Value.int v1), (3, Value.int v2), (0, Value.ref o), (1, Value.int p0), (2, Value.int p1)]) ?_ ⟨0, 0, rfl, (iv.m (by decide)), (iv.m (by decide)), cfr_0, (by have hz9 : (0 : Int32).toInt = 0 := (by decide); omega), (by have hz9 : (0 : Int32).toInt = 0 := (by decide); omega), hP, hD, hS, lv_sub hl [0, 1, 2, 3, 4] rfl⟩
  clear hP hD hS hl
  intro nn5 H locs ls hI ih5
  obtain ⟨v1, v2, hn5, hv1, hv2, hi5_0, hi5_1, hi5_2, hP, hD, hS, hl⟩ := hI
  have bv1 := hv1.u
  have bv2 := hv2.u
  refine lv_iload hx hb dX3_chanceFrom_5 (lv_at hl 0 rfl) ?_
  refine lv_aload_n hx hb dX3_chanceFrom_7 rfl (lv_at hl 2 rfl) ?_
  refine va_get (D := (dC, dI)) (ci := 3) (v := Value.int v_signs) (C := RX3) (T := TX3) (N := 11) hx hb hts iw_X3_chanceFrom_X3 hown hK hP 0 rfl rfl 0 (by decide) (hts _ kk_X3_chanceFrom_0) (fun _ h9 => h9) rfl dX3_chanceFrom_8 ?_
  refine lv_icmp_ge (tgt := 48) hx hb dX3_chanceFrom_11 (by decide) (fun c3 => ?_) (fun c3 => ?_)
  · have c39 := i32_le c3 rfl rfl
    refine lv_iload_n hx hb dX3_chanceFrom_48 rfl (lv_at hl 1 rfl) ?_
    have hP9 := hP.part (cx := [(o, Sum.inr (3, [Value.int v_signs, Value.int v_works, Value.int v_whole, Value.int v_otherwise, Value.int v_least, Value.int v_rates, Value.ref a_brings, Value.ref a_costs, Value.ref a_chances, Value.ref a_rate, Value.ref a_mark])), (a_brings, Sum.inl (k_a_brings, 4, Sum.inl f_a_brings)), (a_chances, Sum.inl (k_a_chances, 5, Sum.inr (Sum.inr (Sum.inr (Sum.inr (rows_of 5 R_a_chances))))))]) [0, 1, 2] rfl
    have hD9 := hD.part (cx := [(o, Sum.inr (3, [Value.int v_signs, Value.int v_works, Value.int v_whole, Value.int v_otherwise, Value.int v_least, Value.int v_rates, Value.ref a_brings, Value.ref a_costs, Value.ref a_chances, Value.ref a_rate, Value.ref a_mark])), (a_brings, Sum.inl (k_a_brings, 4, Sum.inl f_a_brings)), (a_chances, Sum.inl (k_a_chances, 5, Sum.inr (Sum.inr (Sum.inr (Sum.inr (rows_of 5 R_a_chances))))))]) [0, 1, 2] (by decide) rfl
    exact W.iret (v := v2) hx hb hr (fun t ht hW => ⟨⟨v2, v2, rfl, rfl, hv2, (by exact cfr_end hi5_0 (by omega) (by omega)), by rw [ht]; exact hP9, hD9⟩, hS.F ht⟩) hS.2.2 dX3_chanceFrom_49
  · have c39 := i32_nle c3 rfl rfl
    refine lv_aload_n hx hb dX3_chanceFrom_14 rfl (lv_at hl 2 rfl) ?_
    refine va_get (D := (dC, dI)) (ci := 3) (v := Value.ref a_brings) (C := RX3) (T := TX3) (N := 11) hx hb hts iw_X3_chanceFrom_X3 hown hK hP 0 rfl rfl 6 (by decide) (hts _ kk_X3_chanceFrom_1) (fun _ h9 => h9) rfl dX3_chanceFrom_15 ?_
    refine lv_iload hx hb dX3_chanceFrom_18 (lv_at hl 0 rfl) ?_
    refine va_iald hx hb hK hP 1 0 rfl rfl (vq_in v1 4 (by omega)) dX3_chanceFrom_20 ?_
    refine lv_topi (fun x4 ex4 => ?_)
    have hx4 : iv x4 0 999 := iv.of (hf_a_brings _) ex4
    refine lv_aload_n hx hb dX3_chanceFrom_21 rfl (lv_at hl 2 rfl) ?_
    refine va_get (D := (dC, dI)) (ci := 3) (v := Value.ref a_brings) (C := RX3) (T := TX3) (N := 11) hx hb hts iw_X3_chanceFrom_X3 hown hK hP 0 rfl rfl 6 (by decide) (hts _ kk_X3_chanceFrom_1) (fun _ h9 => h9) rfl dX3_chanceFrom_22 ?_
    refine lv_iload_n hx hb dX3_chanceFrom_25 rfl (lv_at hl 4 rfl) ?_
    refine va_iald hx hb hK hP 1 0 rfl rfl (vq_in p1 4 (by omega)) dX3_chanceFrom_26 ?_
    refine lv_topi (fun x5 ex5 => ?_)
    have hx5 : iv x5 0 999 := iv.of (hf_a_brings _) ex5
    have bx4 := hx4.u
    have bx5 := hx5.u
    refine lv_icmp_lt (tgt := 42) hx hb dX3_chanceFrom_27 (by decide) (fun c6 => ?_) (fun c6 => ?_)
    · have c69 := i32_lt c6 rfl rfl
      obtain ⟨x7, ex7⟩ : ∃ z : Int32, v1 + Int32.ofInt 1 = z := ⟨_, rfl⟩
      have tx7 := i32_inc ex7 rfl (by decide) (by omega) (by omega)
      refine lv_iinc (v := x7) (lv' := [(4, Value.int x7), (3, Value.int v2), (0, Value.ref o), (1, Value.int p0), (2, Value.int p1)]) hx hb dX3_chanceFrom_42 hl (k := 0) rfl ex7 (by decide) rfl (fun ls hl => ?_)
      refine lv_goto (tgt := 5) hx hb dX3_chanceFrom_45 (by decide) ?_
      exact ih5 _ _ _ _ (ms_up hn5 tx7 (by decide) (by omega)) ⟨x7, v2, rfl, (iv.m (by omega)), hv2, (cfr_st hi5_0 ex4 ex5 (by omega) tx7 (by omega)), (by omega), (by omega), hP, hD, hS, lv_sub hl [0, 1, 2, 3, 4] rfl⟩
    · have c69 := i32_nlt c6 rfl rfl
      refine lv_iload_n hx hb dX3_chanceFrom_30 rfl (lv_at hl 1 rfl) ?_
      refine lv_aload_n hx hb dX3_chanceFrom_31 rfl (lv_at hl 2 rfl) ?_
      refine va_get (D := (dC, dI)) (ci := 3) (v := Value.ref a_chances) (C := RX3) (T := TX3) (N := 11) hx hb hts iw_X3_chanceFrom_X3 hown hK hP 0 rfl rfl 8 (by decide) (hts _ kk_X3_chanceFrom_2) (fun _ h9 => h9) rfl dX3_chanceFrom_32 ?_
      refine lv_iload_n hx hb dX3_chanceFrom_35 rfl (lv_at hl 3 rfl) ?_
      have hinrw8 : vp_in p0 5 := (vq_in p0 5 (by omega))
      refine va_aldA hx hb hK hP 2 1 rfl rfl hinrw8 dX3_chanceFrom_36 ?_
      obtain ⟨rw8, erw8⟩ : ∃ z : Nat, z = R_a_chances (Int32.toNatClampNeg p0) := ⟨_, rfl⟩
      refine px_v ((row_sel hinrw8).trans (congrArg Value.ref erw8.symm)) ?_
      have mrw8 : rw8 ∈ LP ∧ sh rw8 = 104 := by rw [erw8]; exact hRR_a_chances _ (vin_lt hinrw8)
      refine lv_iload hx hb dX3_chanceFrom_37 (lv_at hl 0 rfl) ?_
      obtain ⟨hgk9, bgk9⟩ := pok_104 (hfp) mrw8
      obtain ⟨kk10, hkk10⟩ := va_pl_get (X := [(o, Sum.inr (3, [Value.int v_signs, Value.int v_works, Value.int v_whole, Value.int v_otherwise, Value.int v_least, Value.int v_rates, Value.ref a_brings, Value.ref a_costs, Value.ref a_chances, Value.ref a_rate, Value.ref a_mark])), (a_brings, Sum.inl (k_a_brings, 4, Sum.inl f_a_brings)), (a_chances, Sum.inl (k_a_chances, 5, Sum.inr (Sum.inr (Sum.inr (Sum.inr (rows_of 5 R_a_chances))))))]) (f := fp) mrw8.1
      have qkk10 := hkk10
      rw [hgk9] at qkk10
      refine va_iald hx hb hK hP kk10 2 qkk10 rfl (vq_in v1 4 (by omega)) dX3_chanceFrom_39 ?_
      refine lv_topi (fun x11 ex11 => ?_)
      have hx11 : iv x11 0 10 := iv.of (bgk9 _) ex11
      refine lv_iadd hx hb dX3_chanceFrom_40 ?_
      refine lv_topi (fun x12 ex12 => ?_)
      have bx11 := hx11.u
      have tx12 := i32_add ex12 rfl rfl (by omega) (by omega)
      refine lv_istore_n (lv' := [(3, Value.int x12), (4, Value.int v1), (0, Value.ref o), (1, Value.int p0), (2, Value.int p1)]) hx hb dX3_chanceFrom_41 rfl hl (by decide) rfl (fun ls hl => ?_)
      obtain ⟨x13, ex13⟩ : ∃ z : Int32, v1 + Int32.ofInt 1 = z := ⟨_, rfl⟩
      have tx13 := i32_inc ex13 rfl (by decide) (by omega) (by omega)
      refine lv_iinc (v := x13) (lv' := [(4, Value.int x13), (3, Value.int x12), (0, Value.ref o), (1, Value.int p0), (2, Value.int p1)]) hx hb dX3_chanceFrom_42 hl (k := 1) rfl ex13 (by decide) rfl (fun ls hl => ?_)
      refine lv_goto (tgt := 5) hx hb dX3_chanceFrom_45 (by decide) ?_
      exact ih5 _ _ _ _ (ms_up hn5 tx13 (by decide) (by omega)) ⟨x13, x12, rfl, (iv.m (by omega)), (iv.m (by omega)), (cfr_up hi5_0 ex4 ex5 (by omega) (show x11 = _ from by rw [← erw8]; exact ex11) tx12 tx13 (by omega)), (by omega), (by omega), hP, hD, hS, lv_sub hl [0, 1, 2, 3, 4] rfl⟩

set_option maxHeartbeats 4000000 in
set_option maxRecDepth 100000 in
theorem ct_X4_chanceOf (l : Launch) (dC : Nat → ClassId) (dI : Nat → Nat → Nat) (o : Nat) (p0 : Int32) (p1 : Int32) (a_above : Nat) (v_aboveLower : Int64) (o_table : Nat) (a_columnSign : Nat) (a_columnRate : Nat) (a_columnRoom : Nat) (v_columns : Int32) (v_rooms : Int32) (o_hire : Nat) (v_work : Int32) (v_keptSign : Int32) (v_joinedSign : Int32) (hire_v_signs : Int32) (hire_v_works : Int32) (hire_v_whole : Int32) (hire_v_otherwise : Int32) (hire_v_least : Int32) (hire_v_rates : Int32) (hire_a_brings : Nat) (hire_a_costs : Nat) (hire_a_chances : Nat) (hire_a_rate : Nat) (hire_a_mark : Nat) (k_hire_a_chances : ClassId) (R_hire_a_chances : Nat → Nat) (LP : List Nat) (sh : Nat → Nat) (fp : Nat → va_E) (cI : ClassId) (cJ : ClassId) (CT : Nat → Nat → Int32) (hp0 : iv p0 0 4) (hp1 : iv p1 0 3) (hv_keptSign : iv v_keptSign (-1) 3) (hv_joinedSign : iv v_joinedSign (-1) 3) (hfp : pok cI cJ LP sh CT fp) (hRR_hire_a_chances : ∀ i : Nat, i < 5 → R_hire_a_chances i ∈ LP ∧ sh (R_hire_a_chances i) = 104) (hkj : v_keptSign.toInt = -1 ∨ 0 ≤ v_joinedSign.toInt) (sz : Nat) : Met l yX4_chanceOf wsX4_chanceOf ({ frames := 0, cells := 0, slots := 0, locals := 0 }) (va_Pc [Value.ref o, Value.int p0, Value.int p1] (fun U => U.heap.size = sz ∧ va_P (dC, dI) vwCl ([(o, Sum.inr (4, [Value.ref a_above, Value.long v_aboveLower, Value.ref o_table, Value.ref a_columnSign, Value.ref a_columnRate, Value.ref a_columnRoom, Value.int v_columns, Value.int v_rooms, Value.ref o_hire, Value.int v_work, Value.int v_keptSign, Value.int v_joinedSign])), (o_hire, Sum.inr (3, [Value.int hire_v_signs, Value.int hire_v_works, Value.int hire_v_whole, Value.int hire_v_otherwise, Value.int hire_v_least, Value.int hire_v_rates, Value.ref hire_a_brings, Value.ref hire_a_costs, Value.ref hire_a_chances, Value.ref hire_a_rate, Value.ref hire_a_mark])), (hire_a_chances, Sum.inl (k_hire_a_chances, 5, Sum.inr (Sum.inr (Sum.inr (Sum.inr (rows_of 5 R_hire_a_chances))))))] ++ va_pl LP fp) U.heap ∧ va_K (dC, dI) vwCl [(k_hire_a_chances, (FieldType.array FieldType.int)), (cI, FieldType.int), (cJ, FieldType.long)] U ∧ va_D (fun _ => True) ([(o, Sum.inr (4, [Value.ref a_above, Value.long v_aboveLower, Value.ref o_table, Value.ref a_columnSign, Value.ref a_columnRate, Value.ref a_columnRoom, Value.int v_columns, Value.int v_rooms, Value.ref o_hire, Value.int v_work, Value.int v_keptSign, Value.int v_joinedSign])), (o_hire, Sum.inr (3, [Value.int hire_v_signs, Value.int hire_v_works, Value.int hire_v_whole, Value.int hire_v_otherwise, Value.int hire_v_least, Value.int hire_v_rates, Value.ref hire_a_brings, Value.ref hire_a_costs, Value.ref hire_a_chances, Value.ref hire_a_rate, Value.ref hire_a_mark])), (hire_a_chances, Sum.inl (k_hire_a_chances, 5, Sum.inr (Sum.inr (Sum.inr (Sum.inr (rows_of 5 R_hire_a_chances))))))] ++ va_pl LP fp))) (va_Qi (fun (r u : Int32) => u = r) (fun (r : Int32) t => iv r 0 20 ∧ va_P (dC, dI) vwCl ([(o, Sum.inr (4, [Value.ref a_above, Value.long v_aboveLower, Value.ref o_table, Value.ref a_columnSign, Value.ref a_columnRate, Value.ref a_columnRoom, Value.int v_columns, Value.int v_rooms, Value.ref o_hire, Value.int v_work, Value.int v_keptSign, Value.int v_joinedSign])), (o_hire, Sum.inr (3, [Value.int hire_v_signs, Value.int hire_v_works, Value.int hire_v_whole, Value.int hire_v_otherwise, Value.int hire_v_least, Value.int hire_v_rates, Value.ref hire_a_brings, Value.ref hire_a_costs, Value.ref hire_a_chances, Value.ref hire_a_rate, Value.ref hire_a_mark])), (hire_a_chances, Sum.inl (k_hire_a_chances, 5, Sum.inr (Sum.inr (Sum.inr (Sum.inr (rows_of 5 R_hire_a_chances))))))] ++ va_pl LP fp) t.heap ∧ va_D (va_A ([(o, Sum.inr (4, [Value.ref a_above, Value.long v_aboveLower, Value.ref o_table, Value.ref a_columnSign, Value.ref a_columnRate, Value.ref a_columnRoom, Value.int v_columns, Value.int v_rooms, Value.ref o_hire, Value.int v_work, Value.int v_keptSign, Value.int v_joinedSign])), (o_hire, Sum.inr (3, [Value.int hire_v_signs, Value.int hire_v_works, Value.int hire_v_whole, Value.int hire_v_otherwise, Value.int hire_v_least, Value.int hire_v_rates, Value.ref hire_a_brings, Value.ref hire_a_costs, Value.ref hire_a_chances, Value.ref hire_a_rate, Value.ref hire_a_mark])), (hire_a_chances, Sum.inl (k_hire_a_chances, 5, Sum.inr (Sum.inr (Sum.inr (Sum.inr (rows_of 5 R_hire_a_chances))))))] ++ va_pl LP fp) sz) ([(o, Sum.inr (4, [Value.ref a_above, Value.long v_aboveLower, Value.ref o_table, Value.ref a_columnSign, Value.ref a_columnRate, Value.ref a_columnRoom, Value.int v_columns, Value.int v_rooms, Value.ref o_hire, Value.int v_work, Value.int v_keptSign, Value.int v_joinedSign])), (o_hire, Sum.inr (3, [Value.int hire_v_signs, Value.int hire_v_works, Value.int hire_v_whole, Value.int hire_v_otherwise, Value.int hire_v_least, Value.int hire_v_rates, Value.ref hire_a_brings, Value.ref hire_a_costs, Value.ref hire_a_chances, Value.ref hire_a_rate, Value.ref hire_a_mark])), (hire_a_chances, Sum.inl (k_hire_a_chances, 5, Sum.inr (Sum.inr (Sum.inr (Sum.inr (rows_of 5 R_hire_a_chances))))))] ++ va_pl LP fp)) (va_A ([(o, Sum.inr (4, [Value.ref a_above, Value.long v_aboveLower, Value.ref o_table, Value.ref a_columnSign, Value.ref a_columnRate, Value.ref a_columnRoom, Value.int v_columns, Value.int v_rooms, Value.ref o_hire, Value.int v_work, Value.int v_keptSign, Value.int v_joinedSign])), (o_hire, Sum.inr (3, [Value.int hire_v_signs, Value.int hire_v_works, Value.int hire_v_whole, Value.int hire_v_otherwise, Value.int hire_v_least, Value.int hire_v_rates, Value.ref hire_a_brings, Value.ref hire_a_costs, Value.ref hire_a_chances, Value.ref hire_a_rate, Value.ref hire_a_mark])), (hire_a_chances, Sum.inl (k_hire_a_chances, 5, Sum.inr (Sum.inr (Sum.inr (Sum.inr (rows_of 5 R_hire_a_chances))))))] ++ va_pl LP fp) sz)) 0 0 (va_A ([(o, Sum.inr (4, [Value.ref a_above, Value.long v_aboveLower, Value.ref o_table, Value.ref a_columnSign, Value.ref a_columnRate, Value.ref a_columnRoom, Value.int v_columns, Value.int v_rooms, Value.ref o_hire, Value.int v_work, Value.int v_keptSign, Value.int v_joinedSign])), (o_hire, Sum.inr (3, [Value.int hire_v_signs, Value.int hire_v_works, Value.int hire_v_whole, Value.int hire_v_otherwise, Value.int hire_v_least, Value.int hire_v_rates, Value.ref hire_a_brings, Value.ref hire_a_costs, Value.ref hire_a_chances, Value.ref hire_a_rate, Value.ref hire_a_mark])), (hire_a_chances, Sum.inl (k_hire_a_chances, 5, Sum.inr (Sum.inr (Sum.inr (Sum.inr (rows_of 5 R_hire_a_chances))))))] ++ va_pl LP fp) sz) := by
  refine Met.ofW (cc := cX4_chanceOf) (maxL := 3) (ret := (some .int)) pn_X4 rfl ?_
  intro p e s m args below meth c s₁ B hml hv
  obtain ⟨rfl, hsz, hP, hK, hD0⟩ := hv
  have hx := B.exec
  have hb := B.bytes
  have hr := B.returns
  have hts := atoms_spec (ws := wsX4_chanceOf) B.pre
  have hown : s.vm.findClass RX4 = some m.cls := findClass_of_methodNamed B.named
  have hlocks := B.notSynchronized
  subst hsz
  have hD := hD0.self (sz := s.heap.size)
  generalize hAe : va_A ([(o, Sum.inr (4, [Value.ref a_above, Value.long v_aboveLower, Value.ref o_table, Value.ref a_columnSign, Value.ref a_columnRate, Value.ref a_columnRoom, Value.int v_columns, Value.int v_rooms, Value.ref o_hire, Value.int v_work, Value.int v_keptSign, Value.int v_joinedSign])), (o_hire, Sum.inr (3, [Value.int hire_v_signs, Value.int hire_v_works, Value.int hire_v_whole, Value.int hire_v_otherwise, Value.int hire_v_least, Value.int hire_v_rates, Value.ref hire_a_brings, Value.ref hire_a_costs, Value.ref hire_a_chances, Value.ref hire_a_rate, Value.ref hire_a_mark])), (hire_a_chances, Sum.inl (k_hire_a_chances, 5, Sum.inr (Sum.inr (Sum.inr (Sum.inr (rows_of 5 R_hire_a_chances))))))] ++ va_pl LP fp) s.heap.size = A at hD ⊢
  have hA : ∀ q : Nat, s.heap.size ≤ q → A q := fun q h => by rw [← hAe]; exact Or.inr h
  have hS : va_S A s.heap s.heap [] := va_S.rf
  have hP : va_P (dC, dI) vwCl ([(o, Sum.inr (4, [Value.ref a_above, Value.long v_aboveLower, Value.ref o_table, Value.ref a_columnSign, Value.ref a_columnRate, Value.ref a_columnRoom, Value.int v_columns, Value.int v_rooms, Value.ref o_hire, Value.int v_work, Value.int v_keptSign, Value.int v_joinedSign])), (o_hire, Sum.inr (3, [Value.int hire_v_signs, Value.int hire_v_works, Value.int hire_v_whole, Value.int hire_v_otherwise, Value.int hire_v_least, Value.int hire_v_rates, Value.ref hire_a_brings, Value.ref hire_a_costs, Value.ref hire_a_chances, Value.ref hire_a_rate, Value.ref hire_a_mark])), (hire_a_chances, Sum.inl (k_hire_a_chances, 5, Sum.inr (Sum.inr (Sum.inr (Sum.inr (rows_of 5 R_hire_a_chances))))))] ++ va_pl LP fp) s.heap := hP
  have hl := lv_entry ([Value.ref o, Value.int p0, Value.int p1]) (n := 3) (Nat.le_of_ble_eq_true rfl)
  rw [lg_entry_eq]
  generalize (lg_sl ([Value.ref o, Value.int p0, Value.int p1]) ++ List.replicate (3 - (lg_sl ([Value.ref o, Value.int p0, Value.int p1])).length) Slot.unset).toArray = ls at hl ⊢
  have hl : lv_has ls 3 [(0, Value.ref o), (1, Value.int p0), (2, Value.int p1)] := hl
  refine lv_iload_n hx hb dX4_chanceOf_0 rfl (lv_at hl 2 rfl) ?_
  refine lv_aload_n hx hb dX4_chanceOf_1 rfl (lv_at hl 0 rfl) ?_
  refine va_get (D := (dC, dI)) (ci := 4) (v := Value.int v_joinedSign) (C := RX4) (T := TX4) (N := 12) hx hb hts iw_X4_chanceOf_X4 hown hK hP 0 rfl rfl 11 (by decide) (hts _ kk_X4_chanceOf_0) (fun _ h9 => h9) rfl dX4_chanceOf_2 ?_
  have bp1 := hp1.u
  have bv_joinedSign := hv_joinedSign.u
  refine lv_icmp_ne (tgt := 10) hx hb dX4_chanceOf_5 (by decide) (fun c1 => ?_) (fun c1 => ?_)
  · have c19 := i32_ne c1 rfl rfl
    refine lv_iload_n hx hb dX4_chanceOf_10 rfl (lv_at hl 2 rfl) ?_
    refine lv_aload_n hx hb dX4_chanceOf_11 rfl (lv_at hl 0 rfl) ?_
    refine va_get (D := (dC, dI)) (ci := 4) (v := Value.int v_keptSign) (C := RX4) (T := TX4) (N := 12) hx hb hts iw_X4_chanceOf_X4 hown hK hP 0 rfl rfl 10 (by decide) (hts _ kk_X4_chanceOf_1) (fun _ h9 => h9) rfl dX4_chanceOf_12 ?_
    have bv_keptSign := hv_keptSign.u
    refine lv_icmp_ne (tgt := 47) hx hb dX4_chanceOf_15 (by decide) (fun c2 => ?_) (fun c2 => ?_)
    · have c29 := i32_ne c2 rfl rfl
      refine lv_aload_n hx hb dX4_chanceOf_47 rfl (lv_at hl 0 rfl) ?_
      refine va_get (D := (dC, dI)) (ci := 4) (v := Value.ref o_hire) (C := RX4) (T := TX4) (N := 12) hx hb hts iw_X4_chanceOf_X4 hown hK hP 0 rfl rfl 8 (by decide) (hts _ kk_X4_chanceOf_2) (fun _ h9 => h9) rfl dX4_chanceOf_48 ?_
      refine va_get (D := (dC, dI)) (ci := 3) (v := Value.ref hire_a_chances) (C := RX3) (T := TX3) (N := 11) hx hb hts iw_X4_chanceOf_X3 hown hK hP 1 rfl rfl 8 (by decide) (hts _ kk_X4_chanceOf_3) (fun _ h9 => h9) rfl dX4_chanceOf_51 ?_
      refine lv_iload_n hx hb dX4_chanceOf_54 rfl (lv_at hl 1 rfl) ?_
      have bp0 := hp0.u
      have hinrw3 : vp_in p0 5 := (vq_in p0 5 (by omega))
      refine va_aldA hx hb hK hP 2 0 rfl rfl hinrw3 dX4_chanceOf_55 ?_
      obtain ⟨rw3, erw3⟩ : ∃ z : Nat, z = R_hire_a_chances (Int32.toNatClampNeg p0) := ⟨_, rfl⟩
      refine px_v ((row_sel hinrw3).trans (congrArg Value.ref erw3.symm)) ?_
      have mrw3 : rw3 ∈ LP ∧ sh rw3 = 104 := by rw [erw3]; exact hRR_hire_a_chances _ (vin_lt hinrw3)
      refine lv_iload_n hx hb dX4_chanceOf_56 rfl (lv_at hl 2 rfl) ?_
      obtain ⟨hgk4, bgk4⟩ := pok_104 (hfp) mrw3
      obtain ⟨kk5, hkk5⟩ := va_pl_get (X := [(o, Sum.inr (4, [Value.ref a_above, Value.long v_aboveLower, Value.ref o_table, Value.ref a_columnSign, Value.ref a_columnRate, Value.ref a_columnRoom, Value.int v_columns, Value.int v_rooms, Value.ref o_hire, Value.int v_work, Value.int v_keptSign, Value.int v_joinedSign])), (o_hire, Sum.inr (3, [Value.int hire_v_signs, Value.int hire_v_works, Value.int hire_v_whole, Value.int hire_v_otherwise, Value.int hire_v_least, Value.int hire_v_rates, Value.ref hire_a_brings, Value.ref hire_a_costs, Value.ref hire_a_chances, Value.ref hire_a_rate, Value.ref hire_a_mark])), (hire_a_chances, Sum.inl (k_hire_a_chances, 5, Sum.inr (Sum.inr (Sum.inr (Sum.inr (rows_of 5 R_hire_a_chances))))))]) (f := fp) mrw3.1
      have qkk5 := hkk5
      rw [hgk4] at qkk5
      refine va_iald hx hb hK hP kk5 1 qkk5 rfl (vq_in p1 4 (by omega)) dX4_chanceOf_57 ?_
      refine lv_topi (fun x6 ex6 => ?_)
      have hx6 : iv x6 0 10 := iv.of (bgk4 _) ex6
      have hP9 := hP.part (cx := [(o, Sum.inr (4, [Value.ref a_above, Value.long v_aboveLower, Value.ref o_table, Value.ref a_columnSign, Value.ref a_columnRate, Value.ref a_columnRoom, Value.int v_columns, Value.int v_rooms, Value.ref o_hire, Value.int v_work, Value.int v_keptSign, Value.int v_joinedSign])), (o_hire, Sum.inr (3, [Value.int hire_v_signs, Value.int hire_v_works, Value.int hire_v_whole, Value.int hire_v_otherwise, Value.int hire_v_least, Value.int hire_v_rates, Value.ref hire_a_brings, Value.ref hire_a_costs, Value.ref hire_a_chances, Value.ref hire_a_rate, Value.ref hire_a_mark])), (hire_a_chances, Sum.inl (k_hire_a_chances, 5, Sum.inr (Sum.inr (Sum.inr (Sum.inr (rows_of 5 R_hire_a_chances))))))]) [0, 1, 2] rfl
      have hD9 := hD.part (cx := [(o, Sum.inr (4, [Value.ref a_above, Value.long v_aboveLower, Value.ref o_table, Value.ref a_columnSign, Value.ref a_columnRate, Value.ref a_columnRoom, Value.int v_columns, Value.int v_rooms, Value.ref o_hire, Value.int v_work, Value.int v_keptSign, Value.int v_joinedSign])), (o_hire, Sum.inr (3, [Value.int hire_v_signs, Value.int hire_v_works, Value.int hire_v_whole, Value.int hire_v_otherwise, Value.int hire_v_least, Value.int hire_v_rates, Value.ref hire_a_brings, Value.ref hire_a_costs, Value.ref hire_a_chances, Value.ref hire_a_rate, Value.ref hire_a_mark])), (hire_a_chances, Sum.inl (k_hire_a_chances, 5, Sum.inr (Sum.inr (Sum.inr (Sum.inr (rows_of 5 R_hire_a_chances))))))]) [0, 1, 2] (by decide) rfl
      exact W.iret (v := x6) hx hb hr (fun t ht hW => ⟨⟨x6, x6, rfl, rfl, (hx6.w (by decide) (by decide)), by rw [ht]; exact hP9, hD9⟩, hS.F ht⟩) hS.2.2 dX4_chanceOf_58
    · have c29 := i32_eq c2 rfl rfl
      refine lv_aload_n hx hb dX4_chanceOf_18 rfl (lv_at hl 0 rfl) ?_
      refine va_get (D := (dC, dI)) (ci := 4) (v := Value.ref o_hire) (C := RX4) (T := TX4) (N := 12) hx hb hts iw_X4_chanceOf_X4 hown hK hP 0 rfl rfl 8 (by decide) (hts _ kk_X4_chanceOf_2) (fun _ h9 => h9) rfl dX4_chanceOf_19 ?_
      refine va_get (D := (dC, dI)) (ci := 3) (v := Value.ref hire_a_chances) (C := RX3) (T := TX3) (N := 11) hx hb hts iw_X4_chanceOf_X3 hown hK hP 1 rfl rfl 8 (by decide) (hts _ kk_X4_chanceOf_3) (fun _ h9 => h9) rfl dX4_chanceOf_22 ?_
      refine lv_iload_n hx hb dX4_chanceOf_25 rfl (lv_at hl 1 rfl) ?_
      have bp0 := hp0.u
      have hinrw7 : vp_in p0 5 := (vq_in p0 5 (by omega))
      refine va_aldA hx hb hK hP 2 0 rfl rfl hinrw7 dX4_chanceOf_26 ?_
      obtain ⟨rw7, erw7⟩ : ∃ z : Nat, z = R_hire_a_chances (Int32.toNatClampNeg p0) := ⟨_, rfl⟩
      refine px_v ((row_sel hinrw7).trans (congrArg Value.ref erw7.symm)) ?_
      have mrw7 : rw7 ∈ LP ∧ sh rw7 = 104 := by rw [erw7]; exact hRR_hire_a_chances _ (vin_lt hinrw7)
      refine lv_iload_n hx hb dX4_chanceOf_27 rfl (lv_at hl 2 rfl) ?_
      obtain ⟨hgk8, bgk8⟩ := pok_104 (hfp) mrw7
      obtain ⟨kk9, hkk9⟩ := va_pl_get (X := [(o, Sum.inr (4, [Value.ref a_above, Value.long v_aboveLower, Value.ref o_table, Value.ref a_columnSign, Value.ref a_columnRate, Value.ref a_columnRoom, Value.int v_columns, Value.int v_rooms, Value.ref o_hire, Value.int v_work, Value.int v_keptSign, Value.int v_joinedSign])), (o_hire, Sum.inr (3, [Value.int hire_v_signs, Value.int hire_v_works, Value.int hire_v_whole, Value.int hire_v_otherwise, Value.int hire_v_least, Value.int hire_v_rates, Value.ref hire_a_brings, Value.ref hire_a_costs, Value.ref hire_a_chances, Value.ref hire_a_rate, Value.ref hire_a_mark])), (hire_a_chances, Sum.inl (k_hire_a_chances, 5, Sum.inr (Sum.inr (Sum.inr (Sum.inr (rows_of 5 R_hire_a_chances))))))]) (f := fp) mrw7.1
      have qkk9 := hkk9
      rw [hgk8] at qkk9
      refine va_iald hx hb hK hP kk9 1 qkk9 rfl (vq_in p1 4 (by omega)) dX4_chanceOf_28 ?_
      refine lv_topi (fun x10 ex10 => ?_)
      have hx10 : iv x10 0 10 := iv.of (bgk8 _) ex10
      refine lv_aload_n hx hb dX4_chanceOf_29 rfl (lv_at hl 0 rfl) ?_
      refine va_get (D := (dC, dI)) (ci := 4) (v := Value.ref o_hire) (C := RX4) (T := TX4) (N := 12) hx hb hts iw_X4_chanceOf_X4 hown hK hP 0 rfl rfl 8 (by decide) (hts _ kk_X4_chanceOf_2) (fun _ h9 => h9) rfl dX4_chanceOf_30 ?_
      refine va_get (D := (dC, dI)) (ci := 3) (v := Value.ref hire_a_chances) (C := RX3) (T := TX3) (N := 11) hx hb hts iw_X4_chanceOf_X3 hown hK hP 1 rfl rfl 8 (by decide) (hts _ kk_X4_chanceOf_3) (fun _ h9 => h9) rfl dX4_chanceOf_33 ?_
      refine lv_iload_n hx hb dX4_chanceOf_36 rfl (lv_at hl 1 rfl) ?_
      have hinrw11 : vp_in p0 5 := (vq_in p0 5 (by omega))
      refine va_aldA hx hb hK hP 2 0 rfl rfl hinrw11 dX4_chanceOf_37 ?_
      obtain ⟨rw11, erw11⟩ : ∃ z : Nat, z = R_hire_a_chances (Int32.toNatClampNeg p0) := ⟨_, rfl⟩
      refine px_v ((row_sel hinrw11).trans (congrArg Value.ref erw11.symm)) ?_
      have mrw11 : rw11 ∈ LP ∧ sh rw11 = 104 := by rw [erw11]; exact hRR_hire_a_chances _ (vin_lt hinrw11)
      refine lv_aload_n hx hb dX4_chanceOf_38 rfl (lv_at hl 0 rfl) ?_
      refine va_get (D := (dC, dI)) (ci := 4) (v := Value.int v_joinedSign) (C := RX4) (T := TX4) (N := 12) hx hb hts iw_X4_chanceOf_X4 hown hK hP 0 rfl rfl 11 (by decide) (hts _ kk_X4_chanceOf_0) (fun _ h9 => h9) rfl dX4_chanceOf_39 ?_
      obtain ⟨hgk12, bgk12⟩ := pok_104 (hfp) mrw11
      obtain ⟨kk13, hkk13⟩ := va_pl_get (X := [(o, Sum.inr (4, [Value.ref a_above, Value.long v_aboveLower, Value.ref o_table, Value.ref a_columnSign, Value.ref a_columnRate, Value.ref a_columnRoom, Value.int v_columns, Value.int v_rooms, Value.ref o_hire, Value.int v_work, Value.int v_keptSign, Value.int v_joinedSign])), (o_hire, Sum.inr (3, [Value.int hire_v_signs, Value.int hire_v_works, Value.int hire_v_whole, Value.int hire_v_otherwise, Value.int hire_v_least, Value.int hire_v_rates, Value.ref hire_a_brings, Value.ref hire_a_costs, Value.ref hire_a_chances, Value.ref hire_a_rate, Value.ref hire_a_mark])), (hire_a_chances, Sum.inl (k_hire_a_chances, 5, Sum.inr (Sum.inr (Sum.inr (Sum.inr (rows_of 5 R_hire_a_chances))))))]) (f := fp) mrw11.1
      have qkk13 := hkk13
      rw [hgk12] at qkk13
      refine va_iald hx hb hK hP kk13 1 qkk13 rfl (vq_in v_joinedSign 4 (by omega)) dX4_chanceOf_42 ?_
      refine lv_topi (fun x14 ex14 => ?_)
      have hx14 : iv x14 0 10 := iv.of (bgk12 _) ex14
      refine lv_iadd hx hb dX4_chanceOf_43 ?_
      refine lv_topi (fun x15 ex15 => ?_)
      have bx10 := hx10.u
      have bx14 := hx14.u
      have tx15 := i32_add ex15 rfl rfl (by omega) (by omega)
      refine lv_goto (tgt := 58) hx hb dX4_chanceOf_44 (by decide) ?_
      have hP9 := hP.part (cx := [(o, Sum.inr (4, [Value.ref a_above, Value.long v_aboveLower, Value.ref o_table, Value.ref a_columnSign, Value.ref a_columnRate, Value.ref a_columnRoom, Value.int v_columns, Value.int v_rooms, Value.ref o_hire, Value.int v_work, Value.int v_keptSign, Value.int v_joinedSign])), (o_hire, Sum.inr (3, [Value.int hire_v_signs, Value.int hire_v_works, Value.int hire_v_whole, Value.int hire_v_otherwise, Value.int hire_v_least, Value.int hire_v_rates, Value.ref hire_a_brings, Value.ref hire_a_costs, Value.ref hire_a_chances, Value.ref hire_a_rate, Value.ref hire_a_mark])), (hire_a_chances, Sum.inl (k_hire_a_chances, 5, Sum.inr (Sum.inr (Sum.inr (Sum.inr (rows_of 5 R_hire_a_chances))))))]) [0, 1, 2] rfl
      have hD9 := hD.part (cx := [(o, Sum.inr (4, [Value.ref a_above, Value.long v_aboveLower, Value.ref o_table, Value.ref a_columnSign, Value.ref a_columnRate, Value.ref a_columnRoom, Value.int v_columns, Value.int v_rooms, Value.ref o_hire, Value.int v_work, Value.int v_keptSign, Value.int v_joinedSign])), (o_hire, Sum.inr (3, [Value.int hire_v_signs, Value.int hire_v_works, Value.int hire_v_whole, Value.int hire_v_otherwise, Value.int hire_v_least, Value.int hire_v_rates, Value.ref hire_a_brings, Value.ref hire_a_costs, Value.ref hire_a_chances, Value.ref hire_a_rate, Value.ref hire_a_mark])), (hire_a_chances, Sum.inl (k_hire_a_chances, 5, Sum.inr (Sum.inr (Sum.inr (Sum.inr (rows_of 5 R_hire_a_chances))))))]) [0, 1, 2] (by decide) rfl
      exact W.iret (v := x15) hx hb hr (fun t ht hW => ⟨⟨x15, x15, rfl, rfl, (iv.m (by omega)), by rw [ht]; exact hP9, hD9⟩, hS.F ht⟩) hS.2.2 dX4_chanceOf_58
  · have c19 := i32_eq c1 rfl rfl
    refine lv_iconst (v := 0) hx hb dX4_chanceOf_8 (by decide) ?_
    have hP9 := hP.part (cx := [(o, Sum.inr (4, [Value.ref a_above, Value.long v_aboveLower, Value.ref o_table, Value.ref a_columnSign, Value.ref a_columnRate, Value.ref a_columnRoom, Value.int v_columns, Value.int v_rooms, Value.ref o_hire, Value.int v_work, Value.int v_keptSign, Value.int v_joinedSign])), (o_hire, Sum.inr (3, [Value.int hire_v_signs, Value.int hire_v_works, Value.int hire_v_whole, Value.int hire_v_otherwise, Value.int hire_v_least, Value.int hire_v_rates, Value.ref hire_a_brings, Value.ref hire_a_costs, Value.ref hire_a_chances, Value.ref hire_a_rate, Value.ref hire_a_mark])), (hire_a_chances, Sum.inl (k_hire_a_chances, 5, Sum.inr (Sum.inr (Sum.inr (Sum.inr (rows_of 5 R_hire_a_chances))))))]) [0, 1, 2] rfl
    have hD9 := hD.part (cx := [(o, Sum.inr (4, [Value.ref a_above, Value.long v_aboveLower, Value.ref o_table, Value.ref a_columnSign, Value.ref a_columnRate, Value.ref a_columnRoom, Value.int v_columns, Value.int v_rooms, Value.ref o_hire, Value.int v_work, Value.int v_keptSign, Value.int v_joinedSign])), (o_hire, Sum.inr (3, [Value.int hire_v_signs, Value.int hire_v_works, Value.int hire_v_whole, Value.int hire_v_otherwise, Value.int hire_v_least, Value.int hire_v_rates, Value.ref hire_a_brings, Value.ref hire_a_costs, Value.ref hire_a_chances, Value.ref hire_a_rate, Value.ref hire_a_mark])), (hire_a_chances, Sum.inl (k_hire_a_chances, 5, Sum.inr (Sum.inr (Sum.inr (Sum.inr (rows_of 5 R_hire_a_chances))))))]) [0, 1, 2] (by decide) rfl
    exact W.iret (v := 0) hx hb hr (fun t ht hW => ⟨⟨0, 0, rfl, rfl, (iv.m (by decide)), by rw [ht]; exact hP9, hD9⟩, hS.F ht⟩) hS.2.2 dX4_chanceOf_9

set_option maxHeartbeats 4000000 in
set_option maxRecDepth 100000 in
theorem ct_X4_listSteps (l : Launch) (dC : Nat → ClassId) (dI : Nat → Nat → Nat) (o : Nat) (p0 : Int32) (a_above : Nat) (v_aboveLower : Int64) (o_table : Nat) (a_columnSign : Nat) (a_columnRate : Nat) (a_columnRoom : Nat) (v_columns : Int32) (v_rooms : Int32) (o_hire : Nat) (v_work : Int32) (v_keptSign : Int32) (v_joinedSign : Int32) (k_a_columnSign : ClassId) (f_a_columnSign : Nat → Int32) (k_a_columnRate : ClassId) (f_a_columnRate : Nat → Int32) (k_a_columnRoom : ClassId) (f_a_columnRoom : Nat → Int32) (hire_v_signs : Int32) (hire_v_works : Int32) (hire_v_whole : Int32) (hire_v_otherwise : Int32) (hire_v_least : Int32) (hire_v_rates : Int32) (hire_a_brings : Nat) (hire_a_costs : Nat) (hire_a_chances : Nat) (hire_a_rate : Nat) (hire_a_mark : Nat) (k_hire_a_rate : ClassId) (f_hire_a_rate : Nat → Int32) (k_hire_a_mark : ClassId) (f_hire_a_mark : Nat → Int32) (hp0 : iv p0 0 3) (hv_columns : iv v_columns 0 12) (hv_rooms : iv v_rooms 0 12) (hf_a_columnSign : ivf f_a_columnSign 0 3) (hhire_v_rates : iv hire_v_rates 1 3) (hf_hire_a_rate : ivf f_hire_a_rate 0 5) (hf_hire_a_mark : ivf f_hire_a_mark 0 99) (hrc : v_rooms.toInt ≤ v_columns.toInt) (sz : Nat) : Met l yX4_listSteps wsX4_listSteps ({ frames := 0, cells := 0, slots := 0, locals := 0 }) (va_Pc [Value.ref o, Value.int p0] (fun U => U.heap.size = sz ∧ va_P (dC, dI) vwCl [(o, Sum.inr (4, [Value.ref a_above, Value.long v_aboveLower, Value.ref o_table, Value.ref a_columnSign, Value.ref a_columnRate, Value.ref a_columnRoom, Value.int v_columns, Value.int v_rooms, Value.ref o_hire, Value.int v_work, Value.int v_keptSign, Value.int v_joinedSign])), (a_columnSign, Sum.inl (k_a_columnSign, 12, Sum.inl f_a_columnSign)), (a_columnRate, Sum.inl (k_a_columnRate, 12, Sum.inl f_a_columnRate)), (a_columnRoom, Sum.inl (k_a_columnRoom, 12, Sum.inl f_a_columnRoom)), (o_hire, Sum.inr (3, [Value.int hire_v_signs, Value.int hire_v_works, Value.int hire_v_whole, Value.int hire_v_otherwise, Value.int hire_v_least, Value.int hire_v_rates, Value.ref hire_a_brings, Value.ref hire_a_costs, Value.ref hire_a_chances, Value.ref hire_a_rate, Value.ref hire_a_mark])), (hire_a_rate, Sum.inl (k_hire_a_rate, 3, Sum.inl f_hire_a_rate)), (hire_a_mark, Sum.inl (k_hire_a_mark, 2, Sum.inl f_hire_a_mark))] U.heap ∧ va_K (dC, dI) vwCl [(k_a_columnSign, FieldType.int), (k_a_columnRate, FieldType.int), (k_a_columnRoom, FieldType.int), (k_hire_a_rate, FieldType.int), (k_hire_a_mark, FieldType.int)] U ∧ va_D (fun _ => True) [(o, Sum.inr (4, [Value.ref a_above, Value.long v_aboveLower, Value.ref o_table, Value.ref a_columnSign, Value.ref a_columnRate, Value.ref a_columnRoom, Value.int v_columns, Value.int v_rooms, Value.ref o_hire, Value.int v_work, Value.int v_keptSign, Value.int v_joinedSign])), (a_columnSign, Sum.inl (k_a_columnSign, 12, Sum.inl f_a_columnSign)), (a_columnRate, Sum.inl (k_a_columnRate, 12, Sum.inl f_a_columnRate)), (a_columnRoom, Sum.inl (k_a_columnRoom, 12, Sum.inl f_a_columnRoom)), (o_hire, Sum.inr (3, [Value.int hire_v_signs, Value.int hire_v_works, Value.int hire_v_whole, Value.int hire_v_otherwise, Value.int hire_v_least, Value.int hire_v_rates, Value.ref hire_a_brings, Value.ref hire_a_costs, Value.ref hire_a_chances, Value.ref hire_a_rate, Value.ref hire_a_mark])), (hire_a_rate, Sum.inl (k_hire_a_rate, 3, Sum.inl f_hire_a_rate)), (hire_a_mark, Sum.inl (k_hire_a_mark, 2, Sum.inl f_hire_a_mark))])) (va_Qv (fun _ : Unit => True) (fun _ t => ∃ (e_v_columns : Int32) (e_v_rooms : Int32) (e_f_a_columnSign : Nat → Int32) (e_f_a_columnRate : Nat → Int32) (e_f_a_columnRoom : Nat → Int32), iv e_v_columns 0 12 ∧ iv e_v_rooms 0 12 ∧ ivf e_f_a_columnSign 0 3 ∧ (e_v_rooms.toInt ≤ e_v_columns.toInt) ∧ va_P (dC, dI) vwCl [(o, Sum.inr (4, [Value.ref a_above, Value.long v_aboveLower, Value.ref o_table, Value.ref a_columnSign, Value.ref a_columnRate, Value.ref a_columnRoom, Value.int e_v_columns, Value.int e_v_rooms, Value.ref o_hire, Value.int v_work, Value.int v_keptSign, Value.int v_joinedSign])), (a_columnSign, Sum.inl (k_a_columnSign, 12, Sum.inl e_f_a_columnSign)), (a_columnRate, Sum.inl (k_a_columnRate, 12, Sum.inl e_f_a_columnRate)), (a_columnRoom, Sum.inl (k_a_columnRoom, 12, Sum.inl e_f_a_columnRoom)), (o_hire, Sum.inr (3, [Value.int hire_v_signs, Value.int hire_v_works, Value.int hire_v_whole, Value.int hire_v_otherwise, Value.int hire_v_least, Value.int hire_v_rates, Value.ref hire_a_brings, Value.ref hire_a_costs, Value.ref hire_a_chances, Value.ref hire_a_rate, Value.ref hire_a_mark])), (hire_a_rate, Sum.inl (k_hire_a_rate, 3, Sum.inl f_hire_a_rate)), (hire_a_mark, Sum.inl (k_hire_a_mark, 2, Sum.inl f_hire_a_mark))] t.heap ∧ va_D (va_A [(o, Sum.inr (4, [Value.ref a_above, Value.long v_aboveLower, Value.ref o_table, Value.ref a_columnSign, Value.ref a_columnRate, Value.ref a_columnRoom, Value.int v_columns, Value.int v_rooms, Value.ref o_hire, Value.int v_work, Value.int v_keptSign, Value.int v_joinedSign])), (a_columnSign, Sum.inl (k_a_columnSign, 12, Sum.inl f_a_columnSign)), (a_columnRate, Sum.inl (k_a_columnRate, 12, Sum.inl f_a_columnRate)), (a_columnRoom, Sum.inl (k_a_columnRoom, 12, Sum.inl f_a_columnRoom)), (o_hire, Sum.inr (3, [Value.int hire_v_signs, Value.int hire_v_works, Value.int hire_v_whole, Value.int hire_v_otherwise, Value.int hire_v_least, Value.int hire_v_rates, Value.ref hire_a_brings, Value.ref hire_a_costs, Value.ref hire_a_chances, Value.ref hire_a_rate, Value.ref hire_a_mark])), (hire_a_rate, Sum.inl (k_hire_a_rate, 3, Sum.inl f_hire_a_rate)), (hire_a_mark, Sum.inl (k_hire_a_mark, 2, Sum.inl f_hire_a_mark))] sz) [(o, Sum.inr (4, [Value.ref a_above, Value.long v_aboveLower, Value.ref o_table, Value.ref a_columnSign, Value.ref a_columnRate, Value.ref a_columnRoom, Value.int e_v_columns, Value.int e_v_rooms, Value.ref o_hire, Value.int v_work, Value.int v_keptSign, Value.int v_joinedSign])), (a_columnSign, Sum.inl (k_a_columnSign, 12, Sum.inl e_f_a_columnSign)), (a_columnRate, Sum.inl (k_a_columnRate, 12, Sum.inl e_f_a_columnRate)), (a_columnRoom, Sum.inl (k_a_columnRoom, 12, Sum.inl e_f_a_columnRoom)), (o_hire, Sum.inr (3, [Value.int hire_v_signs, Value.int hire_v_works, Value.int hire_v_whole, Value.int hire_v_otherwise, Value.int hire_v_least, Value.int hire_v_rates, Value.ref hire_a_brings, Value.ref hire_a_costs, Value.ref hire_a_chances, Value.ref hire_a_rate, Value.ref hire_a_mark])), (hire_a_rate, Sum.inl (k_hire_a_rate, 3, Sum.inl f_hire_a_rate)), (hire_a_mark, Sum.inl (k_hire_a_mark, 2, Sum.inl f_hire_a_mark))]) (va_A [(o, Sum.inr (4, [Value.ref a_above, Value.long v_aboveLower, Value.ref o_table, Value.ref a_columnSign, Value.ref a_columnRate, Value.ref a_columnRoom, Value.int v_columns, Value.int v_rooms, Value.ref o_hire, Value.int v_work, Value.int v_keptSign, Value.int v_joinedSign])), (a_columnSign, Sum.inl (k_a_columnSign, 12, Sum.inl f_a_columnSign)), (a_columnRate, Sum.inl (k_a_columnRate, 12, Sum.inl f_a_columnRate)), (a_columnRoom, Sum.inl (k_a_columnRoom, 12, Sum.inl f_a_columnRoom)), (o_hire, Sum.inr (3, [Value.int hire_v_signs, Value.int hire_v_works, Value.int hire_v_whole, Value.int hire_v_otherwise, Value.int hire_v_least, Value.int hire_v_rates, Value.ref hire_a_brings, Value.ref hire_a_costs, Value.ref hire_a_chances, Value.ref hire_a_rate, Value.ref hire_a_mark])), (hire_a_rate, Sum.inl (k_hire_a_rate, 3, Sum.inl f_hire_a_rate)), (hire_a_mark, Sum.inl (k_hire_a_mark, 2, Sum.inl f_hire_a_mark))] sz)) 0 0 (va_A [(o, Sum.inr (4, [Value.ref a_above, Value.long v_aboveLower, Value.ref o_table, Value.ref a_columnSign, Value.ref a_columnRate, Value.ref a_columnRoom, Value.int v_columns, Value.int v_rooms, Value.ref o_hire, Value.int v_work, Value.int v_keptSign, Value.int v_joinedSign])), (a_columnSign, Sum.inl (k_a_columnSign, 12, Sum.inl f_a_columnSign)), (a_columnRate, Sum.inl (k_a_columnRate, 12, Sum.inl f_a_columnRate)), (a_columnRoom, Sum.inl (k_a_columnRoom, 12, Sum.inl f_a_columnRoom)), (o_hire, Sum.inr (3, [Value.int hire_v_signs, Value.int hire_v_works, Value.int hire_v_whole, Value.int hire_v_otherwise, Value.int hire_v_least, Value.int hire_v_rates, Value.ref hire_a_brings, Value.ref hire_a_costs, Value.ref hire_a_chances, Value.ref hire_a_rate, Value.ref hire_a_mark])), (hire_a_rate, Sum.inl (k_hire_a_rate, 3, Sum.inl f_hire_a_rate)), (hire_a_mark, Sum.inl (k_hire_a_mark, 2, Sum.inl f_hire_a_mark))] sz) := by
  refine Met.ofW (cc := cX4_listSteps) (maxL := 5) (ret := none) pn_X4 rfl ?_
  intro p e s m args below meth c s₁ B hml hv
  obtain ⟨rfl, hsz, hP, hK, hD0⟩ := hv
  have hx := B.exec
  have hb := B.bytes
  have hr := B.returns
  have hts := atoms_spec (ws := wsX4_listSteps) B.pre
  have hown : s.vm.findClass RX4 = some m.cls := findClass_of_methodNamed B.named
  have hlocks := B.notSynchronized
  subst hsz
  have hD := hD0.self (sz := s.heap.size)
  generalize hAe : va_A [(o, Sum.inr (4, [Value.ref a_above, Value.long v_aboveLower, Value.ref o_table, Value.ref a_columnSign, Value.ref a_columnRate, Value.ref a_columnRoom, Value.int v_columns, Value.int v_rooms, Value.ref o_hire, Value.int v_work, Value.int v_keptSign, Value.int v_joinedSign])), (a_columnSign, Sum.inl (k_a_columnSign, 12, Sum.inl f_a_columnSign)), (a_columnRate, Sum.inl (k_a_columnRate, 12, Sum.inl f_a_columnRate)), (a_columnRoom, Sum.inl (k_a_columnRoom, 12, Sum.inl f_a_columnRoom)), (o_hire, Sum.inr (3, [Value.int hire_v_signs, Value.int hire_v_works, Value.int hire_v_whole, Value.int hire_v_otherwise, Value.int hire_v_least, Value.int hire_v_rates, Value.ref hire_a_brings, Value.ref hire_a_costs, Value.ref hire_a_chances, Value.ref hire_a_rate, Value.ref hire_a_mark])), (hire_a_rate, Sum.inl (k_hire_a_rate, 3, Sum.inl f_hire_a_rate)), (hire_a_mark, Sum.inl (k_hire_a_mark, 2, Sum.inl f_hire_a_mark))] s.heap.size = A at hD ⊢
  have hA : ∀ q : Nat, s.heap.size ≤ q → A q := fun q h => by rw [← hAe]; exact Or.inr h
  have hS : va_S A s.heap s.heap [] := va_S.rf
  have hP : va_P (dC, dI) vwCl [(o, Sum.inr (4, [Value.ref a_above, Value.long v_aboveLower, Value.ref o_table, Value.ref a_columnSign, Value.ref a_columnRate, Value.ref a_columnRoom, Value.int v_columns, Value.int v_rooms, Value.ref o_hire, Value.int v_work, Value.int v_keptSign, Value.int v_joinedSign])), (a_columnSign, Sum.inl (k_a_columnSign, 12, Sum.inl f_a_columnSign)), (a_columnRate, Sum.inl (k_a_columnRate, 12, Sum.inl f_a_columnRate)), (a_columnRoom, Sum.inl (k_a_columnRoom, 12, Sum.inl f_a_columnRoom)), (o_hire, Sum.inr (3, [Value.int hire_v_signs, Value.int hire_v_works, Value.int hire_v_whole, Value.int hire_v_otherwise, Value.int hire_v_least, Value.int hire_v_rates, Value.ref hire_a_brings, Value.ref hire_a_costs, Value.ref hire_a_chances, Value.ref hire_a_rate, Value.ref hire_a_mark])), (hire_a_rate, Sum.inl (k_hire_a_rate, 3, Sum.inl f_hire_a_rate)), (hire_a_mark, Sum.inl (k_hire_a_mark, 2, Sum.inl f_hire_a_mark))] s.heap := hP
  have hl := lv_entry ([Value.ref o, Value.int p0]) (n := 5) (Nat.le_of_ble_eq_true rfl)
  rw [lg_entry_eq]
  generalize (lg_sl ([Value.ref o, Value.int p0]) ++ List.replicate (5 - (lg_sl ([Value.ref o, Value.int p0])).length) Slot.unset).toArray = ls at hl ⊢
  have hl : lv_has ls 5 [(0, Value.ref o), (1, Value.int p0)] := hl
  refine lv_aload_n hx hb dX4_listSteps_0 rfl (lv_at hl 0 rfl) ?_
  refine va_get (D := (dC, dI)) (ci := 4) (v := Value.ref o_hire) (C := RX4) (T := TX4) (N := 12) hx hb hts iw_X4_listSteps_X4 hown hK hP 0 rfl rfl 8 (by decide) (hts _ kk_X4_listSteps_0) (fun _ h9 => h9) rfl dX4_listSteps_1 ?_
  refine va_get (D := (dC, dI)) (ci := 3) (v := Value.int hire_v_least) (C := RX3) (T := TX3) (N := 11) hx hb hts iw_X4_listSteps_X3 hown hK hP 4 rfl rfl 4 (by decide) (hts _ kk_X4_listSteps_1) (fun _ h9 => h9) rfl dX4_listSteps_4 ?_
  refine lv_istore_n (lv' := [(2, Value.int hire_v_least), (0, Value.ref o), (1, Value.int p0)]) hx hb dX4_listSteps_7 rfl hl (by decide) rfl (fun ls hl => ?_)
  refine lv_iconst (v := 0) hx hb dX4_listSteps_8 (by decide) ?_
  refine lv_istore_n (lv' := [(3, Value.int 0), (2, Value.int hire_v_least), (0, Value.ref o), (1, Value.int p0)]) hx hb dX4_listSteps_9 rfl hl (by decide) rfl (fun ls hl => ?_)
  refine tl_loop (I := fun nn H locs ls => ∃ (v1 : Int32) (v2 : Int32) (v3 : Int32) (v4 : Int32) (f5 : Nat → Int32) (f6 : Nat → Int32) (f7 : Nat → Int32), nn = (3 - v1.toInt).toNat ∧ iv v1 0 3 ∧ iv v3 0 12 ∧ iv v4 0 12 ∧ ivf f5 0 3 ∧ (v4.toInt ≤ v3.toInt) ∧  va_P (dC, dI) vwCl [(o, Sum.inr (4, [Value.ref a_above, Value.long v_aboveLower, Value.ref o_table, Value.ref a_columnSign, Value.ref a_columnRate, Value.ref a_columnRoom, Value.int v3, Value.int v4, Value.ref o_hire, Value.int v_work, Value.int v_keptSign, Value.int v_joinedSign])), (a_columnSign, Sum.inl (k_a_columnSign, 12, Sum.inl f5)), (a_columnRate, Sum.inl (k_a_columnRate, 12, Sum.inl f6)), (a_columnRoom, Sum.inl (k_a_columnRoom, 12, Sum.inl f7)), (o_hire, Sum.inr (3, [Value.int hire_v_signs, Value.int hire_v_works, Value.int hire_v_whole, Value.int hire_v_otherwise, Value.int hire_v_least, Value.int hire_v_rates, Value.ref hire_a_brings, Value.ref hire_a_costs, Value.ref hire_a_chances, Value.ref hire_a_rate, Value.ref hire_a_mark])), (hire_a_rate, Sum.inl (k_hire_a_rate, 3, Sum.inl f_hire_a_rate)), (hire_a_mark, Sum.inl (k_hire_a_mark, 2, Sum.inl f_hire_a_mark))] H ∧ va_D A [(o, Sum.inr (4, [Value.ref a_above, Value.long v_aboveLower, Value.ref o_table, Value.ref a_columnSign, Value.ref a_columnRate, Value.ref a_columnRoom, Value.int v3, Value.int v4, Value.ref o_hire, Value.int v_work, Value.int v_keptSign, Value.int v_joinedSign])), (a_columnSign, Sum.inl (k_a_columnSign, 12, Sum.inl f5)), (a_columnRate, Sum.inl (k_a_columnRate, 12, Sum.inl f6)), (a_columnRoom, Sum.inl (k_a_columnRoom, 12, Sum.inl f7)), (o_hire, Sum.inr (3, [Value.int hire_v_signs, Value.int hire_v_works, Value.int hire_v_whole, Value.int hire_v_otherwise, Value.int hire_v_least, Value.int hire_v_rates, Value.ref hire_a_brings, Value.ref hire_a_costs, Value.ref hire_a_chances, Value.ref hire_a_rate, Value.ref hire_a_mark])), (hire_a_rate, Sum.inl (k_hire_a_rate, 3, Sum.inl f_hire_a_rate)), (hire_a_mark, Sum.inl (k_hire_a_mark, 2, Sum.inl f_hire_a_mark))] ∧ va_S A s.heap H locs ∧ lv_has ls 5 [(3, Value.int v1), (2, Value.int v2), (0, Value.ref o), (1, Value.int p0)]) ?_ ⟨0, hire_v_least, v_columns, v_rooms, f_a_columnSign, f_a_columnRate, f_a_columnRoom, rfl, (iv.m (by decide)), hv_columns, hv_rooms, hf_a_columnSign, (by first | omega | (simp; done) | grind), hP, hD, hS, lv_sub hl [0, 1, 2, 3] rfl⟩
  clear hP hD hS hl
  intro nn10 H locs ls hI ih10
  obtain ⟨v1, v2, v3, v4, f5, f6, f7, hn10, hv1, hv3, hv4, hf5, hi10_0, hP, hD, hS, hl⟩ := hI
  have bv1 := hv1.u
  have bv2 := i32_rng v2
  refine lv_iload_n hx hb dX4_listSteps_10 rfl (lv_at hl 0 rfl) ?_
  refine lv_aload_n hx hb dX4_listSteps_11 rfl (lv_at hl 2 rfl) ?_
  refine va_get (D := (dC, dI)) (ci := 4) (v := Value.ref o_hire) (C := RX4) (T := TX4) (N := 12) hx hb hts iw_X4_listSteps_X4 hown hK hP 0 rfl rfl 8 (by decide) (hts _ kk_X4_listSteps_0) (fun _ h9 => h9) rfl dX4_listSteps_12 ?_
  refine va_get (D := (dC, dI)) (ci := 3) (v := Value.int hire_v_rates) (C := RX3) (T := TX3) (N := 11) hx hb hts iw_X4_listSteps_X3 hown hK hP 4 rfl rfl 5 (by decide) (hts _ kk_X4_listSteps_2) (fun _ h9 => h9) rfl dX4_listSteps_15 ?_
  have bhire_v_rates := hhire_v_rates.u
  refine lv_icmp_ge (tgt := 179) hx hb dX4_listSteps_18 (by decide) (fun c8 => ?_) (fun c8 => ?_)
  · have c89 := i32_le c8 rfl rfl
    have hP9 := hP.sub (ws' := [(o, Sum.inr (4, [Value.ref a_above, Value.long v_aboveLower, Value.ref o_table, Value.ref a_columnSign, Value.ref a_columnRate, Value.ref a_columnRoom, Value.int v3, Value.int v4, Value.ref o_hire, Value.int v_work, Value.int v_keptSign, Value.int v_joinedSign])), (a_columnSign, Sum.inl (k_a_columnSign, 12, Sum.inl f5)), (a_columnRate, Sum.inl (k_a_columnRate, 12, Sum.inl f6)), (a_columnRoom, Sum.inl (k_a_columnRoom, 12, Sum.inl f7)), (o_hire, Sum.inr (3, [Value.int hire_v_signs, Value.int hire_v_works, Value.int hire_v_whole, Value.int hire_v_otherwise, Value.int hire_v_least, Value.int hire_v_rates, Value.ref hire_a_brings, Value.ref hire_a_costs, Value.ref hire_a_chances, Value.ref hire_a_rate, Value.ref hire_a_mark])), (hire_a_rate, Sum.inl (k_hire_a_rate, 3, Sum.inl f_hire_a_rate)), (hire_a_mark, Sum.inl (k_hire_a_mark, 2, Sum.inl f_hire_a_mark))]) [0, 1, 2, 3, 4, 5, 6] rfl
    have hD9 := hD.sub (ws' := [(o, Sum.inr (4, [Value.ref a_above, Value.long v_aboveLower, Value.ref o_table, Value.ref a_columnSign, Value.ref a_columnRate, Value.ref a_columnRoom, Value.int v3, Value.int v4, Value.ref o_hire, Value.int v_work, Value.int v_keptSign, Value.int v_joinedSign])), (a_columnSign, Sum.inl (k_a_columnSign, 12, Sum.inl f5)), (a_columnRate, Sum.inl (k_a_columnRate, 12, Sum.inl f6)), (a_columnRoom, Sum.inl (k_a_columnRoom, 12, Sum.inl f7)), (o_hire, Sum.inr (3, [Value.int hire_v_signs, Value.int hire_v_works, Value.int hire_v_whole, Value.int hire_v_otherwise, Value.int hire_v_least, Value.int hire_v_rates, Value.ref hire_a_brings, Value.ref hire_a_costs, Value.ref hire_a_chances, Value.ref hire_a_rate, Value.ref hire_a_mark])), (hire_a_rate, Sum.inl (k_hire_a_rate, 3, Sum.inl f_hire_a_rate)), (hire_a_mark, Sum.inl (k_hire_a_mark, 2, Sum.inl f_hire_a_mark))]) [0, 1, 2, 3, 4, 5, 6] (by decide) rfl
    have bv_rooms := hv_rooms.u
    have bv_columns := hv_columns.u
    exact W.vret hx hb hr (fun t ht hW => ⟨⟨(), rfl, trivial, v3, v4, f5, f6, f7, hv3, hv4, hf5, (by omega), by rw [ht]; exact hP9, hD9⟩, hS.F ht⟩) hS.2.2 dX4_listSteps_179
  · have c89 := i32_nle c8 rfl rfl
    refine lv_aload_n hx hb dX4_listSteps_21 rfl (lv_at hl 2 rfl) ?_
    refine va_get (D := (dC, dI)) (ci := 4) (v := Value.int v3) (C := RX4) (T := TX4) (N := 12) hx hb hts iw_X4_listSteps_X4 hown hK hP 0 rfl rfl 6 (by decide) (hts _ kk_X4_listSteps_3) (fun _ h9 => h9) rfl dX4_listSteps_22 ?_
    refine lv_bipush (v := 12) hx hb dX4_listSteps_25 (by decide) ?_
    have bv3 := hv3.u
    refine lv_icmp_ge (tgt := 179) hx hb dX4_listSteps_27 (by decide) (fun c9 => ?_) (fun c9 => ?_)
    · have c99 := i32_le c9 (show (12 : Int32).toInt = 12 by decide) rfl
      have hP9 := hP.sub (ws' := [(o, Sum.inr (4, [Value.ref a_above, Value.long v_aboveLower, Value.ref o_table, Value.ref a_columnSign, Value.ref a_columnRate, Value.ref a_columnRoom, Value.int v3, Value.int v4, Value.ref o_hire, Value.int v_work, Value.int v_keptSign, Value.int v_joinedSign])), (a_columnSign, Sum.inl (k_a_columnSign, 12, Sum.inl f5)), (a_columnRate, Sum.inl (k_a_columnRate, 12, Sum.inl f6)), (a_columnRoom, Sum.inl (k_a_columnRoom, 12, Sum.inl f7)), (o_hire, Sum.inr (3, [Value.int hire_v_signs, Value.int hire_v_works, Value.int hire_v_whole, Value.int hire_v_otherwise, Value.int hire_v_least, Value.int hire_v_rates, Value.ref hire_a_brings, Value.ref hire_a_costs, Value.ref hire_a_chances, Value.ref hire_a_rate, Value.ref hire_a_mark])), (hire_a_rate, Sum.inl (k_hire_a_rate, 3, Sum.inl f_hire_a_rate)), (hire_a_mark, Sum.inl (k_hire_a_mark, 2, Sum.inl f_hire_a_mark))]) [0, 1, 2, 3, 4, 5, 6] rfl
      have hD9 := hD.sub (ws' := [(o, Sum.inr (4, [Value.ref a_above, Value.long v_aboveLower, Value.ref o_table, Value.ref a_columnSign, Value.ref a_columnRate, Value.ref a_columnRoom, Value.int v3, Value.int v4, Value.ref o_hire, Value.int v_work, Value.int v_keptSign, Value.int v_joinedSign])), (a_columnSign, Sum.inl (k_a_columnSign, 12, Sum.inl f5)), (a_columnRate, Sum.inl (k_a_columnRate, 12, Sum.inl f6)), (a_columnRoom, Sum.inl (k_a_columnRoom, 12, Sum.inl f7)), (o_hire, Sum.inr (3, [Value.int hire_v_signs, Value.int hire_v_works, Value.int hire_v_whole, Value.int hire_v_otherwise, Value.int hire_v_least, Value.int hire_v_rates, Value.ref hire_a_brings, Value.ref hire_a_costs, Value.ref hire_a_chances, Value.ref hire_a_rate, Value.ref hire_a_mark])), (hire_a_rate, Sum.inl (k_hire_a_rate, 3, Sum.inl f_hire_a_rate)), (hire_a_mark, Sum.inl (k_hire_a_mark, 2, Sum.inl f_hire_a_mark))]) [0, 1, 2, 3, 4, 5, 6] (by decide) rfl
      have bv_rooms := hv_rooms.u
      have bv_columns := hv_columns.u
      exact W.vret hx hb hr (fun t ht hW => ⟨⟨(), rfl, trivial, v3, v4, f5, f6, f7, (iv.m (by omega)), hv4, hf5, (by omega), by rw [ht]; exact hP9, hD9⟩, hS.F ht⟩) hS.2.2 dX4_listSteps_179
    · have c99 := i32_nle c9 (show (12 : Int32).toInt = 12 by decide) rfl
      refine lv_iload_n hx hb dX4_listSteps_30 rfl (lv_at hl 0 rfl) ?_
      refine lv_aload_n hx hb dX4_listSteps_31 rfl (lv_at hl 2 rfl) ?_
      refine va_get (D := (dC, dI)) (ci := 4) (v := Value.ref o_hire) (C := RX4) (T := TX4) (N := 12) hx hb hts iw_X4_listSteps_X4 hown hK hP 0 rfl rfl 8 (by decide) (hts _ kk_X4_listSteps_0) (fun _ h9 => h9) rfl dX4_listSteps_32 ?_
      refine va_get (D := (dC, dI)) (ci := 3) (v := Value.int hire_v_rates) (C := RX3) (T := TX3) (N := 11) hx hb hts iw_X4_listSteps_X3 hown hK hP 4 rfl rfl 5 (by decide) (hts _ kk_X4_listSteps_2) (fun _ h9 => h9) rfl dX4_listSteps_35 ?_
      refine lv_iconst (v := 1) hx hb dX4_listSteps_38 (by decide) ?_
      refine lv_isub hx hb dX4_listSteps_39 ?_
      refine lv_topi (fun x10 ex10 => ?_)
      have tx10 := i32_sub ex10 rfl (show (1 : Int32).toInt = 1 by decide) (by omega) (by omega)
      refine lv_icmp_ne (tgt := 47) hx hb dX4_listSteps_40 (by decide) (fun c11 => ?_) (fun c11 => ?_)
      · have c119 := i32_ne c11 rfl rfl
        refine lv_iconst (v := 0) hx hb dX4_listSteps_47 (by decide) ?_
        refine lv_istore (lv' := [(4, Value.int 0), (3, Value.int v1), (2, Value.int v2), (0, Value.ref o), (1, Value.int p0)]) hx hb dX4_listSteps_48 hl (by decide) rfl (fun ls hl => ?_)
        refine lv_iload hx hb dX4_listSteps_50 (lv_at hl 0 rfl) ?_
        refine lv_if_ne (tgt := 71) hx hb dX4_listSteps_52 (by decide) (fun cz => absurd cz (by decide)) (fun _ => ?_)
        refine lv_aload_n hx hb dX4_listSteps_55 rfl (lv_at hl 3 rfl) ?_
        refine va_get (D := (dC, dI)) (ci := 4) (v := Value.ref o_hire) (C := RX4) (T := TX4) (N := 12) hx hb hts iw_X4_listSteps_X4 hown hK hP 0 rfl rfl 8 (by decide) (hts _ kk_X4_listSteps_0) (fun _ h9 => h9) rfl dX4_listSteps_56 ?_
        refine va_get (D := (dC, dI)) (ci := 3) (v := Value.ref hire_a_mark) (C := RX3) (T := TX3) (N := 11) hx hb hts iw_X4_listSteps_X3 hown hK hP 4 rfl rfl 10 (by decide) (hts _ kk_X4_listSteps_4) (fun _ h9 => h9) rfl dX4_listSteps_59 ?_
        refine lv_iload_n hx hb dX4_listSteps_62 rfl (lv_at hl 1 rfl) ?_
        refine va_iald hx hb hK hP 6 4 rfl rfl (vq_in v1 2 (by omega)) dX4_listSteps_63 ?_
        refine lv_topi (fun x12 ex12 => ?_)
        have hx12 : iv x12 0 99 := iv.of (hf_hire_a_mark _) ex12
        refine lv_iload_n hx hb dX4_listSteps_64 rfl (lv_at hl 2 rfl) ?_
        have bx12 := hx12.u
        refine lv_icmp_gt (tgt := 71) hx hb dX4_listSteps_65 (by decide) (fun c13 => ?_) (fun c13 => ?_)
        · have c139 := i32_lt c13 rfl rfl
          refine lv_aload_n hx hb dX4_listSteps_71 rfl (lv_at hl 3 rfl) ?_
          refine va_get (D := (dC, dI)) (ci := 4) (v := Value.ref a_columnSign) (C := RX4) (T := TX4) (N := 12) hx hb hts iw_X4_listSteps_X4 hown hK hP 0 rfl rfl 3 (by decide) (hts _ kk_X4_listSteps_5) (fun _ h9 => h9) rfl dX4_listSteps_72 ?_
          refine lv_aload_n hx hb dX4_listSteps_75 rfl (lv_at hl 3 rfl) ?_
          refine va_get (D := (dC, dI)) (ci := 4) (v := Value.int v3) (C := RX4) (T := TX4) (N := 12) hx hb hts iw_X4_listSteps_X4 hown hK hP 0 rfl rfl 6 (by decide) (hts _ kk_X4_listSteps_3) (fun _ h9 => h9) rfl dX4_listSteps_76 ?_
          refine lv_iload_n hx hb dX4_listSteps_79 rfl (lv_at hl 4 rfl) ?_
          refine va_iast hx hb hK hP hD hS 1 0 rfl rfl (vq_in v3 12 (by omega)) dX4_listSteps_80 (fun H locs hP hD hS => ?_)
          have hP : va_P (dC, dI) vwCl [(o, Sum.inr (4, [Value.ref a_above, Value.long v_aboveLower, Value.ref o_table, Value.ref a_columnSign, Value.ref a_columnRate, Value.ref a_columnRoom, Value.int v3, Value.int v4, Value.ref o_hire, Value.int v_work, Value.int v_keptSign, Value.int v_joinedSign])), (a_columnSign, Sum.inl (k_a_columnSign, 12, Sum.inl (upd f5 (Int32.toNatClampNeg v3) p0))), (a_columnRate, Sum.inl (k_a_columnRate, 12, Sum.inl f6)), (a_columnRoom, Sum.inl (k_a_columnRoom, 12, Sum.inl f7)), (o_hire, Sum.inr (3, [Value.int hire_v_signs, Value.int hire_v_works, Value.int hire_v_whole, Value.int hire_v_otherwise, Value.int hire_v_least, Value.int hire_v_rates, Value.ref hire_a_brings, Value.ref hire_a_costs, Value.ref hire_a_chances, Value.ref hire_a_rate, Value.ref hire_a_mark])), (hire_a_rate, Sum.inl (k_hire_a_rate, 3, Sum.inl f_hire_a_rate)), (hire_a_mark, Sum.inl (k_hire_a_mark, 2, Sum.inl f_hire_a_mark))] H := hP
          have hD : va_D A [(o, Sum.inr (4, [Value.ref a_above, Value.long v_aboveLower, Value.ref o_table, Value.ref a_columnSign, Value.ref a_columnRate, Value.ref a_columnRoom, Value.int v3, Value.int v4, Value.ref o_hire, Value.int v_work, Value.int v_keptSign, Value.int v_joinedSign])), (a_columnSign, Sum.inl (k_a_columnSign, 12, Sum.inl (upd f5 (Int32.toNatClampNeg v3) p0))), (a_columnRate, Sum.inl (k_a_columnRate, 12, Sum.inl f6)), (a_columnRoom, Sum.inl (k_a_columnRoom, 12, Sum.inl f7)), (o_hire, Sum.inr (3, [Value.int hire_v_signs, Value.int hire_v_works, Value.int hire_v_whole, Value.int hire_v_otherwise, Value.int hire_v_least, Value.int hire_v_rates, Value.ref hire_a_brings, Value.ref hire_a_costs, Value.ref hire_a_chances, Value.ref hire_a_rate, Value.ref hire_a_mark])), (hire_a_rate, Sum.inl (k_hire_a_rate, 3, Sum.inl f_hire_a_rate)), (hire_a_mark, Sum.inl (k_hire_a_mark, 2, Sum.inl f_hire_a_mark))] := hD
          have hf14 : ivf (upd f5 (Int32.toNatClampNeg v3) p0) 0 3 := ivf.up hf5 hp0 _
          have wf14 : (upd f5 (Int32.toNatClampNeg v3) p0) (Int32.toNatClampNeg v3) = p0 := pk_us
          generalize upd f5 (Int32.toNatClampNeg v3) p0 = f14 at hP hD hf14 wf14
          have hP : va_P (dC, dI) vwCl [(o, Sum.inr (4, [Value.ref a_above, Value.long v_aboveLower, Value.ref o_table, Value.ref a_columnSign, Value.ref a_columnRate, Value.ref a_columnRoom, Value.int v3, Value.int v4, Value.ref o_hire, Value.int v_work, Value.int v_keptSign, Value.int v_joinedSign])), (a_columnSign, Sum.inl (k_a_columnSign, 12, Sum.inl f14)), (a_columnRate, Sum.inl (k_a_columnRate, 12, Sum.inl f6)), (a_columnRoom, Sum.inl (k_a_columnRoom, 12, Sum.inl f7)), (o_hire, Sum.inr (3, [Value.int hire_v_signs, Value.int hire_v_works, Value.int hire_v_whole, Value.int hire_v_otherwise, Value.int hire_v_least, Value.int hire_v_rates, Value.ref hire_a_brings, Value.ref hire_a_costs, Value.ref hire_a_chances, Value.ref hire_a_rate, Value.ref hire_a_mark])), (hire_a_rate, Sum.inl (k_hire_a_rate, 3, Sum.inl f_hire_a_rate)), (hire_a_mark, Sum.inl (k_hire_a_mark, 2, Sum.inl f_hire_a_mark))] H := hP
          have hD : va_D A [(o, Sum.inr (4, [Value.ref a_above, Value.long v_aboveLower, Value.ref o_table, Value.ref a_columnSign, Value.ref a_columnRate, Value.ref a_columnRoom, Value.int v3, Value.int v4, Value.ref o_hire, Value.int v_work, Value.int v_keptSign, Value.int v_joinedSign])), (a_columnSign, Sum.inl (k_a_columnSign, 12, Sum.inl f14)), (a_columnRate, Sum.inl (k_a_columnRate, 12, Sum.inl f6)), (a_columnRoom, Sum.inl (k_a_columnRoom, 12, Sum.inl f7)), (o_hire, Sum.inr (3, [Value.int hire_v_signs, Value.int hire_v_works, Value.int hire_v_whole, Value.int hire_v_otherwise, Value.int hire_v_least, Value.int hire_v_rates, Value.ref hire_a_brings, Value.ref hire_a_costs, Value.ref hire_a_chances, Value.ref hire_a_rate, Value.ref hire_a_mark])), (hire_a_rate, Sum.inl (k_hire_a_rate, 3, Sum.inl f_hire_a_rate)), (hire_a_mark, Sum.inl (k_hire_a_mark, 2, Sum.inl f_hire_a_mark))] := hD
          refine lv_aload_n hx hb dX4_listSteps_81 rfl (lv_at hl 3 rfl) ?_
          refine va_get (D := (dC, dI)) (ci := 4) (v := Value.ref a_columnRate) (C := RX4) (T := TX4) (N := 12) hx hb hts iw_X4_listSteps_X4 hown hK hP 0 rfl rfl 4 (by decide) (hts _ kk_X4_listSteps_6) (fun _ h9 => h9) rfl dX4_listSteps_82 ?_
          refine lv_aload_n hx hb dX4_listSteps_85 rfl (lv_at hl 3 rfl) ?_
          refine va_get (D := (dC, dI)) (ci := 4) (v := Value.int v3) (C := RX4) (T := TX4) (N := 12) hx hb hts iw_X4_listSteps_X4 hown hK hP 0 rfl rfl 6 (by decide) (hts _ kk_X4_listSteps_3) (fun _ h9 => h9) rfl dX4_listSteps_86 ?_
          refine lv_aload_n hx hb dX4_listSteps_89 rfl (lv_at hl 3 rfl) ?_
          refine va_get (D := (dC, dI)) (ci := 4) (v := Value.ref o_hire) (C := RX4) (T := TX4) (N := 12) hx hb hts iw_X4_listSteps_X4 hown hK hP 0 rfl rfl 8 (by decide) (hts _ kk_X4_listSteps_0) (fun _ h9 => h9) rfl dX4_listSteps_90 ?_
          refine va_get (D := (dC, dI)) (ci := 3) (v := Value.ref hire_a_rate) (C := RX3) (T := TX3) (N := 11) hx hb hts iw_X4_listSteps_X3 hown hK hP 4 rfl rfl 9 (by decide) (hts _ kk_X4_listSteps_7) (fun _ h9 => h9) rfl dX4_listSteps_93 ?_
          refine lv_iload_n hx hb dX4_listSteps_96 rfl (lv_at hl 1 rfl) ?_
          refine va_iald hx hb hK hP 5 3 rfl rfl (vq_in v1 3 (by omega)) dX4_listSteps_97 ?_
          refine lv_topi (fun x15 ex15 => ?_)
          have hx15 : iv x15 0 5 := iv.of (hf_hire_a_rate _) ex15
          refine va_iast hx hb hK hP hD hS 2 1 rfl rfl (vq_in v3 12 (by omega)) dX4_listSteps_98 (fun H locs hP hD hS => ?_)
          have hP : va_P (dC, dI) vwCl [(o, Sum.inr (4, [Value.ref a_above, Value.long v_aboveLower, Value.ref o_table, Value.ref a_columnSign, Value.ref a_columnRate, Value.ref a_columnRoom, Value.int v3, Value.int v4, Value.ref o_hire, Value.int v_work, Value.int v_keptSign, Value.int v_joinedSign])), (a_columnSign, Sum.inl (k_a_columnSign, 12, Sum.inl f14)), (a_columnRate, Sum.inl (k_a_columnRate, 12, Sum.inl (upd f6 (Int32.toNatClampNeg v3) x15))), (a_columnRoom, Sum.inl (k_a_columnRoom, 12, Sum.inl f7)), (o_hire, Sum.inr (3, [Value.int hire_v_signs, Value.int hire_v_works, Value.int hire_v_whole, Value.int hire_v_otherwise, Value.int hire_v_least, Value.int hire_v_rates, Value.ref hire_a_brings, Value.ref hire_a_costs, Value.ref hire_a_chances, Value.ref hire_a_rate, Value.ref hire_a_mark])), (hire_a_rate, Sum.inl (k_hire_a_rate, 3, Sum.inl f_hire_a_rate)), (hire_a_mark, Sum.inl (k_hire_a_mark, 2, Sum.inl f_hire_a_mark))] H := hP
          have hD : va_D A [(o, Sum.inr (4, [Value.ref a_above, Value.long v_aboveLower, Value.ref o_table, Value.ref a_columnSign, Value.ref a_columnRate, Value.ref a_columnRoom, Value.int v3, Value.int v4, Value.ref o_hire, Value.int v_work, Value.int v_keptSign, Value.int v_joinedSign])), (a_columnSign, Sum.inl (k_a_columnSign, 12, Sum.inl f14)), (a_columnRate, Sum.inl (k_a_columnRate, 12, Sum.inl (upd f6 (Int32.toNatClampNeg v3) x15))), (a_columnRoom, Sum.inl (k_a_columnRoom, 12, Sum.inl f7)), (o_hire, Sum.inr (3, [Value.int hire_v_signs, Value.int hire_v_works, Value.int hire_v_whole, Value.int hire_v_otherwise, Value.int hire_v_least, Value.int hire_v_rates, Value.ref hire_a_brings, Value.ref hire_a_costs, Value.ref hire_a_chances, Value.ref hire_a_rate, Value.ref hire_a_mark])), (hire_a_rate, Sum.inl (k_hire_a_rate, 3, Sum.inl f_hire_a_rate)), (hire_a_mark, Sum.inl (k_hire_a_mark, 2, Sum.inl f_hire_a_mark))] := hD
          have wf16 : (upd f6 (Int32.toNatClampNeg v3) x15) (Int32.toNatClampNeg v3) = x15 := pk_us
          generalize upd f6 (Int32.toNatClampNeg v3) x15 = f16 at hP hD wf16
          have hP : va_P (dC, dI) vwCl [(o, Sum.inr (4, [Value.ref a_above, Value.long v_aboveLower, Value.ref o_table, Value.ref a_columnSign, Value.ref a_columnRate, Value.ref a_columnRoom, Value.int v3, Value.int v4, Value.ref o_hire, Value.int v_work, Value.int v_keptSign, Value.int v_joinedSign])), (a_columnSign, Sum.inl (k_a_columnSign, 12, Sum.inl f14)), (a_columnRate, Sum.inl (k_a_columnRate, 12, Sum.inl f16)), (a_columnRoom, Sum.inl (k_a_columnRoom, 12, Sum.inl f7)), (o_hire, Sum.inr (3, [Value.int hire_v_signs, Value.int hire_v_works, Value.int hire_v_whole, Value.int hire_v_otherwise, Value.int hire_v_least, Value.int hire_v_rates, Value.ref hire_a_brings, Value.ref hire_a_costs, Value.ref hire_a_chances, Value.ref hire_a_rate, Value.ref hire_a_mark])), (hire_a_rate, Sum.inl (k_hire_a_rate, 3, Sum.inl f_hire_a_rate)), (hire_a_mark, Sum.inl (k_hire_a_mark, 2, Sum.inl f_hire_a_mark))] H := hP
          have hD : va_D A [(o, Sum.inr (4, [Value.ref a_above, Value.long v_aboveLower, Value.ref o_table, Value.ref a_columnSign, Value.ref a_columnRate, Value.ref a_columnRoom, Value.int v3, Value.int v4, Value.ref o_hire, Value.int v_work, Value.int v_keptSign, Value.int v_joinedSign])), (a_columnSign, Sum.inl (k_a_columnSign, 12, Sum.inl f14)), (a_columnRate, Sum.inl (k_a_columnRate, 12, Sum.inl f16)), (a_columnRoom, Sum.inl (k_a_columnRoom, 12, Sum.inl f7)), (o_hire, Sum.inr (3, [Value.int hire_v_signs, Value.int hire_v_works, Value.int hire_v_whole, Value.int hire_v_otherwise, Value.int hire_v_least, Value.int hire_v_rates, Value.ref hire_a_brings, Value.ref hire_a_costs, Value.ref hire_a_chances, Value.ref hire_a_rate, Value.ref hire_a_mark])), (hire_a_rate, Sum.inl (k_hire_a_rate, 3, Sum.inl f_hire_a_rate)), (hire_a_mark, Sum.inl (k_hire_a_mark, 2, Sum.inl f_hire_a_mark))] := hD
          refine lv_aload_n hx hb dX4_listSteps_99 rfl (lv_at hl 3 rfl) ?_
          refine va_get (D := (dC, dI)) (ci := 4) (v := Value.ref a_columnRoom) (C := RX4) (T := TX4) (N := 12) hx hb hts iw_X4_listSteps_X4 hown hK hP 0 rfl rfl 5 (by decide) (hts _ kk_X4_listSteps_8) (fun _ h9 => h9) rfl dX4_listSteps_100 ?_
          refine lv_aload_n hx hb dX4_listSteps_103 rfl (lv_at hl 3 rfl) ?_
          refine va_get (D := (dC, dI)) (ci := 4) (v := Value.int v3) (C := RX4) (T := TX4) (N := 12) hx hb hts iw_X4_listSteps_X4 hown hK hP 0 rfl rfl 6 (by decide) (hts _ kk_X4_listSteps_3) (fun _ h9 => h9) rfl dX4_listSteps_104 ?_
          refine lv_iload hx hb dX4_listSteps_107 (lv_at hl 0 rfl) ?_
          refine lv_if_eq (tgt := 116) hx hb dX4_listSteps_109 (by decide) (fun _ => ?_) (fun cz => absurd cz (by decide))
          refine lv_aload_n hx hb dX4_listSteps_116 rfl (lv_at hl 3 rfl) ?_
          refine va_get (D := (dC, dI)) (ci := 4) (v := Value.ref o_hire) (C := RX4) (T := TX4) (N := 12) hx hb hts iw_X4_listSteps_X4 hown hK hP 0 rfl rfl 8 (by decide) (hts _ kk_X4_listSteps_0) (fun _ h9 => h9) rfl dX4_listSteps_117 ?_
          refine va_get (D := (dC, dI)) (ci := 3) (v := Value.ref hire_a_mark) (C := RX3) (T := TX3) (N := 11) hx hb hts iw_X4_listSteps_X3 hown hK hP 4 rfl rfl 10 (by decide) (hts _ kk_X4_listSteps_4) (fun _ h9 => h9) rfl dX4_listSteps_120 ?_
          refine lv_iload_n hx hb dX4_listSteps_123 rfl (lv_at hl 1 rfl) ?_
          refine va_iald hx hb hK hP 6 4 rfl rfl (vq_in v1 2 (by omega)) dX4_listSteps_124 ?_
          refine lv_topi (fun x17 ex17 => ?_)
          have hx17 : iv x17 0 99 := iv.of (hf_hire_a_mark _) ex17
          refine lv_iload_n hx hb dX4_listSteps_125 rfl (lv_at hl 2 rfl) ?_
          refine lv_isub hx hb dX4_listSteps_126 ?_
          refine lv_topi (fun x18 ex18 => ?_)
          refine lv_aload_n hx hb dX4_listSteps_127 rfl (lv_at hl 3 rfl) ?_
          refine va_get (D := (dC, dI)) (ci := 4) (v := Value.ref o_hire) (C := RX4) (T := TX4) (N := 12) hx hb hts iw_X4_listSteps_X4 hown hK hP 0 rfl rfl 8 (by decide) (hts _ kk_X4_listSteps_0) (fun _ h9 => h9) rfl dX4_listSteps_128 ?_
          refine va_get (D := (dC, dI)) (ci := 3) (v := Value.ref hire_a_rate) (C := RX3) (T := TX3) (N := 11) hx hb hts iw_X4_listSteps_X3 hown hK hP 4 rfl rfl 9 (by decide) (hts _ kk_X4_listSteps_7) (fun _ h9 => h9) rfl dX4_listSteps_131 ?_
          refine lv_iload_n hx hb dX4_listSteps_134 rfl (lv_at hl 1 rfl) ?_
          refine va_iald hx hb hK hP 5 3 rfl rfl (vq_in v1 3 (by omega)) dX4_listSteps_135 ?_
          refine lv_topi (fun x19 ex19 => ?_)
          have hx19 : iv x19 0 5 := iv.of (hf_hire_a_rate _) ex19
          refine lv_imul hx hb dX4_listSteps_136 ?_
          refine lv_topi (fun x20 ex20 => ?_)
          refine va_iast hx hb hK hP hD hS 3 2 rfl rfl (vq_in v3 12 (by omega)) dX4_listSteps_137 (fun H locs hP hD hS => ?_)
          have hP : va_P (dC, dI) vwCl [(o, Sum.inr (4, [Value.ref a_above, Value.long v_aboveLower, Value.ref o_table, Value.ref a_columnSign, Value.ref a_columnRate, Value.ref a_columnRoom, Value.int v3, Value.int v4, Value.ref o_hire, Value.int v_work, Value.int v_keptSign, Value.int v_joinedSign])), (a_columnSign, Sum.inl (k_a_columnSign, 12, Sum.inl f14)), (a_columnRate, Sum.inl (k_a_columnRate, 12, Sum.inl f16)), (a_columnRoom, Sum.inl (k_a_columnRoom, 12, Sum.inl (upd f7 (Int32.toNatClampNeg v3) x20))), (o_hire, Sum.inr (3, [Value.int hire_v_signs, Value.int hire_v_works, Value.int hire_v_whole, Value.int hire_v_otherwise, Value.int hire_v_least, Value.int hire_v_rates, Value.ref hire_a_brings, Value.ref hire_a_costs, Value.ref hire_a_chances, Value.ref hire_a_rate, Value.ref hire_a_mark])), (hire_a_rate, Sum.inl (k_hire_a_rate, 3, Sum.inl f_hire_a_rate)), (hire_a_mark, Sum.inl (k_hire_a_mark, 2, Sum.inl f_hire_a_mark))] H := hP
          have hD : va_D A [(o, Sum.inr (4, [Value.ref a_above, Value.long v_aboveLower, Value.ref o_table, Value.ref a_columnSign, Value.ref a_columnRate, Value.ref a_columnRoom, Value.int v3, Value.int v4, Value.ref o_hire, Value.int v_work, Value.int v_keptSign, Value.int v_joinedSign])), (a_columnSign, Sum.inl (k_a_columnSign, 12, Sum.inl f14)), (a_columnRate, Sum.inl (k_a_columnRate, 12, Sum.inl f16)), (a_columnRoom, Sum.inl (k_a_columnRoom, 12, Sum.inl (upd f7 (Int32.toNatClampNeg v3) x20))), (o_hire, Sum.inr (3, [Value.int hire_v_signs, Value.int hire_v_works, Value.int hire_v_whole, Value.int hire_v_otherwise, Value.int hire_v_least, Value.int hire_v_rates, Value.ref hire_a_brings, Value.ref hire_a_costs, Value.ref hire_a_chances, Value.ref hire_a_rate, Value.ref hire_a_mark])), (hire_a_rate, Sum.inl (k_hire_a_rate, 3, Sum.inl f_hire_a_rate)), (hire_a_mark, Sum.inl (k_hire_a_mark, 2, Sum.inl f_hire_a_mark))] := hD
          have wf21 : (upd f7 (Int32.toNatClampNeg v3) x20) (Int32.toNatClampNeg v3) = x20 := pk_us
          generalize upd f7 (Int32.toNatClampNeg v3) x20 = f21 at hP hD wf21
          have hP : va_P (dC, dI) vwCl [(o, Sum.inr (4, [Value.ref a_above, Value.long v_aboveLower, Value.ref o_table, Value.ref a_columnSign, Value.ref a_columnRate, Value.ref a_columnRoom, Value.int v3, Value.int v4, Value.ref o_hire, Value.int v_work, Value.int v_keptSign, Value.int v_joinedSign])), (a_columnSign, Sum.inl (k_a_columnSign, 12, Sum.inl f14)), (a_columnRate, Sum.inl (k_a_columnRate, 12, Sum.inl f16)), (a_columnRoom, Sum.inl (k_a_columnRoom, 12, Sum.inl f21)), (o_hire, Sum.inr (3, [Value.int hire_v_signs, Value.int hire_v_works, Value.int hire_v_whole, Value.int hire_v_otherwise, Value.int hire_v_least, Value.int hire_v_rates, Value.ref hire_a_brings, Value.ref hire_a_costs, Value.ref hire_a_chances, Value.ref hire_a_rate, Value.ref hire_a_mark])), (hire_a_rate, Sum.inl (k_hire_a_rate, 3, Sum.inl f_hire_a_rate)), (hire_a_mark, Sum.inl (k_hire_a_mark, 2, Sum.inl f_hire_a_mark))] H := hP
          have hD : va_D A [(o, Sum.inr (4, [Value.ref a_above, Value.long v_aboveLower, Value.ref o_table, Value.ref a_columnSign, Value.ref a_columnRate, Value.ref a_columnRoom, Value.int v3, Value.int v4, Value.ref o_hire, Value.int v_work, Value.int v_keptSign, Value.int v_joinedSign])), (a_columnSign, Sum.inl (k_a_columnSign, 12, Sum.inl f14)), (a_columnRate, Sum.inl (k_a_columnRate, 12, Sum.inl f16)), (a_columnRoom, Sum.inl (k_a_columnRoom, 12, Sum.inl f21)), (o_hire, Sum.inr (3, [Value.int hire_v_signs, Value.int hire_v_works, Value.int hire_v_whole, Value.int hire_v_otherwise, Value.int hire_v_least, Value.int hire_v_rates, Value.ref hire_a_brings, Value.ref hire_a_costs, Value.ref hire_a_chances, Value.ref hire_a_rate, Value.ref hire_a_mark])), (hire_a_rate, Sum.inl (k_hire_a_rate, 3, Sum.inl f_hire_a_rate)), (hire_a_mark, Sum.inl (k_hire_a_mark, 2, Sum.inl f_hire_a_mark))] := hD
          refine lv_aload_n hx hb dX4_listSteps_138 rfl (lv_at hl 3 rfl) ?_
          refine lv_dup hx hb dX4_listSteps_139 rfl ?_
          refine va_get (D := (dC, dI)) (ci := 4) (v := Value.int v3) (C := RX4) (T := TX4) (N := 12) hx hb hts iw_X4_listSteps_X4 hown hK hP 0 rfl rfl 6 (by decide) (hts _ kk_X4_listSteps_3) (fun _ h9 => h9) rfl dX4_listSteps_140 ?_
          refine lv_iconst (v := 1) hx hb dX4_listSteps_143 (by decide) ?_
          refine lv_iadd hx hb dX4_listSteps_144 ?_
          refine lv_topi (fun x22 ex22 => ?_)
          have tx22 := i32_add ex22 rfl (show (1 : Int32).toInt = 1 by decide) (by omega) (by omega)
          refine va_put (D := (dC, dI)) (ci := 4) (v := Value.int x22) (ty := FieldType.int) (C := RX4) (T := TX4) (N := 12) hx hb hts iw_X4_listSteps_X4 tyX4 tyX4_ok nmX4 hown hK hP hD hS 0 rfl rfl 6 (by decide) (hts _ kk_X4_listSteps_3) (fun _ h9 => h9) rfl (by decide +kernel) rfl rfl (Nat.le_of_ble_eq_true rfl) dX4_listSteps_145 (fun H locs hP hD hS => ?_)
          have hP : va_P (dC, dI) vwCl [(o, Sum.inr (4, [Value.ref a_above, Value.long v_aboveLower, Value.ref o_table, Value.ref a_columnSign, Value.ref a_columnRate, Value.ref a_columnRoom, Value.int x22, Value.int v4, Value.ref o_hire, Value.int v_work, Value.int v_keptSign, Value.int v_joinedSign])), (a_columnSign, Sum.inl (k_a_columnSign, 12, Sum.inl f14)), (a_columnRate, Sum.inl (k_a_columnRate, 12, Sum.inl f16)), (a_columnRoom, Sum.inl (k_a_columnRoom, 12, Sum.inl f21)), (o_hire, Sum.inr (3, [Value.int hire_v_signs, Value.int hire_v_works, Value.int hire_v_whole, Value.int hire_v_otherwise, Value.int hire_v_least, Value.int hire_v_rates, Value.ref hire_a_brings, Value.ref hire_a_costs, Value.ref hire_a_chances, Value.ref hire_a_rate, Value.ref hire_a_mark])), (hire_a_rate, Sum.inl (k_hire_a_rate, 3, Sum.inl f_hire_a_rate)), (hire_a_mark, Sum.inl (k_hire_a_mark, 2, Sum.inl f_hire_a_mark))] H := hP
          have hD : va_D A [(o, Sum.inr (4, [Value.ref a_above, Value.long v_aboveLower, Value.ref o_table, Value.ref a_columnSign, Value.ref a_columnRate, Value.ref a_columnRoom, Value.int x22, Value.int v4, Value.ref o_hire, Value.int v_work, Value.int v_keptSign, Value.int v_joinedSign])), (a_columnSign, Sum.inl (k_a_columnSign, 12, Sum.inl f14)), (a_columnRate, Sum.inl (k_a_columnRate, 12, Sum.inl f16)), (a_columnRoom, Sum.inl (k_a_columnRoom, 12, Sum.inl f21)), (o_hire, Sum.inr (3, [Value.int hire_v_signs, Value.int hire_v_works, Value.int hire_v_whole, Value.int hire_v_otherwise, Value.int hire_v_least, Value.int hire_v_rates, Value.ref hire_a_brings, Value.ref hire_a_costs, Value.ref hire_a_chances, Value.ref hire_a_rate, Value.ref hire_a_mark])), (hire_a_rate, Sum.inl (k_hire_a_rate, 3, Sum.inl f_hire_a_rate)), (hire_a_mark, Sum.inl (k_hire_a_mark, 2, Sum.inl f_hire_a_mark))] := hD
          refine lv_iload hx hb dX4_listSteps_148 (lv_at hl 0 rfl) ?_
          refine lv_if_ne (tgt := 173) hx hb dX4_listSteps_150 (by decide) (fun cz => absurd cz (by decide)) (fun _ => ?_)
          refine lv_aload_n hx hb dX4_listSteps_153 rfl (lv_at hl 3 rfl) ?_
          refine va_get (D := (dC, dI)) (ci := 4) (v := Value.ref o_hire) (C := RX4) (T := TX4) (N := 12) hx hb hts iw_X4_listSteps_X4 hown hK hP 0 rfl rfl 8 (by decide) (hts _ kk_X4_listSteps_0) (fun _ h9 => h9) rfl dX4_listSteps_154 ?_
          refine va_get (D := (dC, dI)) (ci := 3) (v := Value.ref hire_a_mark) (C := RX3) (T := TX3) (N := 11) hx hb hts iw_X4_listSteps_X3 hown hK hP 4 rfl rfl 10 (by decide) (hts _ kk_X4_listSteps_4) (fun _ h9 => h9) rfl dX4_listSteps_157 ?_
          refine lv_iload_n hx hb dX4_listSteps_160 rfl (lv_at hl 1 rfl) ?_
          refine va_iald hx hb hK hP 6 4 rfl rfl (vq_in v1 2 (by omega)) dX4_listSteps_161 ?_
          refine lv_topi (fun x23 ex23 => ?_)
          have hx23 : iv x23 0 99 := iv.of (hf_hire_a_mark _) ex23
          refine lv_istore_n (lv' := [(2, Value.int x23), (4, Value.int 0), (3, Value.int v1), (0, Value.ref o), (1, Value.int p0)]) hx hb dX4_listSteps_162 rfl hl (by decide) rfl (fun ls hl => ?_)
          refine lv_aload_n hx hb dX4_listSteps_163 rfl (lv_at hl 3 rfl) ?_
          refine lv_dup hx hb dX4_listSteps_164 rfl ?_
          refine va_get (D := (dC, dI)) (ci := 4) (v := Value.int v4) (C := RX4) (T := TX4) (N := 12) hx hb hts iw_X4_listSteps_X4 hown hK hP 0 rfl rfl 7 (by decide) (hts _ kk_X4_listSteps_9) (fun _ h9 => h9) rfl dX4_listSteps_165 ?_
          refine lv_iconst (v := 1) hx hb dX4_listSteps_168 (by decide) ?_
          refine lv_iadd hx hb dX4_listSteps_169 ?_
          refine lv_topi (fun x24 ex24 => ?_)
          have bv4 := hv4.u
          have tx24 := i32_add ex24 rfl (show (1 : Int32).toInt = 1 by decide) (by omega) (by omega)
          refine va_put (D := (dC, dI)) (ci := 4) (v := Value.int x24) (ty := FieldType.int) (C := RX4) (T := TX4) (N := 12) hx hb hts iw_X4_listSteps_X4 tyX4 tyX4_ok nmX4 hown hK hP hD hS 0 rfl rfl 7 (by decide) (hts _ kk_X4_listSteps_9) (fun _ h9 => h9) rfl (by decide +kernel) rfl rfl (Nat.le_of_ble_eq_true rfl) dX4_listSteps_170 (fun H locs hP hD hS => ?_)
          have hP : va_P (dC, dI) vwCl [(o, Sum.inr (4, [Value.ref a_above, Value.long v_aboveLower, Value.ref o_table, Value.ref a_columnSign, Value.ref a_columnRate, Value.ref a_columnRoom, Value.int x22, Value.int x24, Value.ref o_hire, Value.int v_work, Value.int v_keptSign, Value.int v_joinedSign])), (a_columnSign, Sum.inl (k_a_columnSign, 12, Sum.inl f14)), (a_columnRate, Sum.inl (k_a_columnRate, 12, Sum.inl f16)), (a_columnRoom, Sum.inl (k_a_columnRoom, 12, Sum.inl f21)), (o_hire, Sum.inr (3, [Value.int hire_v_signs, Value.int hire_v_works, Value.int hire_v_whole, Value.int hire_v_otherwise, Value.int hire_v_least, Value.int hire_v_rates, Value.ref hire_a_brings, Value.ref hire_a_costs, Value.ref hire_a_chances, Value.ref hire_a_rate, Value.ref hire_a_mark])), (hire_a_rate, Sum.inl (k_hire_a_rate, 3, Sum.inl f_hire_a_rate)), (hire_a_mark, Sum.inl (k_hire_a_mark, 2, Sum.inl f_hire_a_mark))] H := hP
          have hD : va_D A [(o, Sum.inr (4, [Value.ref a_above, Value.long v_aboveLower, Value.ref o_table, Value.ref a_columnSign, Value.ref a_columnRate, Value.ref a_columnRoom, Value.int x22, Value.int x24, Value.ref o_hire, Value.int v_work, Value.int v_keptSign, Value.int v_joinedSign])), (a_columnSign, Sum.inl (k_a_columnSign, 12, Sum.inl f14)), (a_columnRate, Sum.inl (k_a_columnRate, 12, Sum.inl f16)), (a_columnRoom, Sum.inl (k_a_columnRoom, 12, Sum.inl f21)), (o_hire, Sum.inr (3, [Value.int hire_v_signs, Value.int hire_v_works, Value.int hire_v_whole, Value.int hire_v_otherwise, Value.int hire_v_least, Value.int hire_v_rates, Value.ref hire_a_brings, Value.ref hire_a_costs, Value.ref hire_a_chances, Value.ref hire_a_rate, Value.ref hire_a_mark])), (hire_a_rate, Sum.inl (k_hire_a_rate, 3, Sum.inl f_hire_a_rate)), (hire_a_mark, Sum.inl (k_hire_a_mark, 2, Sum.inl f_hire_a_mark))] := hD
          obtain ⟨x25, ex25⟩ : ∃ z : Int32, v1 + Int32.ofInt 1 = z := ⟨_, rfl⟩
          have tx25 := i32_inc ex25 rfl (by decide) (by omega) (by omega)
          refine lv_iinc (v := x25) (lv' := [(3, Value.int x25), (2, Value.int x23), (4, Value.int 0), (0, Value.ref o), (1, Value.int p0)]) hx hb dX4_listSteps_173 hl (k := 2) rfl ex25 (by decide) rfl (fun ls hl => ?_)
          refine lv_goto (tgt := 10) hx hb dX4_listSteps_176 (by decide) ?_
          have bx23 := hx23.u
          exact ih10 _ _ _ _ (ms_up hn10 tx25 (by decide) (by omega)) ⟨x25, x23, x22, x24, f14, f16, f21, rfl, (iv.m (by omega)), (iv.m (by omega)), (iv.m (by omega)), hf14, (by first | omega | (simp; done) | grind), hP, hD, hS, lv_sub hl [0, 1, 3, 4] rfl⟩
        · have c139 := i32_nlt c13 rfl rfl
          refine lv_goto (tgt := 173) hx hb dX4_listSteps_68 (by decide) ?_
          obtain ⟨x26, ex26⟩ : ∃ z : Int32, v1 + Int32.ofInt 1 = z := ⟨_, rfl⟩
          have tx26 := i32_inc ex26 rfl (by decide) (by omega) (by omega)
          refine lv_iinc (v := x26) (lv' := [(3, Value.int x26), (4, Value.int 0), (2, Value.int v2), (0, Value.ref o), (1, Value.int p0)]) hx hb dX4_listSteps_173 hl (k := 1) rfl ex26 (by decide) rfl (fun ls hl => ?_)
          refine lv_goto (tgt := 10) hx hb dX4_listSteps_176 (by decide) ?_
          have bv4 := hv4.u
          exact ih10 _ _ _ _ (ms_up hn10 tx26 (by decide) (by omega)) ⟨x26, v2, v3, v4, f5, f6, f7, rfl, (iv.m (by omega)), (iv.m (by omega)), hv4, hf5, (by first | omega | (simp; done) | grind), hP, hD, hS, lv_sub hl [0, 2, 3, 4] rfl⟩
      · have c119 := i32_eq c11 rfl rfl
        refine lv_iconst (v := 1) hx hb dX4_listSteps_43 (by decide) ?_
        refine lv_goto (tgt := 48) hx hb dX4_listSteps_44 (by decide) ?_
        refine lv_istore (lv' := [(4, Value.int 1), (3, Value.int v1), (2, Value.int v2), (0, Value.ref o), (1, Value.int p0)]) hx hb dX4_listSteps_48 hl (by decide) rfl (fun ls hl => ?_)
        refine lv_iload hx hb dX4_listSteps_50 (lv_at hl 0 rfl) ?_
        refine lv_if_ne (tgt := 71) hx hb dX4_listSteps_52 (by decide) (fun _ => ?_) (fun cz => absurd cz (by decide))
        refine lv_aload_n hx hb dX4_listSteps_71 rfl (lv_at hl 3 rfl) ?_
        refine va_get (D := (dC, dI)) (ci := 4) (v := Value.ref a_columnSign) (C := RX4) (T := TX4) (N := 12) hx hb hts iw_X4_listSteps_X4 hown hK hP 0 rfl rfl 3 (by decide) (hts _ kk_X4_listSteps_5) (fun _ h9 => h9) rfl dX4_listSteps_72 ?_
        refine lv_aload_n hx hb dX4_listSteps_75 rfl (lv_at hl 3 rfl) ?_
        refine va_get (D := (dC, dI)) (ci := 4) (v := Value.int v3) (C := RX4) (T := TX4) (N := 12) hx hb hts iw_X4_listSteps_X4 hown hK hP 0 rfl rfl 6 (by decide) (hts _ kk_X4_listSteps_3) (fun _ h9 => h9) rfl dX4_listSteps_76 ?_
        refine lv_iload_n hx hb dX4_listSteps_79 rfl (lv_at hl 4 rfl) ?_
        refine va_iast hx hb hK hP hD hS 1 0 rfl rfl (vq_in v3 12 (by omega)) dX4_listSteps_80 (fun H locs hP hD hS => ?_)
        have hP : va_P (dC, dI) vwCl [(o, Sum.inr (4, [Value.ref a_above, Value.long v_aboveLower, Value.ref o_table, Value.ref a_columnSign, Value.ref a_columnRate, Value.ref a_columnRoom, Value.int v3, Value.int v4, Value.ref o_hire, Value.int v_work, Value.int v_keptSign, Value.int v_joinedSign])), (a_columnSign, Sum.inl (k_a_columnSign, 12, Sum.inl (upd f5 (Int32.toNatClampNeg v3) p0))), (a_columnRate, Sum.inl (k_a_columnRate, 12, Sum.inl f6)), (a_columnRoom, Sum.inl (k_a_columnRoom, 12, Sum.inl f7)), (o_hire, Sum.inr (3, [Value.int hire_v_signs, Value.int hire_v_works, Value.int hire_v_whole, Value.int hire_v_otherwise, Value.int hire_v_least, Value.int hire_v_rates, Value.ref hire_a_brings, Value.ref hire_a_costs, Value.ref hire_a_chances, Value.ref hire_a_rate, Value.ref hire_a_mark])), (hire_a_rate, Sum.inl (k_hire_a_rate, 3, Sum.inl f_hire_a_rate)), (hire_a_mark, Sum.inl (k_hire_a_mark, 2, Sum.inl f_hire_a_mark))] H := hP
        have hD : va_D A [(o, Sum.inr (4, [Value.ref a_above, Value.long v_aboveLower, Value.ref o_table, Value.ref a_columnSign, Value.ref a_columnRate, Value.ref a_columnRoom, Value.int v3, Value.int v4, Value.ref o_hire, Value.int v_work, Value.int v_keptSign, Value.int v_joinedSign])), (a_columnSign, Sum.inl (k_a_columnSign, 12, Sum.inl (upd f5 (Int32.toNatClampNeg v3) p0))), (a_columnRate, Sum.inl (k_a_columnRate, 12, Sum.inl f6)), (a_columnRoom, Sum.inl (k_a_columnRoom, 12, Sum.inl f7)), (o_hire, Sum.inr (3, [Value.int hire_v_signs, Value.int hire_v_works, Value.int hire_v_whole, Value.int hire_v_otherwise, Value.int hire_v_least, Value.int hire_v_rates, Value.ref hire_a_brings, Value.ref hire_a_costs, Value.ref hire_a_chances, Value.ref hire_a_rate, Value.ref hire_a_mark])), (hire_a_rate, Sum.inl (k_hire_a_rate, 3, Sum.inl f_hire_a_rate)), (hire_a_mark, Sum.inl (k_hire_a_mark, 2, Sum.inl f_hire_a_mark))] := hD
        have hf27 : ivf (upd f5 (Int32.toNatClampNeg v3) p0) 0 3 := ivf.up hf5 hp0 _
        have wf27 : (upd f5 (Int32.toNatClampNeg v3) p0) (Int32.toNatClampNeg v3) = p0 := pk_us
        generalize upd f5 (Int32.toNatClampNeg v3) p0 = f27 at hP hD hf27 wf27
        have hP : va_P (dC, dI) vwCl [(o, Sum.inr (4, [Value.ref a_above, Value.long v_aboveLower, Value.ref o_table, Value.ref a_columnSign, Value.ref a_columnRate, Value.ref a_columnRoom, Value.int v3, Value.int v4, Value.ref o_hire, Value.int v_work, Value.int v_keptSign, Value.int v_joinedSign])), (a_columnSign, Sum.inl (k_a_columnSign, 12, Sum.inl f27)), (a_columnRate, Sum.inl (k_a_columnRate, 12, Sum.inl f6)), (a_columnRoom, Sum.inl (k_a_columnRoom, 12, Sum.inl f7)), (o_hire, Sum.inr (3, [Value.int hire_v_signs, Value.int hire_v_works, Value.int hire_v_whole, Value.int hire_v_otherwise, Value.int hire_v_least, Value.int hire_v_rates, Value.ref hire_a_brings, Value.ref hire_a_costs, Value.ref hire_a_chances, Value.ref hire_a_rate, Value.ref hire_a_mark])), (hire_a_rate, Sum.inl (k_hire_a_rate, 3, Sum.inl f_hire_a_rate)), (hire_a_mark, Sum.inl (k_hire_a_mark, 2, Sum.inl f_hire_a_mark))] H := hP
        have hD : va_D A [(o, Sum.inr (4, [Value.ref a_above, Value.long v_aboveLower, Value.ref o_table, Value.ref a_columnSign, Value.ref a_columnRate, Value.ref a_columnRoom, Value.int v3, Value.int v4, Value.ref o_hire, Value.int v_work, Value.int v_keptSign, Value.int v_joinedSign])), (a_columnSign, Sum.inl (k_a_columnSign, 12, Sum.inl f27)), (a_columnRate, Sum.inl (k_a_columnRate, 12, Sum.inl f6)), (a_columnRoom, Sum.inl (k_a_columnRoom, 12, Sum.inl f7)), (o_hire, Sum.inr (3, [Value.int hire_v_signs, Value.int hire_v_works, Value.int hire_v_whole, Value.int hire_v_otherwise, Value.int hire_v_least, Value.int hire_v_rates, Value.ref hire_a_brings, Value.ref hire_a_costs, Value.ref hire_a_chances, Value.ref hire_a_rate, Value.ref hire_a_mark])), (hire_a_rate, Sum.inl (k_hire_a_rate, 3, Sum.inl f_hire_a_rate)), (hire_a_mark, Sum.inl (k_hire_a_mark, 2, Sum.inl f_hire_a_mark))] := hD
        refine lv_aload_n hx hb dX4_listSteps_81 rfl (lv_at hl 3 rfl) ?_
        refine va_get (D := (dC, dI)) (ci := 4) (v := Value.ref a_columnRate) (C := RX4) (T := TX4) (N := 12) hx hb hts iw_X4_listSteps_X4 hown hK hP 0 rfl rfl 4 (by decide) (hts _ kk_X4_listSteps_6) (fun _ h9 => h9) rfl dX4_listSteps_82 ?_
        refine lv_aload_n hx hb dX4_listSteps_85 rfl (lv_at hl 3 rfl) ?_
        refine va_get (D := (dC, dI)) (ci := 4) (v := Value.int v3) (C := RX4) (T := TX4) (N := 12) hx hb hts iw_X4_listSteps_X4 hown hK hP 0 rfl rfl 6 (by decide) (hts _ kk_X4_listSteps_3) (fun _ h9 => h9) rfl dX4_listSteps_86 ?_
        refine lv_aload_n hx hb dX4_listSteps_89 rfl (lv_at hl 3 rfl) ?_
        refine va_get (D := (dC, dI)) (ci := 4) (v := Value.ref o_hire) (C := RX4) (T := TX4) (N := 12) hx hb hts iw_X4_listSteps_X4 hown hK hP 0 rfl rfl 8 (by decide) (hts _ kk_X4_listSteps_0) (fun _ h9 => h9) rfl dX4_listSteps_90 ?_
        refine va_get (D := (dC, dI)) (ci := 3) (v := Value.ref hire_a_rate) (C := RX3) (T := TX3) (N := 11) hx hb hts iw_X4_listSteps_X3 hown hK hP 4 rfl rfl 9 (by decide) (hts _ kk_X4_listSteps_7) (fun _ h9 => h9) rfl dX4_listSteps_93 ?_
        refine lv_iload_n hx hb dX4_listSteps_96 rfl (lv_at hl 1 rfl) ?_
        refine va_iald hx hb hK hP 5 3 rfl rfl (vq_in v1 3 (by omega)) dX4_listSteps_97 ?_
        refine lv_topi (fun x28 ex28 => ?_)
        have hx28 : iv x28 0 5 := iv.of (hf_hire_a_rate _) ex28
        refine va_iast hx hb hK hP hD hS 2 1 rfl rfl (vq_in v3 12 (by omega)) dX4_listSteps_98 (fun H locs hP hD hS => ?_)
        have hP : va_P (dC, dI) vwCl [(o, Sum.inr (4, [Value.ref a_above, Value.long v_aboveLower, Value.ref o_table, Value.ref a_columnSign, Value.ref a_columnRate, Value.ref a_columnRoom, Value.int v3, Value.int v4, Value.ref o_hire, Value.int v_work, Value.int v_keptSign, Value.int v_joinedSign])), (a_columnSign, Sum.inl (k_a_columnSign, 12, Sum.inl f27)), (a_columnRate, Sum.inl (k_a_columnRate, 12, Sum.inl (upd f6 (Int32.toNatClampNeg v3) x28))), (a_columnRoom, Sum.inl (k_a_columnRoom, 12, Sum.inl f7)), (o_hire, Sum.inr (3, [Value.int hire_v_signs, Value.int hire_v_works, Value.int hire_v_whole, Value.int hire_v_otherwise, Value.int hire_v_least, Value.int hire_v_rates, Value.ref hire_a_brings, Value.ref hire_a_costs, Value.ref hire_a_chances, Value.ref hire_a_rate, Value.ref hire_a_mark])), (hire_a_rate, Sum.inl (k_hire_a_rate, 3, Sum.inl f_hire_a_rate)), (hire_a_mark, Sum.inl (k_hire_a_mark, 2, Sum.inl f_hire_a_mark))] H := hP
        have hD : va_D A [(o, Sum.inr (4, [Value.ref a_above, Value.long v_aboveLower, Value.ref o_table, Value.ref a_columnSign, Value.ref a_columnRate, Value.ref a_columnRoom, Value.int v3, Value.int v4, Value.ref o_hire, Value.int v_work, Value.int v_keptSign, Value.int v_joinedSign])), (a_columnSign, Sum.inl (k_a_columnSign, 12, Sum.inl f27)), (a_columnRate, Sum.inl (k_a_columnRate, 12, Sum.inl (upd f6 (Int32.toNatClampNeg v3) x28))), (a_columnRoom, Sum.inl (k_a_columnRoom, 12, Sum.inl f7)), (o_hire, Sum.inr (3, [Value.int hire_v_signs, Value.int hire_v_works, Value.int hire_v_whole, Value.int hire_v_otherwise, Value.int hire_v_least, Value.int hire_v_rates, Value.ref hire_a_brings, Value.ref hire_a_costs, Value.ref hire_a_chances, Value.ref hire_a_rate, Value.ref hire_a_mark])), (hire_a_rate, Sum.inl (k_hire_a_rate, 3, Sum.inl f_hire_a_rate)), (hire_a_mark, Sum.inl (k_hire_a_mark, 2, Sum.inl f_hire_a_mark))] := hD
        have wf29 : (upd f6 (Int32.toNatClampNeg v3) x28) (Int32.toNatClampNeg v3) = x28 := pk_us
        generalize upd f6 (Int32.toNatClampNeg v3) x28 = f29 at hP hD wf29
        have hP : va_P (dC, dI) vwCl [(o, Sum.inr (4, [Value.ref a_above, Value.long v_aboveLower, Value.ref o_table, Value.ref a_columnSign, Value.ref a_columnRate, Value.ref a_columnRoom, Value.int v3, Value.int v4, Value.ref o_hire, Value.int v_work, Value.int v_keptSign, Value.int v_joinedSign])), (a_columnSign, Sum.inl (k_a_columnSign, 12, Sum.inl f27)), (a_columnRate, Sum.inl (k_a_columnRate, 12, Sum.inl f29)), (a_columnRoom, Sum.inl (k_a_columnRoom, 12, Sum.inl f7)), (o_hire, Sum.inr (3, [Value.int hire_v_signs, Value.int hire_v_works, Value.int hire_v_whole, Value.int hire_v_otherwise, Value.int hire_v_least, Value.int hire_v_rates, Value.ref hire_a_brings, Value.ref hire_a_costs, Value.ref hire_a_chances, Value.ref hire_a_rate, Value.ref hire_a_mark])), (hire_a_rate, Sum.inl (k_hire_a_rate, 3, Sum.inl f_hire_a_rate)), (hire_a_mark, Sum.inl (k_hire_a_mark, 2, Sum.inl f_hire_a_mark))] H := hP
        have hD : va_D A [(o, Sum.inr (4, [Value.ref a_above, Value.long v_aboveLower, Value.ref o_table, Value.ref a_columnSign, Value.ref a_columnRate, Value.ref a_columnRoom, Value.int v3, Value.int v4, Value.ref o_hire, Value.int v_work, Value.int v_keptSign, Value.int v_joinedSign])), (a_columnSign, Sum.inl (k_a_columnSign, 12, Sum.inl f27)), (a_columnRate, Sum.inl (k_a_columnRate, 12, Sum.inl f29)), (a_columnRoom, Sum.inl (k_a_columnRoom, 12, Sum.inl f7)), (o_hire, Sum.inr (3, [Value.int hire_v_signs, Value.int hire_v_works, Value.int hire_v_whole, Value.int hire_v_otherwise, Value.int hire_v_least, Value.int hire_v_rates, Value.ref hire_a_brings, Value.ref hire_a_costs, Value.ref hire_a_chances, Value.ref hire_a_rate, Value.ref hire_a_mark])), (hire_a_rate, Sum.inl (k_hire_a_rate, 3, Sum.inl f_hire_a_rate)), (hire_a_mark, Sum.inl (k_hire_a_mark, 2, Sum.inl f_hire_a_mark))] := hD
        refine lv_aload_n hx hb dX4_listSteps_99 rfl (lv_at hl 3 rfl) ?_
        refine va_get (D := (dC, dI)) (ci := 4) (v := Value.ref a_columnRoom) (C := RX4) (T := TX4) (N := 12) hx hb hts iw_X4_listSteps_X4 hown hK hP 0 rfl rfl 5 (by decide) (hts _ kk_X4_listSteps_8) (fun _ h9 => h9) rfl dX4_listSteps_100 ?_
        refine lv_aload_n hx hb dX4_listSteps_103 rfl (lv_at hl 3 rfl) ?_
        refine va_get (D := (dC, dI)) (ci := 4) (v := Value.int v3) (C := RX4) (T := TX4) (N := 12) hx hb hts iw_X4_listSteps_X4 hown hK hP 0 rfl rfl 6 (by decide) (hts _ kk_X4_listSteps_3) (fun _ h9 => h9) rfl dX4_listSteps_104 ?_
        refine lv_iload hx hb dX4_listSteps_107 (lv_at hl 0 rfl) ?_
        refine lv_if_eq (tgt := 116) hx hb dX4_listSteps_109 (by decide) (fun cz => absurd cz (by decide)) (fun _ => ?_)
        refine lv_iconst (v := (-1)) hx hb dX4_listSteps_112 (by decide) ?_
        refine lv_goto (tgt := 137) hx hb dX4_listSteps_113 (by decide) ?_
        refine va_iast hx hb hK hP hD hS 3 2 rfl rfl (vq_in v3 12 (by omega)) dX4_listSteps_137 (fun H locs hP hD hS => ?_)
        have hP : va_P (dC, dI) vwCl [(o, Sum.inr (4, [Value.ref a_above, Value.long v_aboveLower, Value.ref o_table, Value.ref a_columnSign, Value.ref a_columnRate, Value.ref a_columnRoom, Value.int v3, Value.int v4, Value.ref o_hire, Value.int v_work, Value.int v_keptSign, Value.int v_joinedSign])), (a_columnSign, Sum.inl (k_a_columnSign, 12, Sum.inl f27)), (a_columnRate, Sum.inl (k_a_columnRate, 12, Sum.inl f29)), (a_columnRoom, Sum.inl (k_a_columnRoom, 12, Sum.inl (upd f7 (Int32.toNatClampNeg v3) (-1)))), (o_hire, Sum.inr (3, [Value.int hire_v_signs, Value.int hire_v_works, Value.int hire_v_whole, Value.int hire_v_otherwise, Value.int hire_v_least, Value.int hire_v_rates, Value.ref hire_a_brings, Value.ref hire_a_costs, Value.ref hire_a_chances, Value.ref hire_a_rate, Value.ref hire_a_mark])), (hire_a_rate, Sum.inl (k_hire_a_rate, 3, Sum.inl f_hire_a_rate)), (hire_a_mark, Sum.inl (k_hire_a_mark, 2, Sum.inl f_hire_a_mark))] H := hP
        have hD : va_D A [(o, Sum.inr (4, [Value.ref a_above, Value.long v_aboveLower, Value.ref o_table, Value.ref a_columnSign, Value.ref a_columnRate, Value.ref a_columnRoom, Value.int v3, Value.int v4, Value.ref o_hire, Value.int v_work, Value.int v_keptSign, Value.int v_joinedSign])), (a_columnSign, Sum.inl (k_a_columnSign, 12, Sum.inl f27)), (a_columnRate, Sum.inl (k_a_columnRate, 12, Sum.inl f29)), (a_columnRoom, Sum.inl (k_a_columnRoom, 12, Sum.inl (upd f7 (Int32.toNatClampNeg v3) (-1)))), (o_hire, Sum.inr (3, [Value.int hire_v_signs, Value.int hire_v_works, Value.int hire_v_whole, Value.int hire_v_otherwise, Value.int hire_v_least, Value.int hire_v_rates, Value.ref hire_a_brings, Value.ref hire_a_costs, Value.ref hire_a_chances, Value.ref hire_a_rate, Value.ref hire_a_mark])), (hire_a_rate, Sum.inl (k_hire_a_rate, 3, Sum.inl f_hire_a_rate)), (hire_a_mark, Sum.inl (k_hire_a_mark, 2, Sum.inl f_hire_a_mark))] := hD
        have wf30 : (upd f7 (Int32.toNatClampNeg v3) (-1)) (Int32.toNatClampNeg v3) = (-1) := pk_us
        generalize upd f7 (Int32.toNatClampNeg v3) (-1) = f30 at hP hD wf30
        have hP : va_P (dC, dI) vwCl [(o, Sum.inr (4, [Value.ref a_above, Value.long v_aboveLower, Value.ref o_table, Value.ref a_columnSign, Value.ref a_columnRate, Value.ref a_columnRoom, Value.int v3, Value.int v4, Value.ref o_hire, Value.int v_work, Value.int v_keptSign, Value.int v_joinedSign])), (a_columnSign, Sum.inl (k_a_columnSign, 12, Sum.inl f27)), (a_columnRate, Sum.inl (k_a_columnRate, 12, Sum.inl f29)), (a_columnRoom, Sum.inl (k_a_columnRoom, 12, Sum.inl f30)), (o_hire, Sum.inr (3, [Value.int hire_v_signs, Value.int hire_v_works, Value.int hire_v_whole, Value.int hire_v_otherwise, Value.int hire_v_least, Value.int hire_v_rates, Value.ref hire_a_brings, Value.ref hire_a_costs, Value.ref hire_a_chances, Value.ref hire_a_rate, Value.ref hire_a_mark])), (hire_a_rate, Sum.inl (k_hire_a_rate, 3, Sum.inl f_hire_a_rate)), (hire_a_mark, Sum.inl (k_hire_a_mark, 2, Sum.inl f_hire_a_mark))] H := hP
        have hD : va_D A [(o, Sum.inr (4, [Value.ref a_above, Value.long v_aboveLower, Value.ref o_table, Value.ref a_columnSign, Value.ref a_columnRate, Value.ref a_columnRoom, Value.int v3, Value.int v4, Value.ref o_hire, Value.int v_work, Value.int v_keptSign, Value.int v_joinedSign])), (a_columnSign, Sum.inl (k_a_columnSign, 12, Sum.inl f27)), (a_columnRate, Sum.inl (k_a_columnRate, 12, Sum.inl f29)), (a_columnRoom, Sum.inl (k_a_columnRoom, 12, Sum.inl f30)), (o_hire, Sum.inr (3, [Value.int hire_v_signs, Value.int hire_v_works, Value.int hire_v_whole, Value.int hire_v_otherwise, Value.int hire_v_least, Value.int hire_v_rates, Value.ref hire_a_brings, Value.ref hire_a_costs, Value.ref hire_a_chances, Value.ref hire_a_rate, Value.ref hire_a_mark])), (hire_a_rate, Sum.inl (k_hire_a_rate, 3, Sum.inl f_hire_a_rate)), (hire_a_mark, Sum.inl (k_hire_a_mark, 2, Sum.inl f_hire_a_mark))] := hD
        refine lv_aload_n hx hb dX4_listSteps_138 rfl (lv_at hl 3 rfl) ?_
        refine lv_dup hx hb dX4_listSteps_139 rfl ?_
        refine va_get (D := (dC, dI)) (ci := 4) (v := Value.int v3) (C := RX4) (T := TX4) (N := 12) hx hb hts iw_X4_listSteps_X4 hown hK hP 0 rfl rfl 6 (by decide) (hts _ kk_X4_listSteps_3) (fun _ h9 => h9) rfl dX4_listSteps_140 ?_
        refine lv_iconst (v := 1) hx hb dX4_listSteps_143 (by decide) ?_
        refine lv_iadd hx hb dX4_listSteps_144 ?_
        refine lv_topi (fun x31 ex31 => ?_)
        have tx31 := i32_add ex31 rfl (show (1 : Int32).toInt = 1 by decide) (by omega) (by omega)
        refine va_put (D := (dC, dI)) (ci := 4) (v := Value.int x31) (ty := FieldType.int) (C := RX4) (T := TX4) (N := 12) hx hb hts iw_X4_listSteps_X4 tyX4 tyX4_ok nmX4 hown hK hP hD hS 0 rfl rfl 6 (by decide) (hts _ kk_X4_listSteps_3) (fun _ h9 => h9) rfl (by decide +kernel) rfl rfl (Nat.le_of_ble_eq_true rfl) dX4_listSteps_145 (fun H locs hP hD hS => ?_)
        have hP : va_P (dC, dI) vwCl [(o, Sum.inr (4, [Value.ref a_above, Value.long v_aboveLower, Value.ref o_table, Value.ref a_columnSign, Value.ref a_columnRate, Value.ref a_columnRoom, Value.int x31, Value.int v4, Value.ref o_hire, Value.int v_work, Value.int v_keptSign, Value.int v_joinedSign])), (a_columnSign, Sum.inl (k_a_columnSign, 12, Sum.inl f27)), (a_columnRate, Sum.inl (k_a_columnRate, 12, Sum.inl f29)), (a_columnRoom, Sum.inl (k_a_columnRoom, 12, Sum.inl f30)), (o_hire, Sum.inr (3, [Value.int hire_v_signs, Value.int hire_v_works, Value.int hire_v_whole, Value.int hire_v_otherwise, Value.int hire_v_least, Value.int hire_v_rates, Value.ref hire_a_brings, Value.ref hire_a_costs, Value.ref hire_a_chances, Value.ref hire_a_rate, Value.ref hire_a_mark])), (hire_a_rate, Sum.inl (k_hire_a_rate, 3, Sum.inl f_hire_a_rate)), (hire_a_mark, Sum.inl (k_hire_a_mark, 2, Sum.inl f_hire_a_mark))] H := hP
        have hD : va_D A [(o, Sum.inr (4, [Value.ref a_above, Value.long v_aboveLower, Value.ref o_table, Value.ref a_columnSign, Value.ref a_columnRate, Value.ref a_columnRoom, Value.int x31, Value.int v4, Value.ref o_hire, Value.int v_work, Value.int v_keptSign, Value.int v_joinedSign])), (a_columnSign, Sum.inl (k_a_columnSign, 12, Sum.inl f27)), (a_columnRate, Sum.inl (k_a_columnRate, 12, Sum.inl f29)), (a_columnRoom, Sum.inl (k_a_columnRoom, 12, Sum.inl f30)), (o_hire, Sum.inr (3, [Value.int hire_v_signs, Value.int hire_v_works, Value.int hire_v_whole, Value.int hire_v_otherwise, Value.int hire_v_least, Value.int hire_v_rates, Value.ref hire_a_brings, Value.ref hire_a_costs, Value.ref hire_a_chances, Value.ref hire_a_rate, Value.ref hire_a_mark])), (hire_a_rate, Sum.inl (k_hire_a_rate, 3, Sum.inl f_hire_a_rate)), (hire_a_mark, Sum.inl (k_hire_a_mark, 2, Sum.inl f_hire_a_mark))] := hD
        refine lv_iload hx hb dX4_listSteps_148 (lv_at hl 0 rfl) ?_
        refine lv_if_ne (tgt := 173) hx hb dX4_listSteps_150 (by decide) (fun _ => ?_) (fun cz => absurd cz (by decide))
        obtain ⟨x32, ex32⟩ : ∃ z : Int32, v1 + Int32.ofInt 1 = z := ⟨_, rfl⟩
        have tx32 := i32_inc ex32 rfl (by decide) (by omega) (by omega)
        refine lv_iinc (v := x32) (lv' := [(3, Value.int x32), (4, Value.int 1), (2, Value.int v2), (0, Value.ref o), (1, Value.int p0)]) hx hb dX4_listSteps_173 hl (k := 1) rfl ex32 (by decide) rfl (fun ls hl => ?_)
        refine lv_goto (tgt := 10) hx hb dX4_listSteps_176 (by decide) ?_
        have bv4 := hv4.u
        exact ih10 _ _ _ _ (ms_up hn10 tx32 (by decide) (by omega)) ⟨x32, v2, x31, v4, f27, f29, f30, rfl, (iv.m (by omega)), (iv.m (by omega)), hv4, hf27, (by first | omega | (simp; done) | grind), hP, hD, hS, lv_sub hl [0, 2, 3, 4] rfl⟩

