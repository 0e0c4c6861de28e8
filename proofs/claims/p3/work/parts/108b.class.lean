set_option maxHeartbeats 4000000 in
set_option maxRecDepth 100000 in
theorem ct_X8_lineBelowZero (l : Launch) (dC : Nat → ClassId) (dI : Nat → Nat → Nat) (o : Nat) (a_entry : Nat) (a_lineName : Nat) (a_columnName : Nat) (v_goals : Int32) (v_lines : Int32) (v_columns : Int32) (v_base : Int64) (k_a_entry : ClassId) (R_a_entry : Nat → Nat) (k_a_lineName : ClassId) (f_a_lineName : Nat → Int32) (LP : List Nat) (sh : Nat → Nat) (fp : Nat → va_E) (cI : ClassId) (cJ : ClassId) (hv_goals : iv v_goals 0 18) (hv_lines : iv v_lines 0 18) (hf_a_lineName : ivf f_a_lineName 0 99) (hfp : pok cI cJ LP sh fp) (hRR_a_entry : ∀ i : Nat, i < 18 → R_a_entry i ∈ LP ∧ sh (R_a_entry i) = 13) (sz : Nat) : Met l yX8_lineBelowZero wsX8_lineBelowZero ({ frames := 0, cells := 0, slots := 0, locals := 0 }) (va_Pc [Value.ref o] (fun U => U.heap.size = sz ∧ va_P (dC, dI) vwCl ([(o, Sum.inr (8, [Value.ref a_entry, Value.ref a_lineName, Value.ref a_columnName, Value.int v_goals, Value.int v_lines, Value.int v_columns, Value.long v_base])), (a_entry, Sum.inl (k_a_entry, 18, Sum.inr (Sum.inr (Sum.inr (Sum.inr (rows_of 18 R_a_entry)))))), (a_lineName, Sum.inl (k_a_lineName, 18, Sum.inl f_a_lineName))] ++ va_pl LP fp) U.heap ∧ va_K (dC, dI) vwCl [(k_a_entry, (FieldType.array FieldType.long)), (k_a_lineName, FieldType.int), (cI, FieldType.int), (cJ, FieldType.long)] U ∧ va_D (fun _ => True) ([(o, Sum.inr (8, [Value.ref a_entry, Value.ref a_lineName, Value.ref a_columnName, Value.int v_goals, Value.int v_lines, Value.int v_columns, Value.long v_base])), (a_entry, Sum.inl (k_a_entry, 18, Sum.inr (Sum.inr (Sum.inr (Sum.inr (rows_of 18 R_a_entry)))))), (a_lineName, Sum.inl (k_a_lineName, 18, Sum.inl f_a_lineName))] ++ va_pl LP fp))) (va_Qi (fun (r u : Int32) => u = r) (fun (r : Int32) t => iv r (-1) 17 ∧ va_P (dC, dI) vwCl ([(o, Sum.inr (8, [Value.ref a_entry, Value.ref a_lineName, Value.ref a_columnName, Value.int v_goals, Value.int v_lines, Value.int v_columns, Value.long v_base])), (a_entry, Sum.inl (k_a_entry, 18, Sum.inr (Sum.inr (Sum.inr (Sum.inr (rows_of 18 R_a_entry)))))), (a_lineName, Sum.inl (k_a_lineName, 18, Sum.inl f_a_lineName))] ++ va_pl LP fp) t.heap ∧ va_D (va_A ([(o, Sum.inr (8, [Value.ref a_entry, Value.ref a_lineName, Value.ref a_columnName, Value.int v_goals, Value.int v_lines, Value.int v_columns, Value.long v_base])), (a_entry, Sum.inl (k_a_entry, 18, Sum.inr (Sum.inr (Sum.inr (Sum.inr (rows_of 18 R_a_entry)))))), (a_lineName, Sum.inl (k_a_lineName, 18, Sum.inl f_a_lineName))] ++ va_pl LP fp) sz) ([(o, Sum.inr (8, [Value.ref a_entry, Value.ref a_lineName, Value.ref a_columnName, Value.int v_goals, Value.int v_lines, Value.int v_columns, Value.long v_base])), (a_entry, Sum.inl (k_a_entry, 18, Sum.inr (Sum.inr (Sum.inr (Sum.inr (rows_of 18 R_a_entry)))))), (a_lineName, Sum.inl (k_a_lineName, 18, Sum.inl f_a_lineName))] ++ va_pl LP fp)) (va_A ([(o, Sum.inr (8, [Value.ref a_entry, Value.ref a_lineName, Value.ref a_columnName, Value.int v_goals, Value.int v_lines, Value.int v_columns, Value.long v_base])), (a_entry, Sum.inl (k_a_entry, 18, Sum.inr (Sum.inr (Sum.inr (Sum.inr (rows_of 18 R_a_entry)))))), (a_lineName, Sum.inl (k_a_lineName, 18, Sum.inl f_a_lineName))] ++ va_pl LP fp) sz)) 0 0 (va_A ([(o, Sum.inr (8, [Value.ref a_entry, Value.ref a_lineName, Value.ref a_columnName, Value.int v_goals, Value.int v_lines, Value.int v_columns, Value.long v_base])), (a_entry, Sum.inl (k_a_entry, 18, Sum.inr (Sum.inr (Sum.inr (Sum.inr (rows_of 18 R_a_entry)))))), (a_lineName, Sum.inl (k_a_lineName, 18, Sum.inl f_a_lineName))] ++ va_pl LP fp) sz) := by
  refine Met.ofW (cc := cX8_lineBelowZero) (maxL := 3) (ret := (some .int)) pn_X8 rfl ?_
  intro p e s m args below meth c s₁ B hml hv
  obtain ⟨rfl, hsz, hP, hK, hD0⟩ := hv
  have hx := B.exec
  have hb := B.bytes
  have hr := B.returns
  have hts := atoms_spec (ws := wsX8_lineBelowZero) B.pre
  have hown : s.vm.findClass RX8 = some m.cls := findClass_of_methodNamed B.named
  have hlocks := B.notSynchronized
  subst hsz
  have hD := hD0.self (sz := s.heap.size)
  generalize hAe : va_A ([(o, Sum.inr (8, [Value.ref a_entry, Value.ref a_lineName, Value.ref a_columnName, Value.int v_goals, Value.int v_lines, Value.int v_columns, Value.long v_base])), (a_entry, Sum.inl (k_a_entry, 18, Sum.inr (Sum.inr (Sum.inr (Sum.inr (rows_of 18 R_a_entry)))))), (a_lineName, Sum.inl (k_a_lineName, 18, Sum.inl f_a_lineName))] ++ va_pl LP fp) s.heap.size = A at hD ⊢
  have hA : ∀ q : Nat, s.heap.size ≤ q → A q := fun q h => by rw [← hAe]; exact Or.inr h
  have hS : va_S A s.heap s.heap [] := va_S.rf
  have hP : va_P (dC, dI) vwCl ([(o, Sum.inr (8, [Value.ref a_entry, Value.ref a_lineName, Value.ref a_columnName, Value.int v_goals, Value.int v_lines, Value.int v_columns, Value.long v_base])), (a_entry, Sum.inl (k_a_entry, 18, Sum.inr (Sum.inr (Sum.inr (Sum.inr (rows_of 18 R_a_entry)))))), (a_lineName, Sum.inl (k_a_lineName, 18, Sum.inl f_a_lineName))] ++ va_pl LP fp) s.heap := hP
  have hl := lv_entry ([Value.ref o]) (n := 3) (Nat.le_of_ble_eq_true rfl)
  rw [lg_entry_eq]
  generalize (lg_sl ([Value.ref o]) ++ List.replicate (3 - (lg_sl ([Value.ref o])).length) Slot.unset).toArray = ls at hl ⊢
  have hl : lv_has ls 3 [(0, Value.ref o)] := hl
  refine lv_iconst (v := (-1)) hx hb dX8_lineBelowZero_0 (by decide) ?_
  refine lv_istore_n (lv' := [(1, Value.int (-1)), (0, Value.ref o)]) hx hb dX8_lineBelowZero_1 rfl hl (by decide) rfl (fun ls hl => ?_)
  refine lv_aload_n hx hb dX8_lineBelowZero_2 rfl (lv_at hl 1 rfl) ?_
  refine va_get (D := (dC, dI)) (ci := 8) (v := Value.int v_goals) (C := RX8) (T := TX8) (N := 7) hx hb hts iw_X8_lineBelowZero_X8 hown hK hP 0 rfl rfl 3 (by decide) (hts _ kk_X8_lineBelowZero_0) (fun _ h9 => h9) rfl dX8_lineBelowZero_3 ?_
  refine lv_istore_n (lv' := [(2, Value.int v_goals), (1, Value.int (-1)), (0, Value.ref o)]) hx hb dX8_lineBelowZero_6 rfl hl (by decide) rfl (fun ls hl => ?_)
  refine tl_loop (I := fun nn H locs ls => ∃ (v1 : Int32) (v2 : Int32), nn = (18 - v1.toInt).toNat ∧ iv v1 0 18 ∧ iv v2 (-1) 17 ∧  va_P (dC, dI) vwCl ([(o, Sum.inr (8, [Value.ref a_entry, Value.ref a_lineName, Value.ref a_columnName, Value.int v_goals, Value.int v_lines, Value.int v_columns, Value.long v_base])), (a_entry, Sum.inl (k_a_entry, 18, Sum.inr (Sum.inr (Sum.inr (Sum.inr (rows_of 18 R_a_entry)))))), (a_lineName, Sum.inl (k_a_lineName, 18, Sum.inl f_a_lineName))] ++ va_pl LP fp) H ∧ va_D A ([(o, Sum.inr (8, [Value.ref a_entry, Value.ref a_lineName, Value.ref a_columnName, Value.int v_goals, Value.int v_lines, Value.int v_columns, Value.long v_base])), (a_entry, Sum.inl (k_a_entry, 18, Sum.inr (Sum.inr (Sum.inr (Sum.inr (rows_of 18 R_a_entry)))))), (a_lineName, Sum.inl (k_a_lineName, 18, Sum.inl f_a_lineName))] ++ va_pl LP fp) ∧ va_S A s.heap H locs ∧ lv_has ls 3 [(2, Value.int v1), (1, Value.int v2), (0, Value.ref o)]) ?_ ⟨v_goals, (-1), rfl, hv_goals, (iv.m (by decide)), hP, hD, hS, lv_sub hl [0, 1, 2] rfl⟩
  clear hP hD hS hl
  intro nn7 H locs ls hI ih7
  obtain ⟨v1, v2, hn7, hv1, hv2, hP, hD, hS, hl⟩ := hI
  have bv1 := hv1.u
  have bv2 := hv2.u
  refine lv_iload_n hx hb dX8_lineBelowZero_7 rfl (lv_at hl 0 rfl) ?_
  refine lv_aload_n hx hb dX8_lineBelowZero_8 rfl (lv_at hl 2 rfl) ?_
  refine va_get (D := (dC, dI)) (ci := 8) (v := Value.int v_lines) (C := RX8) (T := TX8) (N := 7) hx hb hts iw_X8_lineBelowZero_X8 hown hK hP 0 rfl rfl 4 (by decide) (hts _ kk_X8_lineBelowZero_1) (fun _ h9 => h9) rfl dX8_lineBelowZero_9 ?_
  have bv_lines := hv_lines.u
  refine lv_icmp_ge (tgt := 55) hx hb dX8_lineBelowZero_12 (by decide) (fun c3 => ?_) (fun c3 => ?_)
  · have c39 := i32_le c3 rfl rfl
    refine lv_iload_n hx hb dX8_lineBelowZero_55 rfl (lv_at hl 1 rfl) ?_
    have hP9 := hP.part (cx := [(o, Sum.inr (8, [Value.ref a_entry, Value.ref a_lineName, Value.ref a_columnName, Value.int v_goals, Value.int v_lines, Value.int v_columns, Value.long v_base])), (a_entry, Sum.inl (k_a_entry, 18, Sum.inr (Sum.inr (Sum.inr (Sum.inr (rows_of 18 R_a_entry)))))), (a_lineName, Sum.inl (k_a_lineName, 18, Sum.inl f_a_lineName))]) [0, 1, 2] rfl
    have hD9 := hD.part (cx := [(o, Sum.inr (8, [Value.ref a_entry, Value.ref a_lineName, Value.ref a_columnName, Value.int v_goals, Value.int v_lines, Value.int v_columns, Value.long v_base])), (a_entry, Sum.inl (k_a_entry, 18, Sum.inr (Sum.inr (Sum.inr (Sum.inr (rows_of 18 R_a_entry)))))), (a_lineName, Sum.inl (k_a_lineName, 18, Sum.inl f_a_lineName))]) [0, 1, 2] (by decide) rfl
    exact W.iret (v := v2) hx hb hr (fun t ht hW => ⟨⟨v2, v2, rfl, rfl, hv2, by rw [ht]; exact hP9, hD9⟩, hS.F ht⟩) hS.2.2 dX8_lineBelowZero_56
  · have c39 := i32_nle c3 rfl rfl
    refine lv_aload_n hx hb dX8_lineBelowZero_15 rfl (lv_at hl 2 rfl) ?_
    refine va_get (D := (dC, dI)) (ci := 8) (v := Value.ref a_entry) (C := RX8) (T := TX8) (N := 7) hx hb hts iw_X8_lineBelowZero_X8 hown hK hP 0 rfl rfl 0 (by decide) (hts _ kk_X8_lineBelowZero_2) (fun _ h9 => h9) rfl dX8_lineBelowZero_16 ?_
    refine lv_iload_n hx hb dX8_lineBelowZero_19 rfl (lv_at hl 0 rfl) ?_
    have hinrw4 : vp_in v1 18 := (vq_in v1 18 (by omega))
    refine va_aldA hx hb hK hP 1 0 rfl rfl hinrw4 dX8_lineBelowZero_20 ?_
    refine px_v (row_sel hinrw4) ?_
    obtain ⟨rw4, erw4⟩ : ∃ z : Nat, z = R_a_entry (Int32.toNatClampNeg v1) := ⟨_, rfl⟩
    rw [← erw4]
    have mrw4 : rw4 ∈ LP ∧ sh rw4 = 13 := by rw [erw4]; exact hRR_a_entry _ (vin_lt hinrw4)
    refine lv_iconst (v := 0) hx hb dX8_lineBelowZero_21 (by decide) ?_
    obtain ⟨gk5, hgk5⟩ := pok_13 (hfp) mrw4
    obtain ⟨kk6, hkk6⟩ := va_pl_get (X := [(o, Sum.inr (8, [Value.ref a_entry, Value.ref a_lineName, Value.ref a_columnName, Value.int v_goals, Value.int v_lines, Value.int v_columns, Value.long v_base])), (a_entry, Sum.inl (k_a_entry, 18, Sum.inr (Sum.inr (Sum.inr (Sum.inr (rows_of 18 R_a_entry)))))), (a_lineName, Sum.inl (k_a_lineName, 18, Sum.inl f_a_lineName))]) (f := fp) mrw4.1
    have qkk6 := hkk6
    rw [hgk5] at qkk6
    refine va_lald hx hb hK hP kk6 3 qkk6 rfl (vq_in 0 13 (by decide)) dX8_lineBelowZero_22 ?_
    refine lv_topl (fun y7 ey7 => ?_)
    refine lv_lconst (v := 0) hx hb dX8_lineBelowZero_23 (by decide) ?_
    refine W.lcmp hx hb dX8_lineBelowZero_24 ?_
    refine lv_if_ge (tgt := 49) hx hb dX8_lineBelowZero_25 (by decide) (fun c8 => ?_) (fun c8 => ?_)
    · skip
      have c89 := lc_ge c8
      have by7 : (-9223372036854775808 : Int) ≤ y7.toInt ∧ y7.toInt ≤ 9223372036854775807 := ⟨i64_min _, i64_max _⟩
      have dy7 := i64_le c89 (show (0 : Int64).toInt = 0 by decide) rfl
      have hy7 : jv y7 0 9223372036854775807 := jv.m (by omega)
      obtain ⟨x9, ex9⟩ : ∃ z : Int32, v1 + Int32.ofInt 1 = z := ⟨_, rfl⟩
      have tx9 := i32_inc ex9 rfl (by decide) (by omega) (by omega)
      refine lv_iinc (v := x9) (lv' := [(2, Value.int x9), (1, Value.int v2), (0, Value.ref o)]) hx hb dX8_lineBelowZero_49 hl (k := 0) rfl ex9 (by decide) rfl (fun ls hl => ?_)
      refine lv_goto (tgt := 7) hx hb dX8_lineBelowZero_52 (by decide) ?_
      exact ih7 _ _ _ _ (by omega) ⟨x9, v2, rfl, (iv.m (by omega)), hv2, hP, hD, hS, lv_sub hl [0, 1, 2] rfl⟩
    · skip
      have c89 := lc_nge c8
      have by7 : (-9223372036854775808 : Int) ≤ y7.toInt ∧ y7.toInt ≤ 9223372036854775807 := ⟨i64_min _, i64_max _⟩
      have dy7 := i64_lt c89 rfl (show (0 : Int64).toInt = 0 by decide)
      have hy7 : jv y7 (-9223372036854775808) (-1) := jv.m (by omega)
      refine lv_iload_n hx hb dX8_lineBelowZero_28 rfl (lv_at hl 1 rfl) ?_
      refine lv_if_lt (tgt := 47) hx hb dX8_lineBelowZero_29 (by decide) (fun c10 => ?_) (fun c10 => ?_)
      · have c109 := i32_lt c10 rfl (show (0 : Int32).toInt = 0 by decide)
        refine lv_iload_n hx hb dX8_lineBelowZero_47 rfl (lv_at hl 0 rfl) ?_
        refine lv_istore_n (lv' := [(1, Value.int v1), (2, Value.int v1), (0, Value.ref o)]) hx hb dX8_lineBelowZero_48 rfl hl (by decide) rfl (fun ls hl => ?_)
        obtain ⟨x11, ex11⟩ : ∃ z : Int32, v1 + Int32.ofInt 1 = z := ⟨_, rfl⟩
        have tx11 := i32_inc ex11 rfl (by decide) (by omega) (by omega)
        refine lv_iinc (v := x11) (lv' := [(2, Value.int x11), (1, Value.int v1), (0, Value.ref o)]) hx hb dX8_lineBelowZero_49 hl (k := 1) rfl ex11 (by decide) rfl (fun ls hl => ?_)
        refine lv_goto (tgt := 7) hx hb dX8_lineBelowZero_52 (by decide) ?_
        exact ih7 _ _ _ _ (by omega) ⟨x11, v1, rfl, (iv.m (by omega)), (iv.m (by omega)), hP, hD, hS, lv_sub hl [0, 1, 2] rfl⟩
      · have c109 := i32_nlt c10 rfl (show (0 : Int32).toInt = 0 by decide)
        refine lv_aload_n hx hb dX8_lineBelowZero_32 rfl (lv_at hl 2 rfl) ?_
        refine va_get (D := (dC, dI)) (ci := 8) (v := Value.ref a_lineName) (C := RX8) (T := TX8) (N := 7) hx hb hts iw_X8_lineBelowZero_X8 hown hK hP 0 rfl rfl 1 (by decide) (hts _ kk_X8_lineBelowZero_3) (fun _ h9 => h9) rfl dX8_lineBelowZero_33 ?_
        refine lv_iload_n hx hb dX8_lineBelowZero_36 rfl (lv_at hl 0 rfl) ?_
        refine va_iald hx hb hK hP 2 1 rfl rfl (vq_in v1 18 (by omega)) dX8_lineBelowZero_37 ?_
        refine lv_topi (fun x12 ex12 => ?_)
        have hx12 : iv x12 0 99 := iv.of (hf_a_lineName _) ex12
        refine lv_aload_n hx hb dX8_lineBelowZero_38 rfl (lv_at hl 2 rfl) ?_
        refine va_get (D := (dC, dI)) (ci := 8) (v := Value.ref a_lineName) (C := RX8) (T := TX8) (N := 7) hx hb hts iw_X8_lineBelowZero_X8 hown hK hP 0 rfl rfl 1 (by decide) (hts _ kk_X8_lineBelowZero_3) (fun _ h9 => h9) rfl dX8_lineBelowZero_39 ?_
        refine lv_iload_n hx hb dX8_lineBelowZero_42 rfl (lv_at hl 1 rfl) ?_
        refine va_iald hx hb hK hP 2 1 rfl rfl (vq_in v2 18 (by omega)) dX8_lineBelowZero_43 ?_
        refine lv_topi (fun x13 ex13 => ?_)
        have hx13 : iv x13 0 99 := iv.of (hf_a_lineName _) ex13
        have bx12 := hx12.u
        have bx13 := hx13.u
        refine lv_icmp_ge (tgt := 49) hx hb dX8_lineBelowZero_44 (by decide) (fun c14 => ?_) (fun c14 => ?_)
        · have c149 := i32_le c14 rfl rfl
          obtain ⟨x15, ex15⟩ : ∃ z : Int32, v1 + Int32.ofInt 1 = z := ⟨_, rfl⟩
          have tx15 := i32_inc ex15 rfl (by decide) (by omega) (by omega)
          refine lv_iinc (v := x15) (lv' := [(2, Value.int x15), (1, Value.int v2), (0, Value.ref o)]) hx hb dX8_lineBelowZero_49 hl (k := 0) rfl ex15 (by decide) rfl (fun ls hl => ?_)
          refine lv_goto (tgt := 7) hx hb dX8_lineBelowZero_52 (by decide) ?_
          exact ih7 _ _ _ _ (by omega) ⟨x15, v2, rfl, (iv.m (by omega)), (iv.m (by omega)), hP, hD, hS, lv_sub hl [0, 1, 2] rfl⟩
        · have c149 := i32_nle c14 rfl rfl
          refine lv_iload_n hx hb dX8_lineBelowZero_47 rfl (lv_at hl 0 rfl) ?_
          refine lv_istore_n (lv' := [(1, Value.int v1), (2, Value.int v1), (0, Value.ref o)]) hx hb dX8_lineBelowZero_48 rfl hl (by decide) rfl (fun ls hl => ?_)
          obtain ⟨x16, ex16⟩ : ∃ z : Int32, v1 + Int32.ofInt 1 = z := ⟨_, rfl⟩
          have tx16 := i32_inc ex16 rfl (by decide) (by omega) (by omega)
          refine lv_iinc (v := x16) (lv' := [(2, Value.int x16), (1, Value.int v1), (0, Value.ref o)]) hx hb dX8_lineBelowZero_49 hl (k := 1) rfl ex16 (by decide) rfl (fun ls hl => ?_)
          refine lv_goto (tgt := 7) hx hb dX8_lineBelowZero_52 (by decide) ?_
          exact ih7 _ _ _ _ (by omega) ⟨x16, v1, rfl, (iv.m (by omega)), (iv.m (by omega)), hP, hD, hS, lv_sub hl [0, 1, 2] rfl⟩

set_option maxHeartbeats 4000000 in
set_option maxRecDepth 100000 in
theorem ct_X8_compareRatios (l : Launch) (dC : Nat → ClassId) (dI : Nat → Nat → Nat) (o : Nat) (p0 : Int32) (p1 : Int32) (p2 : Int32) (a_entry : Nat) (a_lineName : Nat) (a_columnName : Nat) (v_goals : Int32) (v_lines : Int32) (v_columns : Int32) (v_base : Int64) (k_a_entry : ClassId) (R_a_entry : Nat → Nat) (LP : List Nat) (sh : Nat → Nat) (fp : Nat → va_E) (cI : ClassId) (cJ : ClassId) (hp0 : iv p0 0 17) (hp1 : iv p1 1 12) (hp2 : iv p2 1 12) (hv_goals : iv v_goals 0 18) (hfp : pok cI cJ LP sh fp) (hRR_a_entry : ∀ i : Nat, i < 18 → R_a_entry i ∈ LP ∧ sh (R_a_entry i) = 13) (sz : Nat) : Met l yX8_compareRatios wsX8_compareRatios ({ frames := 0, cells := 0, slots := 0, locals := 0 }) (va_Pc [Value.ref o, Value.int p0, Value.int p1, Value.int p2] (fun U => U.heap.size = sz ∧ va_P (dC, dI) vwCl ([(o, Sum.inr (8, [Value.ref a_entry, Value.ref a_lineName, Value.ref a_columnName, Value.int v_goals, Value.int v_lines, Value.int v_columns, Value.long v_base])), (a_entry, Sum.inl (k_a_entry, 18, Sum.inr (Sum.inr (Sum.inr (Sum.inr (rows_of 18 R_a_entry))))))] ++ va_pl LP fp) U.heap ∧ va_K (dC, dI) vwCl [(k_a_entry, (FieldType.array FieldType.long)), (cI, FieldType.int), (cJ, FieldType.long)] U ∧ va_D (fun _ => True) ([(o, Sum.inr (8, [Value.ref a_entry, Value.ref a_lineName, Value.ref a_columnName, Value.int v_goals, Value.int v_lines, Value.int v_columns, Value.long v_base])), (a_entry, Sum.inl (k_a_entry, 18, Sum.inr (Sum.inr (Sum.inr (Sum.inr (rows_of 18 R_a_entry))))))] ++ va_pl LP fp))) (va_Qi (fun (r u : Int32) => u = r) (fun (r : Int32) t => iv r (-1) 1 ∧ va_P (dC, dI) vwCl ([(o, Sum.inr (8, [Value.ref a_entry, Value.ref a_lineName, Value.ref a_columnName, Value.int v_goals, Value.int v_lines, Value.int v_columns, Value.long v_base])), (a_entry, Sum.inl (k_a_entry, 18, Sum.inr (Sum.inr (Sum.inr (Sum.inr (rows_of 18 R_a_entry))))))] ++ va_pl LP fp) t.heap ∧ va_D (va_A ([(o, Sum.inr (8, [Value.ref a_entry, Value.ref a_lineName, Value.ref a_columnName, Value.int v_goals, Value.int v_lines, Value.int v_columns, Value.long v_base])), (a_entry, Sum.inl (k_a_entry, 18, Sum.inr (Sum.inr (Sum.inr (Sum.inr (rows_of 18 R_a_entry))))))] ++ va_pl LP fp) sz) ([(o, Sum.inr (8, [Value.ref a_entry, Value.ref a_lineName, Value.ref a_columnName, Value.int v_goals, Value.int v_lines, Value.int v_columns, Value.long v_base])), (a_entry, Sum.inl (k_a_entry, 18, Sum.inr (Sum.inr (Sum.inr (Sum.inr (rows_of 18 R_a_entry))))))] ++ va_pl LP fp)) (va_A ([(o, Sum.inr (8, [Value.ref a_entry, Value.ref a_lineName, Value.ref a_columnName, Value.int v_goals, Value.int v_lines, Value.int v_columns, Value.long v_base])), (a_entry, Sum.inl (k_a_entry, 18, Sum.inr (Sum.inr (Sum.inr (Sum.inr (rows_of 18 R_a_entry))))))] ++ va_pl LP fp) sz)) 0 0 (va_A ([(o, Sum.inr (8, [Value.ref a_entry, Value.ref a_lineName, Value.ref a_columnName, Value.int v_goals, Value.int v_lines, Value.int v_columns, Value.long v_base])), (a_entry, Sum.inl (k_a_entry, 18, Sum.inr (Sum.inr (Sum.inr (Sum.inr (rows_of 18 R_a_entry))))))] ++ va_pl LP fp) sz) := by
  refine Met.ofW (cc := cX8_compareRatios) (maxL := 13) (ret := (some .int)) pn_X8 rfl ?_
  intro p e s m args below meth c s₁ B hml hv
  obtain ⟨rfl, hsz, hP, hK, hD0⟩ := hv
  have hx := B.exec
  have hb := B.bytes
  have hr := B.returns
  have hts := atoms_spec (ws := wsX8_compareRatios) B.pre
  have hown : s.vm.findClass RX8 = some m.cls := findClass_of_methodNamed B.named
  have hlocks := B.notSynchronized
  subst hsz
  have hD := hD0.self (sz := s.heap.size)
  generalize hAe : va_A ([(o, Sum.inr (8, [Value.ref a_entry, Value.ref a_lineName, Value.ref a_columnName, Value.int v_goals, Value.int v_lines, Value.int v_columns, Value.long v_base])), (a_entry, Sum.inl (k_a_entry, 18, Sum.inr (Sum.inr (Sum.inr (Sum.inr (rows_of 18 R_a_entry))))))] ++ va_pl LP fp) s.heap.size = A at hD ⊢
  have hA : ∀ q : Nat, s.heap.size ≤ q → A q := fun q h => by rw [← hAe]; exact Or.inr h
  have hS : va_S A s.heap s.heap [] := va_S.rf
  have hP : va_P (dC, dI) vwCl ([(o, Sum.inr (8, [Value.ref a_entry, Value.ref a_lineName, Value.ref a_columnName, Value.int v_goals, Value.int v_lines, Value.int v_columns, Value.long v_base])), (a_entry, Sum.inl (k_a_entry, 18, Sum.inr (Sum.inr (Sum.inr (Sum.inr (rows_of 18 R_a_entry))))))] ++ va_pl LP fp) s.heap := hP
  have hl := lv_entry ([Value.ref o, Value.int p0, Value.int p1, Value.int p2]) (n := 13) (Nat.le_of_ble_eq_true rfl)
  rw [lg_entry_eq]
  generalize (lg_sl ([Value.ref o, Value.int p0, Value.int p1, Value.int p2]) ++ List.replicate (13 - (lg_sl ([Value.ref o, Value.int p0, Value.int p1, Value.int p2])).length) Slot.unset).toArray = ls at hl ⊢
  have hl : lv_has ls 13 [(0, Value.ref o), (1, Value.int p0), (2, Value.int p1), (3, Value.int p2)] := hl
  refine lv_aload_n hx hb dX8_compareRatios_0 rfl (lv_at hl 0 rfl) ?_
  refine va_get (D := (dC, dI)) (ci := 8) (v := Value.ref a_entry) (C := RX8) (T := TX8) (N := 7) hx hb hts iw_X8_compareRatios_X8 hown hK hP 0 rfl rfl 0 (by decide) (hts _ kk_X8_compareRatios_0) (fun _ h9 => h9) rfl dX8_compareRatios_1 ?_
  refine lv_iload_n hx hb dX8_compareRatios_4 rfl (lv_at hl 1 rfl) ?_
  have bp0 := hp0.u
  have hinrw1 : vp_in p0 18 := (vq_in p0 18 (by omega))
  refine va_aldA hx hb hK hP 1 0 rfl rfl hinrw1 dX8_compareRatios_5 ?_
  refine px_v (row_sel hinrw1) ?_
  obtain ⟨rw1, erw1⟩ : ∃ z : Nat, z = R_a_entry (Int32.toNatClampNeg p0) := ⟨_, rfl⟩
  rw [← erw1]
  have mrw1 : rw1 ∈ LP ∧ sh rw1 = 13 := by rw [erw1]; exact hRR_a_entry _ (vin_lt hinrw1)
  refine lv_iload_n hx hb dX8_compareRatios_6 rfl (lv_at hl 2 rfl) ?_
  have bp1 := hp1.u
  obtain ⟨gk2, hgk2⟩ := pok_13 (hfp) mrw1
  obtain ⟨kk3, hkk3⟩ := va_pl_get (X := [(o, Sum.inr (8, [Value.ref a_entry, Value.ref a_lineName, Value.ref a_columnName, Value.int v_goals, Value.int v_lines, Value.int v_columns, Value.long v_base])), (a_entry, Sum.inl (k_a_entry, 18, Sum.inr (Sum.inr (Sum.inr (Sum.inr (rows_of 18 R_a_entry))))))]) (f := fp) mrw1.1
  have qkk3 := hkk3
  rw [hgk2] at qkk3
  refine va_lald hx hb hK hP kk3 2 qkk3 rfl (vq_in p1 13 (by omega)) dX8_compareRatios_7 ?_
  refine lv_topl (fun y4 ey4 => ?_)
  refine lv_lstore (lv' := [(4, Value.long y4), (0, Value.ref o), (1, Value.int p0), (2, Value.int p1), (3, Value.int p2)]) hx hb dX8_compareRatios_8 hl (by decide) rfl (fun ls hl => ?_)
  refine lv_aload_n hx hb dX8_compareRatios_10 rfl (lv_at hl 1 rfl) ?_
  refine va_get (D := (dC, dI)) (ci := 8) (v := Value.ref a_entry) (C := RX8) (T := TX8) (N := 7) hx hb hts iw_X8_compareRatios_X8 hown hK hP 0 rfl rfl 0 (by decide) (hts _ kk_X8_compareRatios_0) (fun _ h9 => h9) rfl dX8_compareRatios_11 ?_
  refine lv_iload_n hx hb dX8_compareRatios_14 rfl (lv_at hl 2 rfl) ?_
  have hinrw5 : vp_in p0 18 := (vq_in p0 18 (by omega))
  refine va_aldA hx hb hK hP 1 0 rfl rfl hinrw5 dX8_compareRatios_15 ?_
  refine px_v (row_sel hinrw5) ?_
  obtain ⟨rw5, erw5⟩ : ∃ z : Nat, z = R_a_entry (Int32.toNatClampNeg p0) := ⟨_, rfl⟩
  rw [← erw5]
  have mrw5 : rw5 ∈ LP ∧ sh rw5 = 13 := by rw [erw5]; exact hRR_a_entry _ (vin_lt hinrw5)
  refine lv_iload_n hx hb dX8_compareRatios_16 rfl (lv_at hl 4 rfl) ?_
  have bp2 := hp2.u
  obtain ⟨gk6, hgk6⟩ := pok_13 (hfp) mrw5
  obtain ⟨kk7, hkk7⟩ := va_pl_get (X := [(o, Sum.inr (8, [Value.ref a_entry, Value.ref a_lineName, Value.ref a_columnName, Value.int v_goals, Value.int v_lines, Value.int v_columns, Value.long v_base])), (a_entry, Sum.inl (k_a_entry, 18, Sum.inr (Sum.inr (Sum.inr (Sum.inr (rows_of 18 R_a_entry))))))]) (f := fp) mrw5.1
  have qkk7 := hkk7
  rw [hgk6] at qkk7
  refine va_lald hx hb hK hP kk7 2 qkk7 rfl (vq_in p2 13 (by omega)) dX8_compareRatios_17 ?_
  refine lv_topl (fun y8 ey8 => ?_)
  refine lv_lstore (lv' := [(6, Value.long y8), (4, Value.long y4), (0, Value.ref o), (1, Value.int p0), (2, Value.int p1), (3, Value.int p2)]) hx hb dX8_compareRatios_18 hl (by decide) rfl (fun ls hl => ?_)
  refine lv_iconst (v := 0) hx hb dX8_compareRatios_20 (by decide) ?_
  refine lv_istore (lv' := [(8, Value.int 0), (6, Value.long y8), (4, Value.long y4), (0, Value.ref o), (1, Value.int p0), (2, Value.int p1), (3, Value.int p2)]) hx hb dX8_compareRatios_21 hl (by decide) rfl (fun ls hl => ?_)
  refine tl_loop (I := fun nn H locs ls => ∃ (v9 : Int32), nn = (18 - v9.toInt).toNat ∧ iv v9 0 18 ∧  va_P (dC, dI) vwCl ([(o, Sum.inr (8, [Value.ref a_entry, Value.ref a_lineName, Value.ref a_columnName, Value.int v_goals, Value.int v_lines, Value.int v_columns, Value.long v_base])), (a_entry, Sum.inl (k_a_entry, 18, Sum.inr (Sum.inr (Sum.inr (Sum.inr (rows_of 18 R_a_entry))))))] ++ va_pl LP fp) H ∧ va_D A ([(o, Sum.inr (8, [Value.ref a_entry, Value.ref a_lineName, Value.ref a_columnName, Value.int v_goals, Value.int v_lines, Value.int v_columns, Value.long v_base])), (a_entry, Sum.inl (k_a_entry, 18, Sum.inr (Sum.inr (Sum.inr (Sum.inr (rows_of 18 R_a_entry))))))] ++ va_pl LP fp) ∧ va_S A s.heap H locs ∧ lv_has ls 13 [(8, Value.int v9), (6, Value.long y8), (4, Value.long y4), (0, Value.ref o), (1, Value.int p0), (2, Value.int p1), (3, Value.int p2)]) ?_ ⟨0, rfl, (iv.m (by decide)), hP, hD, hS, lv_sub hl [0, 1, 2, 3, 4, 5, 6] rfl⟩
  clear hP hD hS hl
  intro nn23 H locs ls hI ih23
  obtain ⟨v9, hn23, hv9, hP, hD, hS, hl⟩ := hI
  have bv9 := hv9.u
  refine lv_iload hx hb dX8_compareRatios_23 (lv_at hl 0 rfl) ?_
  refine lv_aload_n hx hb dX8_compareRatios_25 rfl (lv_at hl 3 rfl) ?_
  refine va_get (D := (dC, dI)) (ci := 8) (v := Value.int v_goals) (C := RX8) (T := TX8) (N := 7) hx hb hts iw_X8_compareRatios_X8 hown hK hP 0 rfl rfl 3 (by decide) (hts _ kk_X8_compareRatios_1) (fun _ h9 => h9) rfl dX8_compareRatios_26 ?_
  have bv_goals := hv_goals.u
  refine lv_icmp_ge (tgt := 88) hx hb dX8_compareRatios_29 (by decide) (fun c10 => ?_) (fun c10 => ?_)
  · have c109 := i32_le c10 rfl rfl
    refine lv_iconst (v := 0) hx hb dX8_compareRatios_88 (by decide) ?_
    have hP9 := hP.part (cx := [(o, Sum.inr (8, [Value.ref a_entry, Value.ref a_lineName, Value.ref a_columnName, Value.int v_goals, Value.int v_lines, Value.int v_columns, Value.long v_base])), (a_entry, Sum.inl (k_a_entry, 18, Sum.inr (Sum.inr (Sum.inr (Sum.inr (rows_of 18 R_a_entry))))))]) [0, 1] rfl
    have hD9 := hD.part (cx := [(o, Sum.inr (8, [Value.ref a_entry, Value.ref a_lineName, Value.ref a_columnName, Value.int v_goals, Value.int v_lines, Value.int v_columns, Value.long v_base])), (a_entry, Sum.inl (k_a_entry, 18, Sum.inr (Sum.inr (Sum.inr (Sum.inr (rows_of 18 R_a_entry))))))]) [0, 1] (by decide) rfl
    exact W.iret (v := 0) hx hb hr (fun t ht hW => ⟨⟨0, 0, rfl, rfl, (iv.m (by decide)), by rw [ht]; exact hP9, hD9⟩, hS.F ht⟩) hS.2.2 dX8_compareRatios_89
  · have c109 := i32_nle c10 rfl rfl
    refine lv_aload_n hx hb dX8_compareRatios_32 rfl (lv_at hl 3 rfl) ?_
    refine va_get (D := (dC, dI)) (ci := 8) (v := Value.ref a_entry) (C := RX8) (T := TX8) (N := 7) hx hb hts iw_X8_compareRatios_X8 hown hK hP 0 rfl rfl 0 (by decide) (hts _ kk_X8_compareRatios_0) (fun _ h9 => h9) rfl dX8_compareRatios_33 ?_
    refine lv_iload hx hb dX8_compareRatios_36 (lv_at hl 0 rfl) ?_
    have hinrw11 : vp_in v9 18 := (vq_in v9 18 (by omega))
    refine va_aldA hx hb hK hP 1 0 rfl rfl hinrw11 dX8_compareRatios_38 ?_
    refine px_v (row_sel hinrw11) ?_
    obtain ⟨rw11, erw11⟩ : ∃ z : Nat, z = R_a_entry (Int32.toNatClampNeg v9) := ⟨_, rfl⟩
    rw [← erw11]
    have mrw11 : rw11 ∈ LP ∧ sh rw11 = 13 := by rw [erw11]; exact hRR_a_entry _ (vin_lt hinrw11)
    refine lv_iload_n hx hb dX8_compareRatios_39 rfl (lv_at hl 5 rfl) ?_
    obtain ⟨gk12, hgk12⟩ := pok_13 (hfp) mrw11
    obtain ⟨kk13, hkk13⟩ := va_pl_get (X := [(o, Sum.inr (8, [Value.ref a_entry, Value.ref a_lineName, Value.ref a_columnName, Value.int v_goals, Value.int v_lines, Value.int v_columns, Value.long v_base])), (a_entry, Sum.inl (k_a_entry, 18, Sum.inr (Sum.inr (Sum.inr (Sum.inr (rows_of 18 R_a_entry))))))]) (f := fp) mrw11.1
    have qkk13 := hkk13
    rw [hgk12] at qkk13
    refine va_lald hx hb hK hP kk13 2 qkk13 rfl (vq_in p1 13 (by omega)) dX8_compareRatios_40 ?_
    refine lv_topl (fun y14 ey14 => ?_)
    refine lv_lload hx hb dX8_compareRatios_41 (lv_at hl 1 rfl) ?_
    refine lv_lmul hx hb dX8_compareRatios_43 ?_
    refine lv_topl (fun y15 ey15 => ?_)
    refine lv_lstore (lv' := [(9, Value.long y15), (8, Value.int v9), (6, Value.long y8), (4, Value.long y4), (0, Value.ref o), (1, Value.int p0), (2, Value.int p1), (3, Value.int p2)]) hx hb dX8_compareRatios_44 hl (by decide) rfl (fun ls hl => ?_)
    refine lv_aload_n hx hb dX8_compareRatios_46 rfl (lv_at hl 4 rfl) ?_
    refine va_get (D := (dC, dI)) (ci := 8) (v := Value.ref a_entry) (C := RX8) (T := TX8) (N := 7) hx hb hts iw_X8_compareRatios_X8 hown hK hP 0 rfl rfl 0 (by decide) (hts _ kk_X8_compareRatios_0) (fun _ h9 => h9) rfl dX8_compareRatios_47 ?_
    refine lv_iload hx hb dX8_compareRatios_50 (lv_at hl 1 rfl) ?_
    have hinrw16 : vp_in v9 18 := (vq_in v9 18 (by omega))
    refine va_aldA hx hb hK hP 1 0 rfl rfl hinrw16 dX8_compareRatios_52 ?_
    refine px_v (row_sel hinrw16) ?_
    obtain ⟨rw16, erw16⟩ : ∃ z : Nat, z = R_a_entry (Int32.toNatClampNeg v9) := ⟨_, rfl⟩
    rw [← erw16]
    have mrw16 : rw16 ∈ LP ∧ sh rw16 = 13 := by rw [erw16]; exact hRR_a_entry _ (vin_lt hinrw16)
    refine lv_iload_n hx hb dX8_compareRatios_53 rfl (lv_at hl 7 rfl) ?_
    obtain ⟨gk17, hgk17⟩ := pok_13 (hfp) mrw16
    obtain ⟨kk18, hkk18⟩ := va_pl_get (X := [(o, Sum.inr (8, [Value.ref a_entry, Value.ref a_lineName, Value.ref a_columnName, Value.int v_goals, Value.int v_lines, Value.int v_columns, Value.long v_base])), (a_entry, Sum.inl (k_a_entry, 18, Sum.inr (Sum.inr (Sum.inr (Sum.inr (rows_of 18 R_a_entry))))))]) (f := fp) mrw16.1
    have qkk18 := hkk18
    rw [hgk17] at qkk18
    refine va_lald hx hb hK hP kk18 2 qkk18 rfl (vq_in p2 13 (by omega)) dX8_compareRatios_54 ?_
    refine lv_topl (fun y19 ey19 => ?_)
    refine lv_lload hx hb dX8_compareRatios_55 (lv_at hl 3 rfl) ?_
    refine lv_lmul hx hb dX8_compareRatios_57 ?_
    refine lv_topl (fun y20 ey20 => ?_)
    refine lv_lstore (lv' := [(11, Value.long y20), (9, Value.long y15), (8, Value.int v9), (6, Value.long y8), (4, Value.long y4), (0, Value.ref o), (1, Value.int p0), (2, Value.int p1), (3, Value.int p2)]) hx hb dX8_compareRatios_58 hl (by decide) rfl (fun ls hl => ?_)
    refine lv_lload hx hb dX8_compareRatios_60 (lv_at hl 1 rfl) ?_
    refine lv_lload hx hb dX8_compareRatios_62 (lv_at hl 0 rfl) ?_
    refine W.lcmp hx hb dX8_compareRatios_64 ?_
    refine lv_if_eq (tgt := 82) hx hb dX8_compareRatios_65 (by decide) (fun c21 => ?_) (fun c21 => ?_)
    · skip
      have c219 := lc_eq c21
      obtain ⟨x22, ex22⟩ : ∃ z : Int32, v9 + Int32.ofInt 1 = z := ⟨_, rfl⟩
      have tx22 := i32_inc ex22 rfl (by decide) (by omega) (by omega)
      refine lv_iinc (v := x22) (lv' := [(8, Value.int x22), (11, Value.long y20), (9, Value.long y15), (6, Value.long y8), (4, Value.long y4), (0, Value.ref o), (1, Value.int p0), (2, Value.int p1), (3, Value.int p2)]) hx hb dX8_compareRatios_82 hl (k := 2) rfl ex22 (by decide) rfl (fun ls hl => ?_)
      refine lv_goto (tgt := 23) hx hb dX8_compareRatios_85 (by decide) ?_
      exact ih23 _ _ _ _ (by omega) ⟨x22, rfl, (iv.m (by omega)), hP, hD, hS, lv_sub hl [0, 3, 4, 5, 6, 7, 8] rfl⟩
    · skip
      have c219 := lc_ne c21
      refine lv_lload hx hb dX8_compareRatios_68 (lv_at hl 1 rfl) ?_
      refine lv_lload hx hb dX8_compareRatios_70 (lv_at hl 0 rfl) ?_
      refine W.lcmp hx hb dX8_compareRatios_72 ?_
      refine lv_if_ge (tgt := 80) hx hb dX8_compareRatios_73 (by decide) (fun c23 => ?_) (fun c23 => ?_)
      · skip
        have c239 := lc_ge c23
        refine lv_iconst (v := 1) hx hb dX8_compareRatios_80 (by decide) ?_
        have hP9 := hP.part (cx := [(o, Sum.inr (8, [Value.ref a_entry, Value.ref a_lineName, Value.ref a_columnName, Value.int v_goals, Value.int v_lines, Value.int v_columns, Value.long v_base])), (a_entry, Sum.inl (k_a_entry, 18, Sum.inr (Sum.inr (Sum.inr (Sum.inr (rows_of 18 R_a_entry))))))]) [0, 1] rfl
        have hD9 := hD.part (cx := [(o, Sum.inr (8, [Value.ref a_entry, Value.ref a_lineName, Value.ref a_columnName, Value.int v_goals, Value.int v_lines, Value.int v_columns, Value.long v_base])), (a_entry, Sum.inl (k_a_entry, 18, Sum.inr (Sum.inr (Sum.inr (Sum.inr (rows_of 18 R_a_entry))))))]) [0, 1] (by decide) rfl
        exact W.iret (v := 1) hx hb hr (fun t ht hW => ⟨⟨1, 1, rfl, rfl, (iv.m (by decide)), by rw [ht]; exact hP9, hD9⟩, hS.F ht⟩) hS.2.2 dX8_compareRatios_81
      · skip
        have c239 := lc_nge c23
        refine lv_iconst (v := (-1)) hx hb dX8_compareRatios_76 (by decide) ?_
        refine lv_goto (tgt := 81) hx hb dX8_compareRatios_77 (by decide) ?_
        have hP9 := hP.part (cx := [(o, Sum.inr (8, [Value.ref a_entry, Value.ref a_lineName, Value.ref a_columnName, Value.int v_goals, Value.int v_lines, Value.int v_columns, Value.long v_base])), (a_entry, Sum.inl (k_a_entry, 18, Sum.inr (Sum.inr (Sum.inr (Sum.inr (rows_of 18 R_a_entry))))))]) [0, 1] rfl
        have hD9 := hD.part (cx := [(o, Sum.inr (8, [Value.ref a_entry, Value.ref a_lineName, Value.ref a_columnName, Value.int v_goals, Value.int v_lines, Value.int v_columns, Value.long v_base])), (a_entry, Sum.inl (k_a_entry, 18, Sum.inr (Sum.inr (Sum.inr (Sum.inr (rows_of 18 R_a_entry))))))]) [0, 1] (by decide) rfl
        exact W.iret (v := (-1)) hx hb hr (fun t ht hW => ⟨⟨(-1), (-1), rfl, rfl, (iv.m (by decide)), by rw [ht]; exact hP9, hD9⟩, hS.F ht⟩) hS.2.2 dX8_compareRatios_81

set_option maxHeartbeats 4000000 in
set_option maxRecDepth 100000 in
theorem ct_X8_columnFor (l : Launch) (dC : Nat → ClassId) (dI : Nat → Nat → Nat) (o : Nat) (p0 : Int32) (a_entry : Nat) (a_lineName : Nat) (a_columnName : Nat) (v_goals : Int32) (v_lines : Int32) (v_columns : Int32) (v_base : Int64) (k_a_entry : ClassId) (R_a_entry : Nat → Nat) (k_a_columnName : ClassId) (f_a_columnName : Nat → Int32) (LP : List Nat) (sh : Nat → Nat) (fp : Nat → va_E) (cI : ClassId) (cJ : ClassId) (hp0 : iv p0 0 17) (hv_goals : iv v_goals 0 18) (hv_columns : iv v_columns 0 12) (hf_a_columnName : ivf f_a_columnName 0 99) (hfp : pok cI cJ LP sh fp) (hRR_a_entry : ∀ i : Nat, i < 18 → R_a_entry i ∈ LP ∧ sh (R_a_entry i) = 13) (sz : Nat) : Met l yX8_columnFor wsX8_columnFor ({ frames := 1, cells := 0, slots := 0, locals := 32 }) (va_Pc [Value.ref o, Value.int p0] (fun U => U.heap.size = sz ∧ va_P (dC, dI) vwCl ([(o, Sum.inr (8, [Value.ref a_entry, Value.ref a_lineName, Value.ref a_columnName, Value.int v_goals, Value.int v_lines, Value.int v_columns, Value.long v_base])), (a_entry, Sum.inl (k_a_entry, 18, Sum.inr (Sum.inr (Sum.inr (Sum.inr (rows_of 18 R_a_entry)))))), (a_columnName, Sum.inl (k_a_columnName, 13, Sum.inl f_a_columnName))] ++ va_pl LP fp) U.heap ∧ va_K (dC, dI) vwCl [(k_a_entry, (FieldType.array FieldType.long)), (k_a_columnName, FieldType.int), (cI, FieldType.int), (cJ, FieldType.long)] U ∧ va_D (fun _ => True) ([(o, Sum.inr (8, [Value.ref a_entry, Value.ref a_lineName, Value.ref a_columnName, Value.int v_goals, Value.int v_lines, Value.int v_columns, Value.long v_base])), (a_entry, Sum.inl (k_a_entry, 18, Sum.inr (Sum.inr (Sum.inr (Sum.inr (rows_of 18 R_a_entry)))))), (a_columnName, Sum.inl (k_a_columnName, 13, Sum.inl f_a_columnName))] ++ va_pl LP fp))) (va_Qi (fun (r u : Int32) => u = r) (fun (r : Int32) t => iv r (-1) 12 ∧ (r.toInt = -1 ∨ 1 ≤ r.toInt) ∧ va_P (dC, dI) vwCl ([(o, Sum.inr (8, [Value.ref a_entry, Value.ref a_lineName, Value.ref a_columnName, Value.int v_goals, Value.int v_lines, Value.int v_columns, Value.long v_base])), (a_entry, Sum.inl (k_a_entry, 18, Sum.inr (Sum.inr (Sum.inr (Sum.inr (rows_of 18 R_a_entry)))))), (a_columnName, Sum.inl (k_a_columnName, 13, Sum.inl f_a_columnName))] ++ va_pl LP fp) t.heap ∧ va_D (va_A ([(o, Sum.inr (8, [Value.ref a_entry, Value.ref a_lineName, Value.ref a_columnName, Value.int v_goals, Value.int v_lines, Value.int v_columns, Value.long v_base])), (a_entry, Sum.inl (k_a_entry, 18, Sum.inr (Sum.inr (Sum.inr (Sum.inr (rows_of 18 R_a_entry)))))), (a_columnName, Sum.inl (k_a_columnName, 13, Sum.inl f_a_columnName))] ++ va_pl LP fp) sz) ([(o, Sum.inr (8, [Value.ref a_entry, Value.ref a_lineName, Value.ref a_columnName, Value.int v_goals, Value.int v_lines, Value.int v_columns, Value.long v_base])), (a_entry, Sum.inl (k_a_entry, 18, Sum.inr (Sum.inr (Sum.inr (Sum.inr (rows_of 18 R_a_entry)))))), (a_columnName, Sum.inl (k_a_columnName, 13, Sum.inl f_a_columnName))] ++ va_pl LP fp)) (va_A ([(o, Sum.inr (8, [Value.ref a_entry, Value.ref a_lineName, Value.ref a_columnName, Value.int v_goals, Value.int v_lines, Value.int v_columns, Value.long v_base])), (a_entry, Sum.inl (k_a_entry, 18, Sum.inr (Sum.inr (Sum.inr (Sum.inr (rows_of 18 R_a_entry)))))), (a_columnName, Sum.inl (k_a_columnName, 13, Sum.inl f_a_columnName))] ++ va_pl LP fp) sz)) 0 0 (va_A ([(o, Sum.inr (8, [Value.ref a_entry, Value.ref a_lineName, Value.ref a_columnName, Value.int v_goals, Value.int v_lines, Value.int v_columns, Value.long v_base])), (a_entry, Sum.inl (k_a_entry, 18, Sum.inr (Sum.inr (Sum.inr (Sum.inr (rows_of 18 R_a_entry)))))), (a_columnName, Sum.inl (k_a_columnName, 13, Sum.inl f_a_columnName))] ++ va_pl LP fp) sz) := by
  refine Met.ofW (cc := cX8_columnFor) (maxL := 5) (ret := (some .int)) pn_X8 rfl ?_
  intro p e s m args below meth c s₁ B hml hv
  obtain ⟨rfl, hsz, hP, hK, hD0⟩ := hv
  have hx := B.exec
  have hb := B.bytes
  have hr := B.returns
  have hts := atoms_spec (ws := wsX8_columnFor) B.pre
  have hown : s.vm.findClass RX8 = some m.cls := findClass_of_methodNamed B.named
  have hlocks := B.notSynchronized
  subst hsz
  have hD := hD0.self (sz := s.heap.size)
  generalize hAe : va_A ([(o, Sum.inr (8, [Value.ref a_entry, Value.ref a_lineName, Value.ref a_columnName, Value.int v_goals, Value.int v_lines, Value.int v_columns, Value.long v_base])), (a_entry, Sum.inl (k_a_entry, 18, Sum.inr (Sum.inr (Sum.inr (Sum.inr (rows_of 18 R_a_entry)))))), (a_columnName, Sum.inl (k_a_columnName, 13, Sum.inl f_a_columnName))] ++ va_pl LP fp) s.heap.size = A at hD ⊢
  have hA : ∀ q : Nat, s.heap.size ≤ q → A q := fun q h => by rw [← hAe]; exact Or.inr h
  have hS : va_S A s.heap s.heap [] := va_S.rf
  have hP : va_P (dC, dI) vwCl ([(o, Sum.inr (8, [Value.ref a_entry, Value.ref a_lineName, Value.ref a_columnName, Value.int v_goals, Value.int v_lines, Value.int v_columns, Value.long v_base])), (a_entry, Sum.inl (k_a_entry, 18, Sum.inr (Sum.inr (Sum.inr (Sum.inr (rows_of 18 R_a_entry)))))), (a_columnName, Sum.inl (k_a_columnName, 13, Sum.inl f_a_columnName))] ++ va_pl LP fp) s.heap := hP
  have hl := lv_entry ([Value.ref o, Value.int p0]) (n := 5) (Nat.le_of_ble_eq_true rfl)
  rw [lg_entry_eq]
  generalize (lg_sl ([Value.ref o, Value.int p0]) ++ List.replicate (5 - (lg_sl ([Value.ref o, Value.int p0])).length) Slot.unset).toArray = ls at hl ⊢
  have hl : lv_has ls 5 [(0, Value.ref o), (1, Value.int p0)] := hl
  refine lv_iconst (v := (-1)) hx hb dX8_columnFor_0 (by decide) ?_
  refine lv_istore_n (lv' := [(2, Value.int (-1)), (0, Value.ref o), (1, Value.int p0)]) hx hb dX8_columnFor_1 rfl hl (by decide) rfl (fun ls hl => ?_)
  refine lv_iconst (v := 1) hx hb dX8_columnFor_2 (by decide) ?_
  refine lv_istore_n (lv' := [(3, Value.int 1), (2, Value.int (-1)), (0, Value.ref o), (1, Value.int p0)]) hx hb dX8_columnFor_3 rfl hl (by decide) rfl (fun ls hl => ?_)
  refine tl_loop (I := fun nn H locs ls => ∃ (v1 : Int32) (v2 : Int32), nn = (18 - v1.toInt).toNat ∧ iv v1 1 18 ∧ iv v2 (-1) 12 ∧ (v2.toInt = -1 ∨ 1 ≤ v2.toInt) ∧  va_P (dC, dI) vwCl ([(o, Sum.inr (8, [Value.ref a_entry, Value.ref a_lineName, Value.ref a_columnName, Value.int v_goals, Value.int v_lines, Value.int v_columns, Value.long v_base])), (a_entry, Sum.inl (k_a_entry, 18, Sum.inr (Sum.inr (Sum.inr (Sum.inr (rows_of 18 R_a_entry)))))), (a_columnName, Sum.inl (k_a_columnName, 13, Sum.inl f_a_columnName))] ++ va_pl LP fp) H ∧ va_D A ([(o, Sum.inr (8, [Value.ref a_entry, Value.ref a_lineName, Value.ref a_columnName, Value.int v_goals, Value.int v_lines, Value.int v_columns, Value.long v_base])), (a_entry, Sum.inl (k_a_entry, 18, Sum.inr (Sum.inr (Sum.inr (Sum.inr (rows_of 18 R_a_entry)))))), (a_columnName, Sum.inl (k_a_columnName, 13, Sum.inl f_a_columnName))] ++ va_pl LP fp) ∧ va_S A s.heap H locs ∧ lv_has ls 5 [(3, Value.int v1), (2, Value.int v2), (0, Value.ref o), (1, Value.int p0)]) ?_ ⟨1, (-1), rfl, (iv.m (by decide)), (iv.m (by decide)), (by first | omega | (simp; done) | grind), hP, hD, hS, lv_sub hl [0, 1, 2, 3] rfl⟩
  clear hP hD hS hl
  intro nn4 H locs ls hI ih4
  obtain ⟨v1, v2, hn4, hv1, hv2, hi4_0, hP, hD, hS, hl⟩ := hI
  have bv1 := hv1.u
  have bv2 := hv2.u
  refine lv_iload_n hx hb dX8_columnFor_4 rfl (lv_at hl 0 rfl) ?_
  refine lv_aload_n hx hb dX8_columnFor_5 rfl (lv_at hl 2 rfl) ?_
  refine va_get (D := (dC, dI)) (ci := 8) (v := Value.int v_columns) (C := RX8) (T := TX8) (N := 7) hx hb hts iw_X8_columnFor_X8 hown hK hP 0 rfl rfl 5 (by decide) (hts _ kk_X8_columnFor_0) (fun _ h9 => h9) rfl dX8_columnFor_6 ?_
  have bv_columns := hv_columns.u
  refine lv_icmp_gt (tgt := 78) hx hb dX8_columnFor_9 (by decide) (fun c3 => ?_) (fun c3 => ?_)
  · have c39 := i32_lt c3 rfl rfl
    refine lv_iload_n hx hb dX8_columnFor_78 rfl (lv_at hl 1 rfl) ?_
    have hP9 := hP.part (cx := [(o, Sum.inr (8, [Value.ref a_entry, Value.ref a_lineName, Value.ref a_columnName, Value.int v_goals, Value.int v_lines, Value.int v_columns, Value.long v_base])), (a_entry, Sum.inl (k_a_entry, 18, Sum.inr (Sum.inr (Sum.inr (Sum.inr (rows_of 18 R_a_entry)))))), (a_columnName, Sum.inl (k_a_columnName, 13, Sum.inl f_a_columnName))]) [0, 1, 2] rfl
    have hD9 := hD.part (cx := [(o, Sum.inr (8, [Value.ref a_entry, Value.ref a_lineName, Value.ref a_columnName, Value.int v_goals, Value.int v_lines, Value.int v_columns, Value.long v_base])), (a_entry, Sum.inl (k_a_entry, 18, Sum.inr (Sum.inr (Sum.inr (Sum.inr (rows_of 18 R_a_entry)))))), (a_columnName, Sum.inl (k_a_columnName, 13, Sum.inl f_a_columnName))]) [0, 1, 2] (by decide) rfl
    exact W.iret (v := v2) hx hb hr (fun t ht hW => ⟨⟨v2, v2, rfl, rfl, hv2, (by omega), by rw [ht]; exact hP9, hD9⟩, hS.F ht⟩) hS.2.2 dX8_columnFor_79
  · have c39 := i32_nlt c3 rfl rfl
    refine lv_aload_n hx hb dX8_columnFor_12 rfl (lv_at hl 2 rfl) ?_
    refine va_get (D := (dC, dI)) (ci := 8) (v := Value.ref a_entry) (C := RX8) (T := TX8) (N := 7) hx hb hts iw_X8_columnFor_X8 hown hK hP 0 rfl rfl 0 (by decide) (hts _ kk_X8_columnFor_1) (fun _ h9 => h9) rfl dX8_columnFor_13 ?_
    refine lv_iload_n hx hb dX8_columnFor_16 rfl (lv_at hl 3 rfl) ?_
    have bp0 := hp0.u
    have hinrw4 : vp_in p0 18 := (vq_in p0 18 (by omega))
    refine va_aldA hx hb hK hP 1 0 rfl rfl hinrw4 dX8_columnFor_17 ?_
    refine px_v (row_sel hinrw4) ?_
    obtain ⟨rw4, erw4⟩ : ∃ z : Nat, z = R_a_entry (Int32.toNatClampNeg p0) := ⟨_, rfl⟩
    rw [← erw4]
    have mrw4 : rw4 ∈ LP ∧ sh rw4 = 13 := by rw [erw4]; exact hRR_a_entry _ (vin_lt hinrw4)
    refine lv_iload_n hx hb dX8_columnFor_18 rfl (lv_at hl 0 rfl) ?_
    obtain ⟨gk5, hgk5⟩ := pok_13 (hfp) mrw4
    obtain ⟨kk6, hkk6⟩ := va_pl_get (X := [(o, Sum.inr (8, [Value.ref a_entry, Value.ref a_lineName, Value.ref a_columnName, Value.int v_goals, Value.int v_lines, Value.int v_columns, Value.long v_base])), (a_entry, Sum.inl (k_a_entry, 18, Sum.inr (Sum.inr (Sum.inr (Sum.inr (rows_of 18 R_a_entry)))))), (a_columnName, Sum.inl (k_a_columnName, 13, Sum.inl f_a_columnName))]) (f := fp) mrw4.1
    have qkk6 := hkk6
    rw [hgk5] at qkk6
    refine va_lald hx hb hK hP kk6 3 qkk6 rfl (vq_in v1 13 (by omega)) dX8_columnFor_19 ?_
    refine lv_topl (fun y7 ey7 => ?_)
    refine lv_lconst (v := 0) hx hb dX8_columnFor_20 (by decide) ?_
    refine W.lcmp hx hb dX8_columnFor_21 ?_
    refine lv_if_lt (tgt := 28) hx hb dX8_columnFor_22 (by decide) (fun c8 => ?_) (fun c8 => ?_)
    · skip
      have c89 := lc_lt c8
      have by7 : (-9223372036854775808 : Int) ≤ y7.toInt ∧ y7.toInt ≤ 9223372036854775807 := ⟨i64_min _, i64_max _⟩
      have dy7 := i64_lt c89 rfl (show (0 : Int64).toInt = 0 by decide)
      have hy7 : jv y7 (-9223372036854775808) (-1) := jv.m (by omega)
      refine lv_iload_n hx hb dX8_columnFor_28 rfl (lv_at hl 1 rfl) ?_
      refine lv_if_ge (tgt := 36) hx hb dX8_columnFor_29 (by decide) (fun c9 => ?_) (fun c9 => ?_)
      · have c99 := i32_le c9 (show (0 : Int32).toInt = 0 by decide) rfl
        refine lv_aload_n hx hb dX8_columnFor_36 rfl (lv_at hl 2 rfl) ?_
        refine lv_iload_n hx hb dX8_columnFor_37 rfl (lv_at hl 3 rfl) ?_
        refine lv_iload_n hx hb dX8_columnFor_38 rfl (lv_at hl 0 rfl) ?_
        refine lv_iload_n hx hb dX8_columnFor_39 rfl (lv_at hl 1 rfl) ?_
        have hPc := hP.part (cx := [(o, Sum.inr (8, [Value.ref a_entry, Value.ref a_lineName, Value.ref a_columnName, Value.int v_goals, Value.int v_lines, Value.int v_columns, Value.long v_base])), (a_entry, Sum.inl (k_a_entry, 18, Sum.inr (Sum.inr (Sum.inr (Sum.inr (rows_of 18 R_a_entry))))))]) [0, 1] rfl
        have hDc := hD.part (cx := [(o, Sum.inr (8, [Value.ref a_entry, Value.ref a_lineName, Value.ref a_columnName, Value.int v_goals, Value.int v_lines, Value.int v_columns, Value.long v_base])), (a_entry, Sum.inl (k_a_entry, 18, Sum.inr (Sum.inr (Sum.inr (Sum.inr (rows_of 18 R_a_entry))))))]) [0, 1] (by decide) rfl
        have hKc := hK.sub (tys' := [(k_a_entry, (FieldType.array FieldType.long)), (cI, FieldType.int), (cJ, FieldType.long)]) [0, 2, 3] rfl
        have hFc := va_freeP (cx := [(o, Sum.inr (8, [Value.ref a_entry, Value.ref a_lineName, Value.ref a_columnName, Value.int v_goals, Value.int v_lines, Value.int v_columns, Value.long v_base])), (a_entry, Sum.inl (k_a_entry, 18, Sum.inr (Sum.inr (Sum.inr (Sum.inr (rows_of 18 R_a_entry))))))]) hD hS hA [0, 1] rfl
        refine va_calli (va_runV (As := [Value.int p0, Value.int v1, Value.int v2]) (rest := []) ⟨hx, hb, hml, hown, hts⟩ (ct_X8_compareRatios l dC dI o p0 v1 v2 a_entry a_lineName a_columnName v_goals v_lines v_columns v_base k_a_entry R_a_entry LP sh fp cI cJ hp0 (iv.m (by omega)) (iv.m (by omega)) hv_goals hfp hRR_a_entry H.size) (cwV 3 hts gX8_columnFor_X8_compareRatios rfl rfl rfl ⟨rfl, cn_X8.1, cn_X8.2, ds_10⟩ ⟨Nat.le_of_ble_eq_true rfl, Nat.le_of_ble_eq_true rfl⟩) ⟨fun a U g mk q => by obtain ⟨q0, q1, qP, qK, qD⟩ := q; exact ⟨q0, q1, qP, va_K.moved (u := U) (U := U.calling g mk a) (Vm.Alike.refl U.vm) qK, qD⟩, va_recv hKc hPc (ci := 8) (q0 := 0) rfl rfl, fun U hU hW => ⟨rfl, by rw [hU], by rw [hU]; exact hPc, va_K.moved hW.alike hKc, hDc.weaken (fun _ _ _ _ => trivial)⟩⟩ rfl rfl hl.1 rfl (lv_room (Nat.le_of_ble_eq_true rfl)) dX8_columnFor_40 ⟨Nat.le_of_ble_eq_true rfl, Nat.le_of_ble_eq_true rfl⟩) hS (fun q _ h => hFc q h) hFc (fun r10 u t H1 locs ht hvm hw hB hz1 hk1 hS => ?_)
        have hw : r10 = u := hw.symm
        subst hw
        obtain ⟨hr10, hP1, hD1⟩ := hB
        rw [ht] at hP1
        obtain ⟨hP, hD⟩ := va_joinP (X := [(o, Sum.inr (8, [Value.ref a_entry, Value.ref a_lineName, Value.ref a_columnName, Value.int v_goals, Value.int v_lines, Value.int v_columns, Value.long v_base])), (a_entry, Sum.inl (k_a_entry, 18, Sum.inr (Sum.inr (Sum.inr (Sum.inr (rows_of 18 R_a_entry)))))), (a_columnName, Sum.inl (k_a_columnName, 13, Sum.inl f_a_columnName))]) (cx := [(o, Sum.inr (8, [Value.ref a_entry, Value.ref a_lineName, Value.ref a_columnName, Value.int v_goals, Value.int v_lines, Value.int v_columns, Value.long v_base])), (a_entry, Sum.inl (k_a_entry, 18, Sum.inr (Sum.inr (Sum.inr (Sum.inr (rows_of 18 R_a_entry))))))]) (wr := [(a_columnName, Sum.inl (k_a_columnName, 13, Sum.inl f_a_columnName))]) (rx := [(o, Sum.inr (8, [Value.ref a_entry, Value.ref a_lineName, Value.ref a_columnName, Value.int v_goals, Value.int v_lines, Value.int v_columns, Value.long v_base])), (a_entry, Sum.inl (k_a_entry, 18, Sum.inr (Sum.inr (Sum.inr (Sum.inr (rows_of 18 R_a_entry))))))]) hP hD [0, 1] [2] rfl rfl (by decide) (by decide) hk1 hFc hP1 hD1
        clear hPc hDc hKc hFc hP1 hD1 hk1 hz1
        generalize H1 = H at hP hS ⊢
        have hP : va_P (dC, dI) vwCl ([(a_columnName, Sum.inl (k_a_columnName, 13, Sum.inl f_a_columnName)), (o, Sum.inr (8, [Value.ref a_entry, Value.ref a_lineName, Value.ref a_columnName, Value.int v_goals, Value.int v_lines, Value.int v_columns, Value.long v_base])), (a_entry, Sum.inl (k_a_entry, 18, Sum.inr (Sum.inr (Sum.inr (Sum.inr (rows_of 18 R_a_entry))))))] ++ va_pl LP fp) H := hP
        have hD : va_D A ([(a_columnName, Sum.inl (k_a_columnName, 13, Sum.inl f_a_columnName)), (o, Sum.inr (8, [Value.ref a_entry, Value.ref a_lineName, Value.ref a_columnName, Value.int v_goals, Value.int v_lines, Value.int v_columns, Value.long v_base])), (a_entry, Sum.inl (k_a_entry, 18, Sum.inr (Sum.inr (Sum.inr (Sum.inr (rows_of 18 R_a_entry))))))] ++ va_pl LP fp) := hD
        refine W.widen (k := 0) (n := 0) (by decide) (by decide) ?_
        refine lv_istore (lv' := [(4, Value.int r10), (3, Value.int v1), (2, Value.int v2), (0, Value.ref o), (1, Value.int p0)]) hx hb dX8_columnFor_43 hl (by decide) rfl (fun ls hl => ?_)
        refine lv_iload hx hb dX8_columnFor_45 (lv_at hl 0 rfl) ?_
        have br10 := hr10.u
        refine lv_if_lt (tgt := 70) hx hb dX8_columnFor_47 (by decide) (fun c11 => ?_) (fun c11 => ?_)
        · have c119 := i32_lt c11 rfl (show (0 : Int32).toInt = 0 by decide)
          refine lv_iload_n hx hb dX8_columnFor_70 rfl (lv_at hl 1 rfl) ?_
          refine lv_istore_n (lv' := [(2, Value.int v1), (4, Value.int r10), (3, Value.int v1), (0, Value.ref o), (1, Value.int p0)]) hx hb dX8_columnFor_71 rfl hl (by decide) rfl (fun ls hl => ?_)
          obtain ⟨x12, ex12⟩ : ∃ z : Int32, v1 + Int32.ofInt 1 = z := ⟨_, rfl⟩
          have tx12 := i32_inc ex12 rfl (by decide) (by omega) (by omega)
          refine lv_iinc (v := x12) (lv' := [(3, Value.int x12), (2, Value.int v1), (4, Value.int r10), (0, Value.ref o), (1, Value.int p0)]) hx hb dX8_columnFor_72 hl (k := 2) rfl ex12 (by decide) rfl (fun ls hl => ?_)
          refine lv_goto (tgt := 4) hx hb dX8_columnFor_75 (by decide) ?_
          exact ih4 _ _ _ _ (by omega) ⟨x12, v1, rfl, (iv.m (by omega)), (iv.m (by omega)), (by first | omega | (simp; done) | grind), hP.part [1, 2, 0] rfl, hD.part [1, 2, 0] (by decide) rfl, hS, lv_sub hl [0, 1, 3, 4] rfl⟩
        · have c119 := i32_nlt c11 rfl (show (0 : Int32).toInt = 0 by decide)
          refine lv_iload hx hb dX8_columnFor_50 (lv_at hl 0 rfl) ?_
          refine lv_if_ne (tgt := 72) hx hb dX8_columnFor_52 (by decide) (fun c13 => ?_) (fun c13 => ?_)
          · have c139 := i32_ne c13 rfl (show (0 : Int32).toInt = 0 by decide)
            obtain ⟨x14, ex14⟩ : ∃ z : Int32, v1 + Int32.ofInt 1 = z := ⟨_, rfl⟩
            have tx14 := i32_inc ex14 rfl (by decide) (by omega) (by omega)
            refine lv_iinc (v := x14) (lv' := [(3, Value.int x14), (4, Value.int r10), (2, Value.int v2), (0, Value.ref o), (1, Value.int p0)]) hx hb dX8_columnFor_72 hl (k := 1) rfl ex14 (by decide) rfl (fun ls hl => ?_)
            refine lv_goto (tgt := 4) hx hb dX8_columnFor_75 (by decide) ?_
            exact ih4 _ _ _ _ (by omega) ⟨x14, v2, rfl, (iv.m (by omega)), (iv.m (by omega)), (by first | omega | (simp; done) | grind), hP.part [1, 2, 0] rfl, hD.part [1, 2, 0] (by decide) rfl, hS, lv_sub hl [0, 2, 3, 4] rfl⟩
          · have c139 := i32_eq c13 rfl (show (0 : Int32).toInt = 0 by decide)
            refine lv_aload_n hx hb dX8_columnFor_55 rfl (lv_at hl 3 rfl) ?_
            refine va_get (D := (dC, dI)) (ci := 8) (v := Value.ref a_columnName) (C := RX8) (T := TX8) (N := 7) hx hb hts iw_X8_columnFor_X8 hown hK hP 1 rfl rfl 2 (by decide) (hts _ kk_X8_columnFor_2) (fun _ h9 => h9) rfl dX8_columnFor_56 ?_
            refine lv_iload_n hx hb dX8_columnFor_59 rfl (lv_at hl 1 rfl) ?_
            refine va_iald hx hb hK hP 0 1 rfl rfl (vq_in v1 13 (by omega)) dX8_columnFor_60 ?_
            refine lv_topi (fun x15 ex15 => ?_)
            have hx15 : iv x15 0 99 := iv.of (hf_a_columnName _) ex15
            refine lv_aload_n hx hb dX8_columnFor_61 rfl (lv_at hl 3 rfl) ?_
            refine va_get (D := (dC, dI)) (ci := 8) (v := Value.ref a_columnName) (C := RX8) (T := TX8) (N := 7) hx hb hts iw_X8_columnFor_X8 hown hK hP 1 rfl rfl 2 (by decide) (hts _ kk_X8_columnFor_2) (fun _ h9 => h9) rfl dX8_columnFor_62 ?_
            refine lv_iload_n hx hb dX8_columnFor_65 rfl (lv_at hl 2 rfl) ?_
            refine va_iald hx hb hK hP 0 1 rfl rfl (vq_in v2 13 (by omega)) dX8_columnFor_66 ?_
            refine lv_topi (fun x16 ex16 => ?_)
            have hx16 : iv x16 0 99 := iv.of (hf_a_columnName _) ex16
            have bx15 := hx15.u
            have bx16 := hx16.u
            refine lv_icmp_ge (tgt := 72) hx hb dX8_columnFor_67 (by decide) (fun c17 => ?_) (fun c17 => ?_)
            · have c179 := i32_le c17 rfl rfl
              obtain ⟨x18, ex18⟩ : ∃ z : Int32, v1 + Int32.ofInt 1 = z := ⟨_, rfl⟩
              have tx18 := i32_inc ex18 rfl (by decide) (by omega) (by omega)
              refine lv_iinc (v := x18) (lv' := [(3, Value.int x18), (4, Value.int r10), (2, Value.int v2), (0, Value.ref o), (1, Value.int p0)]) hx hb dX8_columnFor_72 hl (k := 1) rfl ex18 (by decide) rfl (fun ls hl => ?_)
              refine lv_goto (tgt := 4) hx hb dX8_columnFor_75 (by decide) ?_
              exact ih4 _ _ _ _ (by omega) ⟨x18, v2, rfl, (iv.m (by omega)), (iv.m (by omega)), (by first | omega | (simp; done) | grind), hP.part [1, 2, 0] rfl, hD.part [1, 2, 0] (by decide) rfl, hS, lv_sub hl [0, 2, 3, 4] rfl⟩
            · have c179 := i32_nle c17 rfl rfl
              refine lv_iload_n hx hb dX8_columnFor_70 rfl (lv_at hl 1 rfl) ?_
              refine lv_istore_n (lv' := [(2, Value.int v1), (4, Value.int r10), (3, Value.int v1), (0, Value.ref o), (1, Value.int p0)]) hx hb dX8_columnFor_71 rfl hl (by decide) rfl (fun ls hl => ?_)
              obtain ⟨x19, ex19⟩ : ∃ z : Int32, v1 + Int32.ofInt 1 = z := ⟨_, rfl⟩
              have tx19 := i32_inc ex19 rfl (by decide) (by omega) (by omega)
              refine lv_iinc (v := x19) (lv' := [(3, Value.int x19), (2, Value.int v1), (4, Value.int r10), (0, Value.ref o), (1, Value.int p0)]) hx hb dX8_columnFor_72 hl (k := 2) rfl ex19 (by decide) rfl (fun ls hl => ?_)
              refine lv_goto (tgt := 4) hx hb dX8_columnFor_75 (by decide) ?_
              exact ih4 _ _ _ _ (by omega) ⟨x19, v1, rfl, (iv.m (by omega)), (iv.m (by omega)), (by first | omega | (simp; done) | grind), hP.part [1, 2, 0] rfl, hD.part [1, 2, 0] (by decide) rfl, hS, lv_sub hl [0, 1, 3, 4] rfl⟩
      · have c99 := i32_nle c9 (show (0 : Int32).toInt = 0 by decide) rfl
        refine lv_iconst (v := (-1)) hx hb dX8_columnFor_32 (by decide) ?_
        refine lv_goto (tgt := 43) hx hb dX8_columnFor_33 (by decide) ?_
        refine lv_istore (lv' := [(4, Value.int (-1)), (3, Value.int v1), (2, Value.int v2), (0, Value.ref o), (1, Value.int p0)]) hx hb dX8_columnFor_43 hl (by decide) rfl (fun ls hl => ?_)
        refine lv_iload hx hb dX8_columnFor_45 (lv_at hl 0 rfl) ?_
        refine lv_if_lt (tgt := 70) hx hb dX8_columnFor_47 (by decide) (fun _ => ?_) (fun cz => absurd cz (by decide))
        refine lv_iload_n hx hb dX8_columnFor_70 rfl (lv_at hl 1 rfl) ?_
        refine lv_istore_n (lv' := [(2, Value.int v1), (4, Value.int (-1)), (3, Value.int v1), (0, Value.ref o), (1, Value.int p0)]) hx hb dX8_columnFor_71 rfl hl (by decide) rfl (fun ls hl => ?_)
        obtain ⟨x20, ex20⟩ : ∃ z : Int32, v1 + Int32.ofInt 1 = z := ⟨_, rfl⟩
        have tx20 := i32_inc ex20 rfl (by decide) (by omega) (by omega)
        refine lv_iinc (v := x20) (lv' := [(3, Value.int x20), (2, Value.int v1), (4, Value.int (-1)), (0, Value.ref o), (1, Value.int p0)]) hx hb dX8_columnFor_72 hl (k := 2) rfl ex20 (by decide) rfl (fun ls hl => ?_)
        refine lv_goto (tgt := 4) hx hb dX8_columnFor_75 (by decide) ?_
        exact ih4 _ _ _ _ (by omega) ⟨x20, v1, rfl, (iv.m (by omega)), (iv.m (by omega)), (by first | omega | (simp; done) | grind), hP, hD, hS, lv_sub hl [0, 1, 3, 4] rfl⟩
    · skip
      have c89 := lc_nlt c8
      have by7 : (-9223372036854775808 : Int) ≤ y7.toInt ∧ y7.toInt ≤ 9223372036854775807 := ⟨i64_min _, i64_max _⟩
      have dy7 := i64_le c89 (show (0 : Int64).toInt = 0 by decide) rfl
      have hy7 : jv y7 0 9223372036854775807 := jv.m (by omega)
      refine lv_goto (tgt := 72) hx hb dX8_columnFor_25 (by decide) ?_
      obtain ⟨x21, ex21⟩ : ∃ z : Int32, v1 + Int32.ofInt 1 = z := ⟨_, rfl⟩
      have tx21 := i32_inc ex21 rfl (by decide) (by omega) (by omega)
      refine lv_iinc (v := x21) (lv' := [(3, Value.int x21), (2, Value.int v2), (0, Value.ref o), (1, Value.int p0)]) hx hb dX8_columnFor_72 hl (k := 0) rfl ex21 (by decide) rfl (fun ls hl => ?_)
      refine lv_goto (tgt := 4) hx hb dX8_columnFor_75 (by decide) ?_
      exact ih4 _ _ _ _ (by omega) ⟨x21, v2, rfl, (iv.m (by omega)), hv2, (by first | omega | (simp; done) | grind), hP, hD, hS, lv_sub hl [0, 1, 2, 3] rfl⟩

set_option maxHeartbeats 4000000 in
set_option maxRecDepth 100000 in
theorem ct_X8_changeLine (l : Launch) (dC : Nat → ClassId) (dI : Nat → Nat → Nat) (o : Nat) (p0 : Nat) (p1 : Nat) (p2 : Int32) (p3 : Int64) (a_entry : Nat) (a_lineName : Nat) (a_columnName : Nat) (v_goals : Int32) (v_lines : Int32) (v_columns : Int32) (v_base : Int64) (LP : List Nat) (sh : Nat → Nat) (fp : Nat → va_E) (cI : ClassId) (cJ : ClassId) (hp2 : iv p2 1 12) (hv_columns : iv v_columns 0 12) (hfp : pok cI cJ LP sh fp) (mp0 : p0 ∈ LP ∧ sh p0 = 13) (mp1 : p1 ∈ LP ∧ sh p1 = 13) (sz : Nat) : Met l yX8_changeLine wsX8_changeLine ({ frames := 0, cells := 0, slots := 0, locals := 0 }) (va_Pc [Value.ref o, Value.ref p0, Value.ref p1, Value.int p2, Value.long p3] (fun U => U.heap.size = sz ∧ va_P (dC, dI) vwCl ([(o, Sum.inr (8, [Value.ref a_entry, Value.ref a_lineName, Value.ref a_columnName, Value.int v_goals, Value.int v_lines, Value.int v_columns, Value.long v_base]))] ++ va_pl LP fp) U.heap ∧ va_K (dC, dI) vwCl [(cI, FieldType.int), (cJ, FieldType.long)] U ∧ va_D (fun _ => True) ([(o, Sum.inr (8, [Value.ref a_entry, Value.ref a_lineName, Value.ref a_columnName, Value.int v_goals, Value.int v_lines, Value.int v_columns, Value.long v_base]))] ++ va_pl LP fp))) (va_Qv (fun _ : Unit => True) (fun _ t => ∃ (e_fp : Nat → va_E), pok cI cJ LP sh e_fp ∧ va_P (dC, dI) vwCl ([(o, Sum.inr (8, [Value.ref a_entry, Value.ref a_lineName, Value.ref a_columnName, Value.int v_goals, Value.int v_lines, Value.int v_columns, Value.long v_base]))] ++ va_pl LP e_fp) t.heap ∧ va_D (va_A ([(o, Sum.inr (8, [Value.ref a_entry, Value.ref a_lineName, Value.ref a_columnName, Value.int v_goals, Value.int v_lines, Value.int v_columns, Value.long v_base]))] ++ va_pl LP fp) sz) ([(o, Sum.inr (8, [Value.ref a_entry, Value.ref a_lineName, Value.ref a_columnName, Value.int v_goals, Value.int v_lines, Value.int v_columns, Value.long v_base]))] ++ va_pl LP e_fp)) (va_A ([(o, Sum.inr (8, [Value.ref a_entry, Value.ref a_lineName, Value.ref a_columnName, Value.int v_goals, Value.int v_lines, Value.int v_columns, Value.long v_base]))] ++ va_pl LP fp) sz)) 0 0 (va_A ([(o, Sum.inr (8, [Value.ref a_entry, Value.ref a_lineName, Value.ref a_columnName, Value.int v_goals, Value.int v_lines, Value.int v_columns, Value.long v_base]))] ++ va_pl LP fp) sz) := by
  refine Met.ofW (cc := cX8_changeLine) (maxL := 9) (ret := none) pn_X8 rfl ?_
  intro p e s m args below meth c s₁ B hml hv
  obtain ⟨rfl, hsz, hP, hK, hD0⟩ := hv
  have hx := B.exec
  have hb := B.bytes
  have hr := B.returns
  have hts := atoms_spec (ws := wsX8_changeLine) B.pre
  have hown : s.vm.findClass RX8 = some m.cls := findClass_of_methodNamed B.named
  have hlocks := B.notSynchronized
  subst hsz
  have hD := hD0.self (sz := s.heap.size)
  generalize hAe : va_A ([(o, Sum.inr (8, [Value.ref a_entry, Value.ref a_lineName, Value.ref a_columnName, Value.int v_goals, Value.int v_lines, Value.int v_columns, Value.long v_base]))] ++ va_pl LP fp) s.heap.size = A at hD ⊢
  have hA : ∀ q : Nat, s.heap.size ≤ q → A q := fun q h => by rw [← hAe]; exact Or.inr h
  have hS : va_S A s.heap s.heap [] := va_S.rf
  have hP : va_P (dC, dI) vwCl ([(o, Sum.inr (8, [Value.ref a_entry, Value.ref a_lineName, Value.ref a_columnName, Value.int v_goals, Value.int v_lines, Value.int v_columns, Value.long v_base]))] ++ va_pl LP fp) s.heap := hP
  have hl := lv_entry ([Value.ref o, Value.ref p0, Value.ref p1, Value.int p2, Value.long p3]) (n := 9) (Nat.le_of_ble_eq_true rfl)
  rw [lg_entry_eq]
  generalize (lg_sl ([Value.ref o, Value.ref p0, Value.ref p1, Value.int p2, Value.long p3]) ++ List.replicate (9 - (lg_sl ([Value.ref o, Value.ref p0, Value.ref p1, Value.int p2, Value.long p3])).length) Slot.unset).toArray = ls at hl ⊢
  have hl : lv_has ls 9 [(0, Value.ref o), (1, Value.ref p0), (2, Value.ref p1), (3, Value.int p2), (4, Value.long p3)] := hl
  refine lv_aload_n hx hb dX8_changeLine_0 rfl (lv_at hl 1 rfl) ?_
  refine lv_iload_n hx hb dX8_changeLine_1 rfl (lv_at hl 3 rfl) ?_
  have bp2 := hp2.u
  obtain ⟨gk1, hgk1⟩ := pok_13 (hfp) mp0
  obtain ⟨kk2, hkk2⟩ := va_pl_get (X := [(o, Sum.inr (8, [Value.ref a_entry, Value.ref a_lineName, Value.ref a_columnName, Value.int v_goals, Value.int v_lines, Value.int v_columns, Value.long v_base]))]) (f := fp) mp0.1
  have qkk2 := hkk2
  rw [hgk1] at qkk2
  refine va_lald hx hb hK hP kk2 1 qkk2 rfl (vq_in p2 13 (by omega)) dX8_changeLine_2 ?_
  refine lv_topl (fun y3 ey3 => ?_)
  refine lv_lstore (lv' := [(6, Value.long y3), (0, Value.ref o), (1, Value.ref p0), (2, Value.ref p1), (3, Value.int p2), (4, Value.long p3)]) hx hb dX8_changeLine_3 hl (by decide) rfl (fun ls hl => ?_)
  refine lv_iconst (v := 0) hx hb dX8_changeLine_5 (by decide) ?_
  refine lv_istore (lv' := [(8, Value.int 0), (6, Value.long y3), (0, Value.ref o), (1, Value.ref p0), (2, Value.ref p1), (3, Value.int p2), (4, Value.long p3)]) hx hb dX8_changeLine_6 hl (by decide) rfl (fun ls hl => ?_)
  refine tl_loop (I := fun nn H locs ls => ∃ (v4 : Int32) (f5 : Nat → va_E), nn = (18 - v4.toInt).toNat ∧ iv v4 0 18 ∧ pok cI cJ LP sh f5 ∧  va_P (dC, dI) vwCl ([(o, Sum.inr (8, [Value.ref a_entry, Value.ref a_lineName, Value.ref a_columnName, Value.int v_goals, Value.int v_lines, Value.int v_columns, Value.long v_base]))] ++ va_pl LP f5) H ∧ va_D A ([(o, Sum.inr (8, [Value.ref a_entry, Value.ref a_lineName, Value.ref a_columnName, Value.int v_goals, Value.int v_lines, Value.int v_columns, Value.long v_base]))] ++ va_pl LP f5) ∧ va_S A s.heap H locs ∧ lv_has ls 9 [(8, Value.int v4), (6, Value.long y3), (0, Value.ref o), (1, Value.ref p0), (2, Value.ref p1), (3, Value.int p2), (4, Value.long p3)]) ?_ ⟨0, fp, rfl, (iv.m (by decide)), hfp, hP, hD, hS, lv_sub hl [0, 1, 2, 3, 4, 5, 6] rfl⟩
  clear hP hD hS hl
  intro nn8 H locs ls hI ih8
  obtain ⟨v4, f5, hn8, hv4, hf5, hP, hD, hS, hl⟩ := hI
  have bv4 := hv4.u
  refine lv_iload hx hb dX8_changeLine_8 (lv_at hl 0 rfl) ?_
  refine lv_aload_n hx hb dX8_changeLine_10 rfl (lv_at hl 2 rfl) ?_
  refine va_get (D := (dC, dI)) (ci := 8) (v := Value.int v_columns) (C := RX8) (T := TX8) (N := 7) hx hb hts iw_X8_changeLine_X8 hown hK hP 0 rfl rfl 5 (by decide) (hts _ kk_X8_changeLine_0) (fun _ h9 => h9) rfl dX8_changeLine_11 ?_
  have bv_columns := hv_columns.u
  refine lv_icmp_gt (tgt := 62) hx hb dX8_changeLine_14 (by decide) (fun c6 => ?_) (fun c6 => ?_)
  · have c69 := i32_lt c6 rfl rfl
    have hP9 := hP.part (cx := [(o, Sum.inr (8, [Value.ref a_entry, Value.ref a_lineName, Value.ref a_columnName, Value.int v_goals, Value.int v_lines, Value.int v_columns, Value.long v_base]))]) [0] rfl
    have hD9 := hD.part (cx := [(o, Sum.inr (8, [Value.ref a_entry, Value.ref a_lineName, Value.ref a_columnName, Value.int v_goals, Value.int v_lines, Value.int v_columns, Value.long v_base]))]) [0] (by decide) rfl
    exact W.vret hx hb hr (fun t ht hW => ⟨⟨(), rfl, trivial, f5, hf5, by rw [ht]; exact hP9, hD9⟩, hS.F ht⟩) hS.2.2 dX8_changeLine_62
  · have c69 := i32_nlt c6 rfl rfl
    refine lv_iload hx hb dX8_changeLine_17 (lv_at hl 0 rfl) ?_
    refine lv_iload_n hx hb dX8_changeLine_19 rfl (lv_at hl 5 rfl) ?_
    refine lv_icmp_eq (tgt := 56) hx hb dX8_changeLine_20 (by decide) (fun c7 => ?_) (fun c7 => ?_)
    · have c79 := i32_eq c7 rfl rfl
      obtain ⟨x8, ex8⟩ : ∃ z : Int32, v4 + Int32.ofInt 1 = z := ⟨_, rfl⟩
      have tx8 := i32_inc ex8 rfl (by decide) (by omega) (by omega)
      refine lv_iinc (v := x8) (lv' := [(8, Value.int x8), (6, Value.long y3), (0, Value.ref o), (1, Value.ref p0), (2, Value.ref p1), (3, Value.int p2), (4, Value.long p3)]) hx hb dX8_changeLine_56 hl (k := 0) rfl ex8 (by decide) rfl (fun ls hl => ?_)
      refine lv_goto (tgt := 8) hx hb dX8_changeLine_59 (by decide) ?_
      exact ih8 _ _ _ _ (by omega) ⟨x8, f5, rfl, (iv.m (by omega)), hf5, hP, hD, hS, lv_sub hl [0, 1, 2, 3, 4, 5, 6] rfl⟩
    · have c79 := i32_ne c7 rfl rfl
      refine lv_aload_n hx hb dX8_changeLine_23 rfl (lv_at hl 2 rfl) ?_
      refine va_get (D := (dC, dI)) (ci := 8) (v := Value.long v_base) (C := RX8) (T := TX8) (N := 7) hx hb hts iw_X8_changeLine_X8 hown hK hP 0 rfl rfl 6 (by decide) (hts _ kk_X8_changeLine_1) (fun _ h9 => h9) rfl dX8_changeLine_24 ?_
      refine lv_lconst (v := 0) hx hb dX8_changeLine_27 (by decide) ?_
      refine W.lcmp hx hb dX8_changeLine_28 ?_
      refine lv_if_eq (tgt := 56) hx hb dX8_changeLine_29 (by decide) (fun c9 => ?_) (fun c9 => ?_)
      · skip
        have c99 := lc_eq c9
        obtain ⟨x10, ex10⟩ : ∃ z : Int32, v4 + Int32.ofInt 1 = z := ⟨_, rfl⟩
        have tx10 := i32_inc ex10 rfl (by decide) (by omega) (by omega)
        refine lv_iinc (v := x10) (lv' := [(8, Value.int x10), (6, Value.long y3), (0, Value.ref o), (1, Value.ref p0), (2, Value.ref p1), (3, Value.int p2), (4, Value.long p3)]) hx hb dX8_changeLine_56 hl (k := 0) rfl ex10 (by decide) rfl (fun ls hl => ?_)
        refine lv_goto (tgt := 8) hx hb dX8_changeLine_59 (by decide) ?_
        exact ih8 _ _ _ _ (by omega) ⟨x10, f5, rfl, (iv.m (by omega)), hf5, hP, hD, hS, lv_sub hl [0, 1, 2, 3, 4, 5, 6] rfl⟩
      · skip
        have c99 := lc_ne c9
        refine lv_aload_n hx hb dX8_changeLine_32 rfl (lv_at hl 3 rfl) ?_
        refine lv_iload hx hb dX8_changeLine_33 (lv_at hl 0 rfl) ?_
        refine lv_lload hx hb dX8_changeLine_35 (lv_at hl 6 rfl) ?_
        refine lv_aload_n hx hb dX8_changeLine_37 rfl (lv_at hl 3 rfl) ?_
        refine lv_iload hx hb dX8_changeLine_38 (lv_at hl 0 rfl) ?_
        obtain ⟨gk11, hgk11⟩ := pok_13 (hf5) mp0
        obtain ⟨kk12, hkk12⟩ := va_pl_get (X := [(o, Sum.inr (8, [Value.ref a_entry, Value.ref a_lineName, Value.ref a_columnName, Value.int v_goals, Value.int v_lines, Value.int v_columns, Value.long v_base]))]) (f := f5) mp0.1
        have qkk12 := hkk12
        rw [hgk11] at qkk12
        refine va_lald hx hb hK hP kk12 1 qkk12 rfl (vq_in v4 13 (by omega)) dX8_changeLine_40 ?_
        refine lv_topl (fun y13 ey13 => ?_)
        refine lv_lmul hx hb dX8_changeLine_41 ?_
        refine lv_topl (fun y14 ey14 => ?_)
        refine lv_lload hx hb dX8_changeLine_42 (lv_at hl 1 rfl) ?_
        refine lv_aload_n hx hb dX8_changeLine_44 rfl (lv_at hl 4 rfl) ?_
        refine lv_iload hx hb dX8_changeLine_45 (lv_at hl 0 rfl) ?_
        obtain ⟨gk15, hgk15⟩ := pok_13 (hf5) mp1
        obtain ⟨kk16, hkk16⟩ := va_pl_get (X := [(o, Sum.inr (8, [Value.ref a_entry, Value.ref a_lineName, Value.ref a_columnName, Value.int v_goals, Value.int v_lines, Value.int v_columns, Value.long v_base]))]) (f := f5) mp1.1
        have qkk16 := hkk16
        rw [hgk15] at qkk16
        refine va_lald hx hb hK hP kk16 1 qkk16 rfl (vq_in v4 13 (by omega)) dX8_changeLine_47 ?_
        refine lv_topl (fun y17 ey17 => ?_)
        refine lv_lmul hx hb dX8_changeLine_48 ?_
        refine lv_topl (fun y18 ey18 => ?_)
        refine lv_ladd hx hb dX8_changeLine_49 ?_
        refine lv_topl (fun y19 ey19 => ?_)
        refine lv_aload_n hx hb dX8_changeLine_50 rfl (lv_at hl 2 rfl) ?_
        refine va_get (D := (dC, dI)) (ci := 8) (v := Value.long v_base) (C := RX8) (T := TX8) (N := 7) hx hb hts iw_X8_changeLine_X8 hown hK hP 0 rfl rfl 6 (by decide) (hts _ kk_X8_changeLine_1) (fun _ h9 => h9) rfl dX8_changeLine_51 ?_
        refine lv_ldiv hx hb dX8_changeLine_54 c99 ?_
        refine lv_topl (fun y20 ey20 => ?_)
        obtain ⟨gk21, hgk21⟩ := pok_13 (hf5) mp0
        obtain ⟨kk22, hkk22⟩ := va_pl_get (X := [(o, Sum.inr (8, [Value.ref a_entry, Value.ref a_lineName, Value.ref a_columnName, Value.int v_goals, Value.int v_lines, Value.int v_columns, Value.long v_base]))]) (f := f5) mp0.1
        have qkk22 := hkk22
        rw [hgk21] at qkk22
        have hDo := hD
        refine va_last hx hb hK hP hD hS kk22 1 qkk22 rfl (vq_in v4 13 (by omega)) dX8_changeLine_55 (fun H locs hP hD hS => ?_)
        rw [va_pl_set hDo mp0.1 hkk22] at hP hD
        have hfp23 := pok_up13 hf5 mp0 (Int32.toNatClampNeg v4) y20 gk21
        generalize va_up f5 p0 _ = fp23 at hP hD hfp23
        have hP : va_P (dC, dI) vwCl ([(o, Sum.inr (8, [Value.ref a_entry, Value.ref a_lineName, Value.ref a_columnName, Value.int v_goals, Value.int v_lines, Value.int v_columns, Value.long v_base]))] ++ va_pl LP fp23) H := hP
        have hD : va_D A ([(o, Sum.inr (8, [Value.ref a_entry, Value.ref a_lineName, Value.ref a_columnName, Value.int v_goals, Value.int v_lines, Value.int v_columns, Value.long v_base]))] ++ va_pl LP fp23) := hD
        obtain ⟨x24, ex24⟩ : ∃ z : Int32, v4 + Int32.ofInt 1 = z := ⟨_, rfl⟩
        have tx24 := i32_inc ex24 rfl (by decide) (by omega) (by omega)
        refine lv_iinc (v := x24) (lv' := [(8, Value.int x24), (6, Value.long y3), (0, Value.ref o), (1, Value.ref p0), (2, Value.ref p1), (3, Value.int p2), (4, Value.long p3)]) hx hb dX8_changeLine_56 hl (k := 0) rfl ex24 (by decide) rfl (fun ls hl => ?_)
        refine lv_goto (tgt := 8) hx hb dX8_changeLine_59 (by decide) ?_
        exact ih8 _ _ _ _ (by omega) ⟨x24, fp23, rfl, (iv.m (by omega)), hfp23, hP, hD, hS, lv_sub hl [0, 1, 2, 3, 4, 5, 6] rfl⟩

set_option maxHeartbeats 4000000 in
set_option maxRecDepth 100000 in
theorem ct_X8_pivot (l : Launch) (dC : Nat → ClassId) (dI : Nat → Nat → Nat) (o : Nat) (p0 : Int32) (p1 : Int32) (a_entry : Nat) (a_lineName : Nat) (a_columnName : Nat) (v_goals : Int32) (v_lines : Int32) (v_columns : Int32) (v_base : Int64) (k_a_entry : ClassId) (R_a_entry : Nat → Nat) (k_a_lineName : ClassId) (f_a_lineName : Nat → Int32) (k_a_columnName : ClassId) (f_a_columnName : Nat → Int32) (LP : List Nat) (sh : Nat → Nat) (fp : Nat → va_E) (cI : ClassId) (cJ : ClassId) (hp0 : iv p0 0 17) (hp1 : iv p1 1 12) (hv_lines : iv v_lines 0 18) (hv_columns : iv v_columns 0 12) (hf_a_lineName : ivf f_a_lineName 0 99) (hf_a_columnName : ivf f_a_columnName 0 99) (hfp : pok cI cJ LP sh fp) (hRR_a_entry : ∀ i : Nat, i < 18 → R_a_entry i ∈ LP ∧ sh (R_a_entry i) = 13) (sz : Nat) : Met l yX8_pivot wsX8_pivot ({ frames := 1, cells := 0, slots := 0, locals := 28 }) (va_Pc [Value.ref o, Value.int p0, Value.int p1] (fun U => U.heap.size = sz ∧ va_P (dC, dI) vwCl ([(o, Sum.inr (8, [Value.ref a_entry, Value.ref a_lineName, Value.ref a_columnName, Value.int v_goals, Value.int v_lines, Value.int v_columns, Value.long v_base])), (a_entry, Sum.inl (k_a_entry, 18, Sum.inr (Sum.inr (Sum.inr (Sum.inr (rows_of 18 R_a_entry)))))), (a_lineName, Sum.inl (k_a_lineName, 18, Sum.inl f_a_lineName)), (a_columnName, Sum.inl (k_a_columnName, 13, Sum.inl f_a_columnName))] ++ va_pl LP fp) U.heap ∧ va_K (dC, dI) vwCl [(k_a_entry, (FieldType.array FieldType.long)), (k_a_lineName, FieldType.int), (k_a_columnName, FieldType.int), (cI, FieldType.int), (cJ, FieldType.long)] U ∧ va_D (fun _ => True) ([(o, Sum.inr (8, [Value.ref a_entry, Value.ref a_lineName, Value.ref a_columnName, Value.int v_goals, Value.int v_lines, Value.int v_columns, Value.long v_base])), (a_entry, Sum.inl (k_a_entry, 18, Sum.inr (Sum.inr (Sum.inr (Sum.inr (rows_of 18 R_a_entry)))))), (a_lineName, Sum.inl (k_a_lineName, 18, Sum.inl f_a_lineName)), (a_columnName, Sum.inl (k_a_columnName, 13, Sum.inl f_a_columnName))] ++ va_pl LP fp))) (va_Qv (fun _ : Unit => True) (fun _ t => ∃ (e_v_base : Int64) (e_f_a_lineName : Nat → Int32) (e_f_a_columnName : Nat → Int32) (e_fp : Nat → va_E), ivf e_f_a_lineName 0 99 ∧ ivf e_f_a_columnName 0 99 ∧ pok cI cJ LP sh e_fp ∧ va_P (dC, dI) vwCl ([(o, Sum.inr (8, [Value.ref a_entry, Value.ref a_lineName, Value.ref a_columnName, Value.int v_goals, Value.int v_lines, Value.int v_columns, Value.long e_v_base])), (a_entry, Sum.inl (k_a_entry, 18, Sum.inr (Sum.inr (Sum.inr (Sum.inr (rows_of 18 R_a_entry)))))), (a_lineName, Sum.inl (k_a_lineName, 18, Sum.inl e_f_a_lineName)), (a_columnName, Sum.inl (k_a_columnName, 13, Sum.inl e_f_a_columnName))] ++ va_pl LP e_fp) t.heap ∧ va_D (va_A ([(o, Sum.inr (8, [Value.ref a_entry, Value.ref a_lineName, Value.ref a_columnName, Value.int v_goals, Value.int v_lines, Value.int v_columns, Value.long v_base])), (a_entry, Sum.inl (k_a_entry, 18, Sum.inr (Sum.inr (Sum.inr (Sum.inr (rows_of 18 R_a_entry)))))), (a_lineName, Sum.inl (k_a_lineName, 18, Sum.inl f_a_lineName)), (a_columnName, Sum.inl (k_a_columnName, 13, Sum.inl f_a_columnName))] ++ va_pl LP fp) sz) ([(o, Sum.inr (8, [Value.ref a_entry, Value.ref a_lineName, Value.ref a_columnName, Value.int v_goals, Value.int v_lines, Value.int v_columns, Value.long e_v_base])), (a_entry, Sum.inl (k_a_entry, 18, Sum.inr (Sum.inr (Sum.inr (Sum.inr (rows_of 18 R_a_entry)))))), (a_lineName, Sum.inl (k_a_lineName, 18, Sum.inl e_f_a_lineName)), (a_columnName, Sum.inl (k_a_columnName, 13, Sum.inl e_f_a_columnName))] ++ va_pl LP e_fp)) (va_A ([(o, Sum.inr (8, [Value.ref a_entry, Value.ref a_lineName, Value.ref a_columnName, Value.int v_goals, Value.int v_lines, Value.int v_columns, Value.long v_base])), (a_entry, Sum.inl (k_a_entry, 18, Sum.inr (Sum.inr (Sum.inr (Sum.inr (rows_of 18 R_a_entry)))))), (a_lineName, Sum.inl (k_a_lineName, 18, Sum.inl f_a_lineName)), (a_columnName, Sum.inl (k_a_columnName, 13, Sum.inl f_a_columnName))] ++ va_pl LP fp) sz)) 0 0 (va_A ([(o, Sum.inr (8, [Value.ref a_entry, Value.ref a_lineName, Value.ref a_columnName, Value.int v_goals, Value.int v_lines, Value.int v_columns, Value.long v_base])), (a_entry, Sum.inl (k_a_entry, 18, Sum.inr (Sum.inr (Sum.inr (Sum.inr (rows_of 18 R_a_entry)))))), (a_lineName, Sum.inl (k_a_lineName, 18, Sum.inl f_a_lineName)), (a_columnName, Sum.inl (k_a_columnName, 13, Sum.inl f_a_columnName))] ++ va_pl LP fp) sz) := by
  refine Met.ofW (cc := cX8_pivot) (maxL := 7) (ret := none) pn_X8 rfl ?_
  intro p e s m args below meth c s₁ B hml hv
  obtain ⟨rfl, hsz, hP, hK, hD0⟩ := hv
  have hx := B.exec
  have hb := B.bytes
  have hr := B.returns
  have hts := atoms_spec (ws := wsX8_pivot) B.pre
  have hown : s.vm.findClass RX8 = some m.cls := findClass_of_methodNamed B.named
  have hlocks := B.notSynchronized
  subst hsz
  have hD := hD0.self (sz := s.heap.size)
  generalize hAe : va_A ([(o, Sum.inr (8, [Value.ref a_entry, Value.ref a_lineName, Value.ref a_columnName, Value.int v_goals, Value.int v_lines, Value.int v_columns, Value.long v_base])), (a_entry, Sum.inl (k_a_entry, 18, Sum.inr (Sum.inr (Sum.inr (Sum.inr (rows_of 18 R_a_entry)))))), (a_lineName, Sum.inl (k_a_lineName, 18, Sum.inl f_a_lineName)), (a_columnName, Sum.inl (k_a_columnName, 13, Sum.inl f_a_columnName))] ++ va_pl LP fp) s.heap.size = A at hD ⊢
  have hA : ∀ q : Nat, s.heap.size ≤ q → A q := fun q h => by rw [← hAe]; exact Or.inr h
  have hS : va_S A s.heap s.heap [] := va_S.rf
  have hP : va_P (dC, dI) vwCl ([(o, Sum.inr (8, [Value.ref a_entry, Value.ref a_lineName, Value.ref a_columnName, Value.int v_goals, Value.int v_lines, Value.int v_columns, Value.long v_base])), (a_entry, Sum.inl (k_a_entry, 18, Sum.inr (Sum.inr (Sum.inr (Sum.inr (rows_of 18 R_a_entry)))))), (a_lineName, Sum.inl (k_a_lineName, 18, Sum.inl f_a_lineName)), (a_columnName, Sum.inl (k_a_columnName, 13, Sum.inl f_a_columnName))] ++ va_pl LP fp) s.heap := hP
  have hl := lv_entry ([Value.ref o, Value.int p0, Value.int p1]) (n := 7) (Nat.le_of_ble_eq_true rfl)
  rw [lg_entry_eq]
  generalize (lg_sl ([Value.ref o, Value.int p0, Value.int p1]) ++ List.replicate (7 - (lg_sl ([Value.ref o, Value.int p0, Value.int p1])).length) Slot.unset).toArray = ls at hl ⊢
  have hl : lv_has ls 7 [(0, Value.ref o), (1, Value.int p0), (2, Value.int p1)] := hl
  refine lv_aload_n hx hb dX8_pivot_0 rfl (lv_at hl 0 rfl) ?_
  refine va_get (D := (dC, dI)) (ci := 8) (v := Value.ref a_entry) (C := RX8) (T := TX8) (N := 7) hx hb hts iw_X8_pivot_X8 hown hK hP 0 rfl rfl 0 (by decide) (hts _ kk_X8_pivot_0) (fun _ h9 => h9) rfl dX8_pivot_1 ?_
  refine lv_iload_n hx hb dX8_pivot_4 rfl (lv_at hl 1 rfl) ?_
  have bp0 := hp0.u
  have hinrw1 : vp_in p0 18 := (vq_in p0 18 (by omega))
  refine va_aldA hx hb hK hP 1 0 rfl rfl hinrw1 dX8_pivot_5 ?_
  refine px_v (row_sel hinrw1) ?_
  obtain ⟨rw1, erw1⟩ : ∃ z : Nat, z = R_a_entry (Int32.toNatClampNeg p0) := ⟨_, rfl⟩
  rw [← erw1]
  have mrw1 : rw1 ∈ LP ∧ sh rw1 = 13 := by rw [erw1]; exact hRR_a_entry _ (vin_lt hinrw1)
  refine lv_astore_n (lv' := [(3, Value.ref rw1), (0, Value.ref o), (1, Value.int p0), (2, Value.int p1)]) hx hb dX8_pivot_6 rfl hl (by decide) rfl (fun ls hl => ?_)
  refine lv_aload_n hx hb dX8_pivot_7 rfl (lv_at hl 0 rfl) ?_
  refine lv_iload_n hx hb dX8_pivot_8 rfl (lv_at hl 3 rfl) ?_
  have bp1 := hp1.u
  obtain ⟨gk2, hgk2⟩ := pok_13 (hfp) mrw1
  obtain ⟨kk3, hkk3⟩ := va_pl_get (X := [(o, Sum.inr (8, [Value.ref a_entry, Value.ref a_lineName, Value.ref a_columnName, Value.int v_goals, Value.int v_lines, Value.int v_columns, Value.long v_base])), (a_entry, Sum.inl (k_a_entry, 18, Sum.inr (Sum.inr (Sum.inr (Sum.inr (rows_of 18 R_a_entry)))))), (a_lineName, Sum.inl (k_a_lineName, 18, Sum.inl f_a_lineName)), (a_columnName, Sum.inl (k_a_columnName, 13, Sum.inl f_a_columnName))]) (f := fp) mrw1.1
  have qkk3 := hkk3
  rw [hgk2] at qkk3
  refine va_lald hx hb hK hP kk3 4 qkk3 rfl (vq_in p1 13 (by omega)) dX8_pivot_9 ?_
  refine lv_topl (fun y4 ey4 => ?_)
  refine lv_lneg hx hb dX8_pivot_10 ?_
  refine lv_topl (fun y5 ey5 => ?_)
  refine lv_lstore (lv' := [(4, Value.long y5), (3, Value.ref rw1), (0, Value.ref o), (1, Value.int p0), (2, Value.int p1)]) hx hb dX8_pivot_11 hl (by decide) rfl (fun ls hl => ?_)
  refine lv_lload hx hb dX8_pivot_13 (lv_at hl 0 rfl) ?_
  refine lv_lconst (v := 1) hx hb dX8_pivot_15 (by decide) ?_
  refine W.lcmp hx hb dX8_pivot_16 ?_
  refine lv_if_lt (tgt := 29) hx hb dX8_pivot_17 (by decide) (fun c6 => ?_) (fun c6 => ?_)
  · skip
    have c69 := lc_lt c6
    have by5 : (-9223372036854775808 : Int) ≤ y5.toInt ∧ y5.toInt ≤ 9223372036854775807 := ⟨i64_min _, i64_max _⟩
    have dy5 := i64_lt c69 rfl (show (1 : Int64).toInt = 1 by decide)
    have hy5 : jv y5 (-9223372036854775808) 0 := jv.m (by omega)
    have hP9 := hP.part (cx := [(o, Sum.inr (8, [Value.ref a_entry, Value.ref a_lineName, Value.ref a_columnName, Value.int v_goals, Value.int v_lines, Value.int v_columns, Value.long v_base])), (a_entry, Sum.inl (k_a_entry, 18, Sum.inr (Sum.inr (Sum.inr (Sum.inr (rows_of 18 R_a_entry)))))), (a_lineName, Sum.inl (k_a_lineName, 18, Sum.inl f_a_lineName)), (a_columnName, Sum.inl (k_a_columnName, 13, Sum.inl f_a_columnName))]) [0, 1, 2, 3] rfl
    have hD9 := hD.part (cx := [(o, Sum.inr (8, [Value.ref a_entry, Value.ref a_lineName, Value.ref a_columnName, Value.int v_goals, Value.int v_lines, Value.int v_columns, Value.long v_base])), (a_entry, Sum.inl (k_a_entry, 18, Sum.inr (Sum.inr (Sum.inr (Sum.inr (rows_of 18 R_a_entry)))))), (a_lineName, Sum.inl (k_a_lineName, 18, Sum.inl f_a_lineName)), (a_columnName, Sum.inl (k_a_columnName, 13, Sum.inl f_a_columnName))]) [0, 1, 2, 3] (by decide) rfl
    exact W.vret hx hb hr (fun t ht hW => ⟨⟨(), rfl, trivial, v_base, f_a_lineName, f_a_columnName, fp, hf_a_lineName, hf_a_columnName, hfp, by rw [ht]; exact hP9, hD9⟩, hS.F ht⟩) hS.2.2 dX8_pivot_29
  · skip
    have c69 := lc_nlt c6
    have by5 : (-9223372036854775808 : Int) ≤ y5.toInt ∧ y5.toInt ≤ 9223372036854775807 := ⟨i64_min _, i64_max _⟩
    have dy5 := i64_le c69 (show (1 : Int64).toInt = 1 by decide) rfl
    have hy5 : jv y5 1 9223372036854775807 := jv.m (by omega)
    refine lv_aload_n hx hb dX8_pivot_20 rfl (lv_at hl 2 rfl) ?_
    refine va_get (D := (dC, dI)) (ci := 8) (v := Value.long v_base) (C := RX8) (T := TX8) (N := 7) hx hb hts iw_X8_pivot_X8 hown hK hP 0 rfl rfl 6 (by decide) (hts _ kk_X8_pivot_1) (fun _ h9 => h9) rfl dX8_pivot_21 ?_
    refine lv_lconst (v := 1) hx hb dX8_pivot_24 (by decide) ?_
    refine W.lcmp hx hb dX8_pivot_25 ?_
    refine lv_if_ge (tgt := 30) hx hb dX8_pivot_26 (by decide) (fun c7 => ?_) (fun c7 => ?_)
    · skip
      have c79 := lc_ge c7
      have bv_base : (-9223372036854775808 : Int) ≤ v_base.toInt ∧ v_base.toInt ≤ 9223372036854775807 := ⟨i64_min _, i64_max _⟩
      have dv_base := i64_le c79 (show (1 : Int64).toInt = 1 by decide) rfl
      have hv_base : jv v_base 1 9223372036854775807 := jv.m (by omega)
      refine lv_iconst (v := 0) hx hb dX8_pivot_30 (by decide) ?_
      refine lv_istore (lv' := [(6, Value.int 0), (4, Value.long y5), (3, Value.ref rw1), (0, Value.ref o), (1, Value.int p0), (2, Value.int p1)]) hx hb dX8_pivot_31 hl (by decide) rfl (fun ls hl => ?_)
      refine tl_loop (I := fun nn H locs ls => ∃ (v8 : Int32) (f9 : Nat → va_E), nn = (18 - v8.toInt).toNat ∧ iv v8 0 18 ∧ pok cI cJ LP sh f9 ∧  va_P (dC, dI) vwCl ([(o, Sum.inr (8, [Value.ref a_entry, Value.ref a_lineName, Value.ref a_columnName, Value.int v_goals, Value.int v_lines, Value.int v_columns, Value.long v_base])), (a_entry, Sum.inl (k_a_entry, 18, Sum.inr (Sum.inr (Sum.inr (Sum.inr (rows_of 18 R_a_entry)))))), (a_lineName, Sum.inl (k_a_lineName, 18, Sum.inl f_a_lineName)), (a_columnName, Sum.inl (k_a_columnName, 13, Sum.inl f_a_columnName))] ++ va_pl LP f9) H ∧ va_D A ([(o, Sum.inr (8, [Value.ref a_entry, Value.ref a_lineName, Value.ref a_columnName, Value.int v_goals, Value.int v_lines, Value.int v_columns, Value.long v_base])), (a_entry, Sum.inl (k_a_entry, 18, Sum.inr (Sum.inr (Sum.inr (Sum.inr (rows_of 18 R_a_entry)))))), (a_lineName, Sum.inl (k_a_lineName, 18, Sum.inl f_a_lineName)), (a_columnName, Sum.inl (k_a_columnName, 13, Sum.inl f_a_columnName))] ++ va_pl LP f9) ∧ va_S A s.heap H locs ∧ lv_has ls 7 [(6, Value.int v8), (4, Value.long y5), (3, Value.ref rw1), (0, Value.ref o), (1, Value.int p0), (2, Value.int p1)]) ?_ ⟨0, fp, rfl, (iv.m (by decide)), hfp, hP, hD, hS, lv_sub hl [0, 1, 2, 3, 4, 5] rfl⟩
      clear hP hD hS hl
      intro nn33 H locs ls hI ih33
      obtain ⟨v8, f9, hn33, hv8, hf9, hP, hD, hS, hl⟩ := hI
      have bv8 := hv8.u
      refine lv_iload hx hb dX8_pivot_33 (lv_at hl 0 rfl) ?_
      refine lv_aload_n hx hb dX8_pivot_35 rfl (lv_at hl 3 rfl) ?_
      refine va_get (D := (dC, dI)) (ci := 8) (v := Value.int v_lines) (C := RX8) (T := TX8) (N := 7) hx hb hts iw_X8_pivot_X8 hown hK hP 0 rfl rfl 4 (by decide) (hts _ kk_X8_pivot_2) (fun _ h9 => h9) rfl dX8_pivot_36 ?_
      have bv_lines := hv_lines.u
      refine lv_icmp_ge (tgt := 69) hx hb dX8_pivot_39 (by decide) (fun c10 => ?_) (fun c10 => ?_)
      · have c109 := i32_le c10 rfl rfl
        refine lv_iconst (v := 0) hx hb dX8_pivot_69 (by decide) ?_
        refine lv_istore (lv' := [(6, Value.int 0), (4, Value.long y5), (3, Value.ref rw1), (0, Value.ref o), (1, Value.int p0), (2, Value.int p1)]) hx hb dX8_pivot_70 hl (by decide) rfl (fun ls hl => ?_)
        refine tl_loop (I := fun nn H locs ls => ∃ (v11 : Int32) (f12 : Nat → va_E), nn = (18 - v11.toInt).toNat ∧ iv v11 0 18 ∧ pok cI cJ LP sh f12 ∧  va_P (dC, dI) vwCl ([(o, Sum.inr (8, [Value.ref a_entry, Value.ref a_lineName, Value.ref a_columnName, Value.int v_goals, Value.int v_lines, Value.int v_columns, Value.long v_base])), (a_entry, Sum.inl (k_a_entry, 18, Sum.inr (Sum.inr (Sum.inr (Sum.inr (rows_of 18 R_a_entry)))))), (a_lineName, Sum.inl (k_a_lineName, 18, Sum.inl f_a_lineName)), (a_columnName, Sum.inl (k_a_columnName, 13, Sum.inl f_a_columnName))] ++ va_pl LP f12) H ∧ va_D A ([(o, Sum.inr (8, [Value.ref a_entry, Value.ref a_lineName, Value.ref a_columnName, Value.int v_goals, Value.int v_lines, Value.int v_columns, Value.long v_base])), (a_entry, Sum.inl (k_a_entry, 18, Sum.inr (Sum.inr (Sum.inr (Sum.inr (rows_of 18 R_a_entry)))))), (a_lineName, Sum.inl (k_a_lineName, 18, Sum.inl f_a_lineName)), (a_columnName, Sum.inl (k_a_columnName, 13, Sum.inl f_a_columnName))] ++ va_pl LP f12) ∧ va_S A s.heap H locs ∧ lv_has ls 7 [(6, Value.int v11), (4, Value.long y5), (3, Value.ref rw1), (0, Value.ref o), (1, Value.int p0), (2, Value.int p1)]) ?_ ⟨0, f9, rfl, (iv.m (by decide)), hf9, hP, hD, hS, lv_sub hl [0, 1, 2, 3, 4, 5] rfl⟩
        clear hP hD hS hl
        intro nn72 H locs ls hI ih72
        obtain ⟨v11, f12, hn72, hv11, hf12, hP, hD, hS, hl⟩ := hI
        have bv11 := hv11.u
        refine lv_iload hx hb dX8_pivot_72 (lv_at hl 0 rfl) ?_
        refine lv_aload_n hx hb dX8_pivot_74 rfl (lv_at hl 3 rfl) ?_
        refine va_get (D := (dC, dI)) (ci := 8) (v := Value.int v_columns) (C := RX8) (T := TX8) (N := 7) hx hb hts iw_X8_pivot_X8 hown hK hP 0 rfl rfl 5 (by decide) (hts _ kk_X8_pivot_3) (fun _ h9 => h9) rfl dX8_pivot_75 ?_
        have bv_columns := hv_columns.u
        refine lv_icmp_gt (tgt := 96) hx hb dX8_pivot_78 (by decide) (fun c13 => ?_) (fun c13 => ?_)
        · have c139 := i32_lt c13 rfl rfl
          refine lv_aload_n hx hb dX8_pivot_96 rfl (lv_at hl 2 rfl) ?_
          refine lv_iload_n hx hb dX8_pivot_97 rfl (lv_at hl 5 rfl) ?_
          refine lv_aload_n hx hb dX8_pivot_98 rfl (lv_at hl 3 rfl) ?_
          refine va_get (D := (dC, dI)) (ci := 8) (v := Value.long v_base) (C := RX8) (T := TX8) (N := 7) hx hb hts iw_X8_pivot_X8 hown hK hP 0 rfl rfl 6 (by decide) (hts _ kk_X8_pivot_1) (fun _ h9 => h9) rfl dX8_pivot_99 ?_
          refine lv_lneg hx hb dX8_pivot_102 ?_
          refine lv_topl (fun y14 ey14 => ?_)
          have hy14 : jv y14 (-9223372036854775807) (-1) := jv.neg ey14 hv_base (by decide) (by decide) (by decide) (by decide)
          obtain ⟨gk15, hgk15⟩ := pok_13 (hf12) mrw1
          obtain ⟨kk16, hkk16⟩ := va_pl_get (X := [(o, Sum.inr (8, [Value.ref a_entry, Value.ref a_lineName, Value.ref a_columnName, Value.int v_goals, Value.int v_lines, Value.int v_columns, Value.long v_base])), (a_entry, Sum.inl (k_a_entry, 18, Sum.inr (Sum.inr (Sum.inr (Sum.inr (rows_of 18 R_a_entry)))))), (a_lineName, Sum.inl (k_a_lineName, 18, Sum.inl f_a_lineName)), (a_columnName, Sum.inl (k_a_columnName, 13, Sum.inl f_a_columnName))]) (f := f12) mrw1.1
          have qkk16 := hkk16
          rw [hgk15] at qkk16
          have hDo := hD
          refine va_last hx hb hK hP hD hS kk16 4 qkk16 rfl (vq_in p1 13 (by omega)) dX8_pivot_103 (fun H locs hP hD hS => ?_)
          rw [va_pl_set hDo mrw1.1 hkk16] at hP hD
          have hfp17 := pok_up13 hf12 mrw1 (Int32.toNatClampNeg p1) y14 gk15
          generalize va_up f12 rw1 _ = fp17 at hP hD hfp17
          have hP : va_P (dC, dI) vwCl ([(o, Sum.inr (8, [Value.ref a_entry, Value.ref a_lineName, Value.ref a_columnName, Value.int v_goals, Value.int v_lines, Value.int v_columns, Value.long v_base])), (a_entry, Sum.inl (k_a_entry, 18, Sum.inr (Sum.inr (Sum.inr (Sum.inr (rows_of 18 R_a_entry)))))), (a_lineName, Sum.inl (k_a_lineName, 18, Sum.inl f_a_lineName)), (a_columnName, Sum.inl (k_a_columnName, 13, Sum.inl f_a_columnName))] ++ va_pl LP fp17) H := hP
          have hD : va_D A ([(o, Sum.inr (8, [Value.ref a_entry, Value.ref a_lineName, Value.ref a_columnName, Value.int v_goals, Value.int v_lines, Value.int v_columns, Value.long v_base])), (a_entry, Sum.inl (k_a_entry, 18, Sum.inr (Sum.inr (Sum.inr (Sum.inr (rows_of 18 R_a_entry)))))), (a_lineName, Sum.inl (k_a_lineName, 18, Sum.inl f_a_lineName)), (a_columnName, Sum.inl (k_a_columnName, 13, Sum.inl f_a_columnName))] ++ va_pl LP fp17) := hD
          refine lv_aload_n hx hb dX8_pivot_104 rfl (lv_at hl 3 rfl) ?_
          refine lv_lload hx hb dX8_pivot_105 (lv_at hl 1 rfl) ?_
          refine va_put (D := (dC, dI)) (ci := 8) (v := Value.long y5) (ty := FieldType.long) (C := RX8) (T := TX8) (N := 7) hx hb hts iw_X8_pivot_X8 tyX8 tyX8_ok nmX8 hown hK hP hD hS 0 rfl rfl 6 (by decide) (hts _ kk_X8_pivot_1) (fun _ h9 => h9) rfl (by decide +kernel) rfl rfl (Nat.le_of_ble_eq_true rfl) dX8_pivot_107 (fun H locs hP hD hS => ?_)
          have hP : va_P (dC, dI) vwCl ([(o, Sum.inr (8, [Value.ref a_entry, Value.ref a_lineName, Value.ref a_columnName, Value.int v_goals, Value.int v_lines, Value.int v_columns, Value.long y5])), (a_entry, Sum.inl (k_a_entry, 18, Sum.inr (Sum.inr (Sum.inr (Sum.inr (rows_of 18 R_a_entry)))))), (a_lineName, Sum.inl (k_a_lineName, 18, Sum.inl f_a_lineName)), (a_columnName, Sum.inl (k_a_columnName, 13, Sum.inl f_a_columnName))] ++ va_pl LP fp17) H := hP
          have hD : va_D A ([(o, Sum.inr (8, [Value.ref a_entry, Value.ref a_lineName, Value.ref a_columnName, Value.int v_goals, Value.int v_lines, Value.int v_columns, Value.long y5])), (a_entry, Sum.inl (k_a_entry, 18, Sum.inr (Sum.inr (Sum.inr (Sum.inr (rows_of 18 R_a_entry)))))), (a_lineName, Sum.inl (k_a_lineName, 18, Sum.inl f_a_lineName)), (a_columnName, Sum.inl (k_a_columnName, 13, Sum.inl f_a_columnName))] ++ va_pl LP fp17) := hD
          refine lv_aload_n hx hb dX8_pivot_110 rfl (lv_at hl 3 rfl) ?_
          refine va_get (D := (dC, dI)) (ci := 8) (v := Value.ref a_lineName) (C := RX8) (T := TX8) (N := 7) hx hb hts iw_X8_pivot_X8 hown hK hP 0 rfl rfl 1 (by decide) (hts _ kk_X8_pivot_4) (fun _ h9 => h9) rfl dX8_pivot_111 ?_
          refine lv_iload_n hx hb dX8_pivot_114 rfl (lv_at hl 4 rfl) ?_
          refine va_iald hx hb hK hP 2 1 rfl rfl (vq_in p0 18 (by omega)) dX8_pivot_115 ?_
          refine lv_topi (fun x18 ex18 => ?_)
          have hx18 : iv x18 0 99 := iv.of (hf_a_lineName _) ex18
          refine lv_istore (lv' := [(6, Value.int x18), (4, Value.long y5), (3, Value.ref rw1), (0, Value.ref o), (1, Value.int p0), (2, Value.int p1)]) hx hb dX8_pivot_116 hl (by decide) rfl (fun ls hl => ?_)
          refine lv_aload_n hx hb dX8_pivot_118 rfl (lv_at hl 3 rfl) ?_
          refine va_get (D := (dC, dI)) (ci := 8) (v := Value.ref a_lineName) (C := RX8) (T := TX8) (N := 7) hx hb hts iw_X8_pivot_X8 hown hK hP 0 rfl rfl 1 (by decide) (hts _ kk_X8_pivot_4) (fun _ h9 => h9) rfl dX8_pivot_119 ?_
          refine lv_iload_n hx hb dX8_pivot_122 rfl (lv_at hl 4 rfl) ?_
          refine lv_aload_n hx hb dX8_pivot_123 rfl (lv_at hl 3 rfl) ?_
          refine va_get (D := (dC, dI)) (ci := 8) (v := Value.ref a_columnName) (C := RX8) (T := TX8) (N := 7) hx hb hts iw_X8_pivot_X8 hown hK hP 0 rfl rfl 2 (by decide) (hts _ kk_X8_pivot_5) (fun _ h9 => h9) rfl dX8_pivot_124 ?_
          refine lv_iload_n hx hb dX8_pivot_127 rfl (lv_at hl 5 rfl) ?_
          refine va_iald hx hb hK hP 3 2 rfl rfl (vq_in p1 13 (by omega)) dX8_pivot_128 ?_
          refine lv_topi (fun x19 ex19 => ?_)
          have hx19 : iv x19 0 99 := iv.of (hf_a_columnName _) ex19
          refine va_iast hx hb hK hP hD hS 2 1 rfl rfl (vq_in p0 18 (by omega)) dX8_pivot_129 (fun H locs hP hD hS => ?_)
          have hP : va_P (dC, dI) vwCl ([(o, Sum.inr (8, [Value.ref a_entry, Value.ref a_lineName, Value.ref a_columnName, Value.int v_goals, Value.int v_lines, Value.int v_columns, Value.long y5])), (a_entry, Sum.inl (k_a_entry, 18, Sum.inr (Sum.inr (Sum.inr (Sum.inr (rows_of 18 R_a_entry)))))), (a_lineName, Sum.inl (k_a_lineName, 18, Sum.inl (upd f_a_lineName (Int32.toNatClampNeg p0) x19))), (a_columnName, Sum.inl (k_a_columnName, 13, Sum.inl f_a_columnName))] ++ va_pl LP fp17) H := hP
          have hD : va_D A ([(o, Sum.inr (8, [Value.ref a_entry, Value.ref a_lineName, Value.ref a_columnName, Value.int v_goals, Value.int v_lines, Value.int v_columns, Value.long y5])), (a_entry, Sum.inl (k_a_entry, 18, Sum.inr (Sum.inr (Sum.inr (Sum.inr (rows_of 18 R_a_entry)))))), (a_lineName, Sum.inl (k_a_lineName, 18, Sum.inl (upd f_a_lineName (Int32.toNatClampNeg p0) x19))), (a_columnName, Sum.inl (k_a_columnName, 13, Sum.inl f_a_columnName))] ++ va_pl LP fp17) := hD
          have hf20 : ivf (upd f_a_lineName (Int32.toNatClampNeg p0) x19) 0 99 := ivf.up hf_a_lineName hx19 _
          have wf20 : (upd f_a_lineName (Int32.toNatClampNeg p0) x19) (Int32.toNatClampNeg p0) = x19 := pk_us
          generalize upd f_a_lineName (Int32.toNatClampNeg p0) x19 = f20 at hP hD hf20 wf20
          have hP : va_P (dC, dI) vwCl ([(o, Sum.inr (8, [Value.ref a_entry, Value.ref a_lineName, Value.ref a_columnName, Value.int v_goals, Value.int v_lines, Value.int v_columns, Value.long y5])), (a_entry, Sum.inl (k_a_entry, 18, Sum.inr (Sum.inr (Sum.inr (Sum.inr (rows_of 18 R_a_entry)))))), (a_lineName, Sum.inl (k_a_lineName, 18, Sum.inl f20)), (a_columnName, Sum.inl (k_a_columnName, 13, Sum.inl f_a_columnName))] ++ va_pl LP fp17) H := hP
          have hD : va_D A ([(o, Sum.inr (8, [Value.ref a_entry, Value.ref a_lineName, Value.ref a_columnName, Value.int v_goals, Value.int v_lines, Value.int v_columns, Value.long y5])), (a_entry, Sum.inl (k_a_entry, 18, Sum.inr (Sum.inr (Sum.inr (Sum.inr (rows_of 18 R_a_entry)))))), (a_lineName, Sum.inl (k_a_lineName, 18, Sum.inl f20)), (a_columnName, Sum.inl (k_a_columnName, 13, Sum.inl f_a_columnName))] ++ va_pl LP fp17) := hD
          refine lv_aload_n hx hb dX8_pivot_130 rfl (lv_at hl 3 rfl) ?_
          refine va_get (D := (dC, dI)) (ci := 8) (v := Value.ref a_columnName) (C := RX8) (T := TX8) (N := 7) hx hb hts iw_X8_pivot_X8 hown hK hP 0 rfl rfl 2 (by decide) (hts _ kk_X8_pivot_5) (fun _ h9 => h9) rfl dX8_pivot_131 ?_
          refine lv_iload_n hx hb dX8_pivot_134 rfl (lv_at hl 5 rfl) ?_
          refine lv_iload hx hb dX8_pivot_135 (lv_at hl 0 rfl) ?_
          refine va_iast hx hb hK hP hD hS 3 2 rfl rfl (vq_in p1 13 (by omega)) dX8_pivot_137 (fun H locs hP hD hS => ?_)
          have hP : va_P (dC, dI) vwCl ([(o, Sum.inr (8, [Value.ref a_entry, Value.ref a_lineName, Value.ref a_columnName, Value.int v_goals, Value.int v_lines, Value.int v_columns, Value.long y5])), (a_entry, Sum.inl (k_a_entry, 18, Sum.inr (Sum.inr (Sum.inr (Sum.inr (rows_of 18 R_a_entry)))))), (a_lineName, Sum.inl (k_a_lineName, 18, Sum.inl f20)), (a_columnName, Sum.inl (k_a_columnName, 13, Sum.inl (upd f_a_columnName (Int32.toNatClampNeg p1) x18)))] ++ va_pl LP fp17) H := hP
          have hD : va_D A ([(o, Sum.inr (8, [Value.ref a_entry, Value.ref a_lineName, Value.ref a_columnName, Value.int v_goals, Value.int v_lines, Value.int v_columns, Value.long y5])), (a_entry, Sum.inl (k_a_entry, 18, Sum.inr (Sum.inr (Sum.inr (Sum.inr (rows_of 18 R_a_entry)))))), (a_lineName, Sum.inl (k_a_lineName, 18, Sum.inl f20)), (a_columnName, Sum.inl (k_a_columnName, 13, Sum.inl (upd f_a_columnName (Int32.toNatClampNeg p1) x18)))] ++ va_pl LP fp17) := hD
          have hf21 : ivf (upd f_a_columnName (Int32.toNatClampNeg p1) x18) 0 99 := ivf.up hf_a_columnName hx18 _
          have wf21 : (upd f_a_columnName (Int32.toNatClampNeg p1) x18) (Int32.toNatClampNeg p1) = x18 := pk_us
          generalize upd f_a_columnName (Int32.toNatClampNeg p1) x18 = f21 at hP hD hf21 wf21
          have hP : va_P (dC, dI) vwCl ([(o, Sum.inr (8, [Value.ref a_entry, Value.ref a_lineName, Value.ref a_columnName, Value.int v_goals, Value.int v_lines, Value.int v_columns, Value.long y5])), (a_entry, Sum.inl (k_a_entry, 18, Sum.inr (Sum.inr (Sum.inr (Sum.inr (rows_of 18 R_a_entry)))))), (a_lineName, Sum.inl (k_a_lineName, 18, Sum.inl f20)), (a_columnName, Sum.inl (k_a_columnName, 13, Sum.inl f21))] ++ va_pl LP fp17) H := hP
          have hD : va_D A ([(o, Sum.inr (8, [Value.ref a_entry, Value.ref a_lineName, Value.ref a_columnName, Value.int v_goals, Value.int v_lines, Value.int v_columns, Value.long y5])), (a_entry, Sum.inl (k_a_entry, 18, Sum.inr (Sum.inr (Sum.inr (Sum.inr (rows_of 18 R_a_entry)))))), (a_lineName, Sum.inl (k_a_lineName, 18, Sum.inl f20)), (a_columnName, Sum.inl (k_a_columnName, 13, Sum.inl f21))] ++ va_pl LP fp17) := hD
          have hP9 := hP.part (cx := [(o, Sum.inr (8, [Value.ref a_entry, Value.ref a_lineName, Value.ref a_columnName, Value.int v_goals, Value.int v_lines, Value.int v_columns, Value.long y5])), (a_entry, Sum.inl (k_a_entry, 18, Sum.inr (Sum.inr (Sum.inr (Sum.inr (rows_of 18 R_a_entry)))))), (a_lineName, Sum.inl (k_a_lineName, 18, Sum.inl f20)), (a_columnName, Sum.inl (k_a_columnName, 13, Sum.inl f21))]) [0, 1, 2, 3] rfl
          have hD9 := hD.part (cx := [(o, Sum.inr (8, [Value.ref a_entry, Value.ref a_lineName, Value.ref a_columnName, Value.int v_goals, Value.int v_lines, Value.int v_columns, Value.long y5])), (a_entry, Sum.inl (k_a_entry, 18, Sum.inr (Sum.inr (Sum.inr (Sum.inr (rows_of 18 R_a_entry)))))), (a_lineName, Sum.inl (k_a_lineName, 18, Sum.inl f20)), (a_columnName, Sum.inl (k_a_columnName, 13, Sum.inl f21))]) [0, 1, 2, 3] (by decide) rfl
          exact W.vret hx hb hr (fun t ht hW => ⟨⟨(), rfl, trivial, y5, f20, f21, fp17, hf20, hf21, hfp17, by rw [ht]; exact hP9, hD9⟩, hS.F ht⟩) hS.2.2 dX8_pivot_138
        · have c139 := i32_nlt c13 rfl rfl
          refine lv_aload_n hx hb dX8_pivot_81 rfl (lv_at hl 2 rfl) ?_
          refine lv_iload hx hb dX8_pivot_82 (lv_at hl 0 rfl) ?_
          refine lv_aload_n hx hb dX8_pivot_84 rfl (lv_at hl 2 rfl) ?_
          refine lv_iload hx hb dX8_pivot_85 (lv_at hl 0 rfl) ?_
          obtain ⟨gk22, hgk22⟩ := pok_13 (hf12) mrw1
          obtain ⟨kk23, hkk23⟩ := va_pl_get (X := [(o, Sum.inr (8, [Value.ref a_entry, Value.ref a_lineName, Value.ref a_columnName, Value.int v_goals, Value.int v_lines, Value.int v_columns, Value.long v_base])), (a_entry, Sum.inl (k_a_entry, 18, Sum.inr (Sum.inr (Sum.inr (Sum.inr (rows_of 18 R_a_entry)))))), (a_lineName, Sum.inl (k_a_lineName, 18, Sum.inl f_a_lineName)), (a_columnName, Sum.inl (k_a_columnName, 13, Sum.inl f_a_columnName))]) (f := f12) mrw1.1
          have qkk23 := hkk23
          rw [hgk22] at qkk23
          refine va_lald hx hb hK hP kk23 4 qkk23 rfl (vq_in v11 13 (by omega)) dX8_pivot_87 ?_
          refine lv_topl (fun y24 ey24 => ?_)
          refine lv_lneg hx hb dX8_pivot_88 ?_
          refine lv_topl (fun y25 ey25 => ?_)
          obtain ⟨gk26, hgk26⟩ := pok_13 (hf12) mrw1
          obtain ⟨kk27, hkk27⟩ := va_pl_get (X := [(o, Sum.inr (8, [Value.ref a_entry, Value.ref a_lineName, Value.ref a_columnName, Value.int v_goals, Value.int v_lines, Value.int v_columns, Value.long v_base])), (a_entry, Sum.inl (k_a_entry, 18, Sum.inr (Sum.inr (Sum.inr (Sum.inr (rows_of 18 R_a_entry)))))), (a_lineName, Sum.inl (k_a_lineName, 18, Sum.inl f_a_lineName)), (a_columnName, Sum.inl (k_a_columnName, 13, Sum.inl f_a_columnName))]) (f := f12) mrw1.1
          have qkk27 := hkk27
          rw [hgk26] at qkk27
          have hDo := hD
          refine va_last hx hb hK hP hD hS kk27 4 qkk27 rfl (vq_in v11 13 (by omega)) dX8_pivot_89 (fun H locs hP hD hS => ?_)
          rw [va_pl_set hDo mrw1.1 hkk27] at hP hD
          have hfp28 := pok_up13 hf12 mrw1 (Int32.toNatClampNeg v11) y25 gk26
          generalize va_up f12 rw1 _ = fp28 at hP hD hfp28
          have hP : va_P (dC, dI) vwCl ([(o, Sum.inr (8, [Value.ref a_entry, Value.ref a_lineName, Value.ref a_columnName, Value.int v_goals, Value.int v_lines, Value.int v_columns, Value.long v_base])), (a_entry, Sum.inl (k_a_entry, 18, Sum.inr (Sum.inr (Sum.inr (Sum.inr (rows_of 18 R_a_entry)))))), (a_lineName, Sum.inl (k_a_lineName, 18, Sum.inl f_a_lineName)), (a_columnName, Sum.inl (k_a_columnName, 13, Sum.inl f_a_columnName))] ++ va_pl LP fp28) H := hP
          have hD : va_D A ([(o, Sum.inr (8, [Value.ref a_entry, Value.ref a_lineName, Value.ref a_columnName, Value.int v_goals, Value.int v_lines, Value.int v_columns, Value.long v_base])), (a_entry, Sum.inl (k_a_entry, 18, Sum.inr (Sum.inr (Sum.inr (Sum.inr (rows_of 18 R_a_entry)))))), (a_lineName, Sum.inl (k_a_lineName, 18, Sum.inl f_a_lineName)), (a_columnName, Sum.inl (k_a_columnName, 13, Sum.inl f_a_columnName))] ++ va_pl LP fp28) := hD
          obtain ⟨x29, ex29⟩ : ∃ z : Int32, v11 + Int32.ofInt 1 = z := ⟨_, rfl⟩
          have tx29 := i32_inc ex29 rfl (by decide) (by omega) (by omega)
          refine lv_iinc (v := x29) (lv' := [(6, Value.int x29), (4, Value.long y5), (3, Value.ref rw1), (0, Value.ref o), (1, Value.int p0), (2, Value.int p1)]) hx hb dX8_pivot_90 hl (k := 0) rfl ex29 (by decide) rfl (fun ls hl => ?_)
          refine lv_goto (tgt := 72) hx hb dX8_pivot_93 (by decide) ?_
          exact ih72 _ _ _ _ (by omega) ⟨x29, fp28, rfl, (iv.m (by omega)), hfp28, hP, hD, hS, lv_sub hl [0, 1, 2, 3, 4, 5] rfl⟩
      · have c109 := i32_nle c10 rfl rfl
        refine lv_iload hx hb dX8_pivot_42 (lv_at hl 0 rfl) ?_
        refine lv_iload_n hx hb dX8_pivot_44 rfl (lv_at hl 4 rfl) ?_
        refine lv_icmp_eq (tgt := 63) hx hb dX8_pivot_45 (by decide) (fun c30 => ?_) (fun c30 => ?_)
        · have c309 := i32_eq c30 rfl rfl
          obtain ⟨x31, ex31⟩ : ∃ z : Int32, v8 + Int32.ofInt 1 = z := ⟨_, rfl⟩
          have tx31 := i32_inc ex31 rfl (by decide) (by omega) (by omega)
          refine lv_iinc (v := x31) (lv' := [(6, Value.int x31), (4, Value.long y5), (3, Value.ref rw1), (0, Value.ref o), (1, Value.int p0), (2, Value.int p1)]) hx hb dX8_pivot_63 hl (k := 0) rfl ex31 (by decide) rfl (fun ls hl => ?_)
          refine lv_goto (tgt := 33) hx hb dX8_pivot_66 (by decide) ?_
          exact ih33 _ _ _ _ (by omega) ⟨x31, f9, rfl, (iv.m (by omega)), hf9, hP, hD, hS, lv_sub hl [0, 1, 2, 3, 4, 5] rfl⟩
        · have c309 := i32_ne c30 rfl rfl
          refine lv_aload_n hx hb dX8_pivot_48 rfl (lv_at hl 3 rfl) ?_
          refine lv_aload_n hx hb dX8_pivot_49 rfl (lv_at hl 3 rfl) ?_
          refine va_get (D := (dC, dI)) (ci := 8) (v := Value.ref a_entry) (C := RX8) (T := TX8) (N := 7) hx hb hts iw_X8_pivot_X8 hown hK hP 0 rfl rfl 0 (by decide) (hts _ kk_X8_pivot_0) (fun _ h9 => h9) rfl dX8_pivot_50 ?_
          refine lv_iload hx hb dX8_pivot_53 (lv_at hl 0 rfl) ?_
          have hinrw32 : vp_in v8 18 := (vq_in v8 18 (by omega))
          refine va_aldA hx hb hK hP 1 0 rfl rfl hinrw32 dX8_pivot_55 ?_
          refine px_v (row_sel hinrw32) ?_
          obtain ⟨rw32, erw32⟩ : ∃ z : Nat, z = R_a_entry (Int32.toNatClampNeg v8) := ⟨_, rfl⟩
          rw [← erw32]
          have mrw32 : rw32 ∈ LP ∧ sh rw32 = 13 := by rw [erw32]; exact hRR_a_entry _ (vin_lt hinrw32)
          refine lv_aload_n hx hb dX8_pivot_56 rfl (lv_at hl 2 rfl) ?_
          refine lv_iload_n hx hb dX8_pivot_57 rfl (lv_at hl 5 rfl) ?_
          refine lv_lload hx hb dX8_pivot_58 (lv_at hl 1 rfl) ?_
          have hPc := hP.part (cx := [(o, Sum.inr (8, [Value.ref a_entry, Value.ref a_lineName, Value.ref a_columnName, Value.int v_goals, Value.int v_lines, Value.int v_columns, Value.long v_base]))]) [0] rfl
          have hDc := hD.part (cx := [(o, Sum.inr (8, [Value.ref a_entry, Value.ref a_lineName, Value.ref a_columnName, Value.int v_goals, Value.int v_lines, Value.int v_columns, Value.long v_base]))]) [0] (by decide) rfl
          have hKc := hK.sub (tys' := [(cI, FieldType.int), (cJ, FieldType.long)]) [3, 4] rfl
          have hFc := va_freeP (cx := [(o, Sum.inr (8, [Value.ref a_entry, Value.ref a_lineName, Value.ref a_columnName, Value.int v_goals, Value.int v_lines, Value.int v_columns, Value.long v_base]))]) hD hS hA [0] rfl
          refine va_callv (va_runV (As := [Value.ref rw32, Value.ref rw1, Value.int p1, Value.long y5]) (rest := []) ⟨hx, hb, hml, hown, hts⟩ (ct_X8_changeLine l dC dI o rw32 rw1 p1 y5 a_entry a_lineName a_columnName v_goals v_lines v_columns v_base LP sh f9 cI cJ hp1 hv_columns hf9 mrw32 mrw1 H.size) (cwV 4 hts gX8_pivot_X8_changeLine rfl rfl rfl ⟨rfl, cn_X8.1, cn_X8.2, ds_35⟩ ⟨Nat.le_of_ble_eq_true rfl, Nat.le_of_ble_eq_true rfl⟩) ⟨fun a U g mk q => by obtain ⟨q0, q1, qP, qK, qD⟩ := q; exact ⟨q0, q1, qP, va_K.moved (u := U) (U := U.calling g mk a) (Vm.Alike.refl U.vm) qK, qD⟩, va_recv hKc hPc (ci := 8) (q0 := 0) rfl rfl, fun U hU hW => ⟨rfl, by rw [hU], by rw [hU]; exact hPc, va_K.moved hW.alike hKc, hDc.weaken (fun _ _ _ _ => trivial)⟩⟩ rfl rfl hl.1 rfl (lv_room (Nat.le_of_ble_eq_true rfl)) dX8_pivot_60 ⟨Nat.le_of_ble_eq_true rfl, Nat.le_of_ble_eq_true rfl⟩) hS (fun q _ h => hFc q h) hFc (fun u t H1 locs ht hvm hw hB hz1 hk1 hS => ?_)
          obtain ⟨fp34, hfp34, hP1, hD1⟩ := hB
          rw [ht] at hP1
          obtain ⟨hP, hD⟩ := va_joinP (X := [(o, Sum.inr (8, [Value.ref a_entry, Value.ref a_lineName, Value.ref a_columnName, Value.int v_goals, Value.int v_lines, Value.int v_columns, Value.long v_base])), (a_entry, Sum.inl (k_a_entry, 18, Sum.inr (Sum.inr (Sum.inr (Sum.inr (rows_of 18 R_a_entry)))))), (a_lineName, Sum.inl (k_a_lineName, 18, Sum.inl f_a_lineName)), (a_columnName, Sum.inl (k_a_columnName, 13, Sum.inl f_a_columnName))]) (cx := [(o, Sum.inr (8, [Value.ref a_entry, Value.ref a_lineName, Value.ref a_columnName, Value.int v_goals, Value.int v_lines, Value.int v_columns, Value.long v_base]))]) (wr := [(a_entry, Sum.inl (k_a_entry, 18, Sum.inr (Sum.inr (Sum.inr (Sum.inr (rows_of 18 R_a_entry)))))), (a_lineName, Sum.inl (k_a_lineName, 18, Sum.inl f_a_lineName)), (a_columnName, Sum.inl (k_a_columnName, 13, Sum.inl f_a_columnName))]) (rx := [(o, Sum.inr (8, [Value.ref a_entry, Value.ref a_lineName, Value.ref a_columnName, Value.int v_goals, Value.int v_lines, Value.int v_columns, Value.long v_base]))]) hP hD [0] [1, 2, 3] rfl rfl (by decide) (by decide) hk1 hFc hP1 hD1
          clear hPc hDc hKc hFc hP1 hD1 hk1 hz1
          generalize H1 = H at hP hS ⊢
          have hP : va_P (dC, dI) vwCl ([(a_entry, Sum.inl (k_a_entry, 18, Sum.inr (Sum.inr (Sum.inr (Sum.inr (rows_of 18 R_a_entry)))))), (a_lineName, Sum.inl (k_a_lineName, 18, Sum.inl f_a_lineName)), (a_columnName, Sum.inl (k_a_columnName, 13, Sum.inl f_a_columnName)), (o, Sum.inr (8, [Value.ref a_entry, Value.ref a_lineName, Value.ref a_columnName, Value.int v_goals, Value.int v_lines, Value.int v_columns, Value.long v_base]))] ++ va_pl LP fp34) H := hP
          have hD : va_D A ([(a_entry, Sum.inl (k_a_entry, 18, Sum.inr (Sum.inr (Sum.inr (Sum.inr (rows_of 18 R_a_entry)))))), (a_lineName, Sum.inl (k_a_lineName, 18, Sum.inl f_a_lineName)), (a_columnName, Sum.inl (k_a_columnName, 13, Sum.inl f_a_columnName)), (o, Sum.inr (8, [Value.ref a_entry, Value.ref a_lineName, Value.ref a_columnName, Value.int v_goals, Value.int v_lines, Value.int v_columns, Value.long v_base]))] ++ va_pl LP fp34) := hD
          refine W.widen (k := 0) (n := 0) (by decide) (by decide) ?_
          obtain ⟨x35, ex35⟩ : ∃ z : Int32, v8 + Int32.ofInt 1 = z := ⟨_, rfl⟩
          have tx35 := i32_inc ex35 rfl (by decide) (by omega) (by omega)
          refine lv_iinc (v := x35) (lv' := [(6, Value.int x35), (4, Value.long y5), (3, Value.ref rw1), (0, Value.ref o), (1, Value.int p0), (2, Value.int p1)]) hx hb dX8_pivot_63 hl (k := 0) rfl ex35 (by decide) rfl (fun ls hl => ?_)
          refine lv_goto (tgt := 33) hx hb dX8_pivot_66 (by decide) ?_
          exact ih33 _ _ _ _ (by omega) ⟨x35, fp34, rfl, (iv.m (by omega)), hfp34, hP.part [3, 0, 1, 2] rfl, hD.part [3, 0, 1, 2] (by decide) rfl, hS, lv_sub hl [0, 1, 2, 3, 4, 5] rfl⟩
    · skip
      have c79 := lc_nge c7
      have bv_base : (-9223372036854775808 : Int) ≤ v_base.toInt ∧ v_base.toInt ≤ 9223372036854775807 := ⟨i64_min _, i64_max _⟩
      have dv_base := i64_lt c79 rfl (show (1 : Int64).toInt = 1 by decide)
      have hv_base : jv v_base (-9223372036854775808) 0 := jv.m (by omega)
      have hP9 := hP.part (cx := [(o, Sum.inr (8, [Value.ref a_entry, Value.ref a_lineName, Value.ref a_columnName, Value.int v_goals, Value.int v_lines, Value.int v_columns, Value.long v_base])), (a_entry, Sum.inl (k_a_entry, 18, Sum.inr (Sum.inr (Sum.inr (Sum.inr (rows_of 18 R_a_entry)))))), (a_lineName, Sum.inl (k_a_lineName, 18, Sum.inl f_a_lineName)), (a_columnName, Sum.inl (k_a_columnName, 13, Sum.inl f_a_columnName))]) [0, 1, 2, 3] rfl
      have hD9 := hD.part (cx := [(o, Sum.inr (8, [Value.ref a_entry, Value.ref a_lineName, Value.ref a_columnName, Value.int v_goals, Value.int v_lines, Value.int v_columns, Value.long v_base])), (a_entry, Sum.inl (k_a_entry, 18, Sum.inr (Sum.inr (Sum.inr (Sum.inr (rows_of 18 R_a_entry)))))), (a_lineName, Sum.inl (k_a_lineName, 18, Sum.inl f_a_lineName)), (a_columnName, Sum.inl (k_a_columnName, 13, Sum.inl f_a_columnName))]) [0, 1, 2, 3] (by decide) rfl
      exact W.vret hx hb hr (fun t ht hW => ⟨⟨(), rfl, trivial, v_base, f_a_lineName, f_a_columnName, fp, hf_a_lineName, hf_a_columnName, hfp, by rw [ht]; exact hP9, hD9⟩, hS.F ht⟩) hS.2.2 dX8_pivot_29

