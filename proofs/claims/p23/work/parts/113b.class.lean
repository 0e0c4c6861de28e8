set_option maxHeartbeats 4000000 in
set_option maxRecDepth 100000 in
theorem ct_X8_changeLine (l : Launch) (dC : Nat → ClassId) (dI : Nat → Nat → Nat) (o : Nat) (p0 : Nat) (p1 : Nat) (p2 : Int32) (p3 : Int64) (a_entry : Nat) (a_lineName : Nat) (a_columnName : Nat) (v_goals : Int32) (v_lines : Int32) (v_columns : Int32) (v_base : Int64) (LP : List Nat) (sh : Nat → Nat) (fp : Nat → va_E) (cI : ClassId) (cJ : ClassId) (CT : Nat → Nat → Int32) (hp2 : iv p2 1 12) (hv_columns : iv v_columns 0 12) (hfp : pok cI cJ LP sh CT fp) (mp0 : p0 ∈ LP ∧ sh p0 = 13) (mp1 : p1 ∈ LP ∧ sh p1 = 13) (sz : Nat) : Met l yX8_changeLine wsX8_changeLine ({ frames := 0, cells := 0, slots := 0, locals := 0 }) (va_Pc [Value.ref o, Value.ref p0, Value.ref p1, Value.int p2, Value.long p3] (fun U => U.heap.size = sz ∧ va_P (dC, dI) vwCl ([(o, Sum.inr (8, [Value.ref a_entry, Value.ref a_lineName, Value.ref a_columnName, Value.int v_goals, Value.int v_lines, Value.int v_columns, Value.long v_base]))] ++ va_pl LP fp) U.heap ∧ va_K (dC, dI) vwCl [(cI, FieldType.int), (cJ, FieldType.long)] U ∧ va_D (fun _ => True) ([(o, Sum.inr (8, [Value.ref a_entry, Value.ref a_lineName, Value.ref a_columnName, Value.int v_goals, Value.int v_lines, Value.int v_columns, Value.long v_base]))] ++ va_pl LP fp))) (va_Qv (fun _ : Unit => True) (fun _ t => ∃ (e_fp : Nat → va_E), pok cI cJ LP sh CT e_fp ∧ va_P (dC, dI) vwCl ([(o, Sum.inr (8, [Value.ref a_entry, Value.ref a_lineName, Value.ref a_columnName, Value.int v_goals, Value.int v_lines, Value.int v_columns, Value.long v_base]))] ++ va_pl LP e_fp) t.heap ∧ va_D (va_A ([(o, Sum.inr (8, [Value.ref a_entry, Value.ref a_lineName, Value.ref a_columnName, Value.int v_goals, Value.int v_lines, Value.int v_columns, Value.long v_base]))] ++ va_pl LP fp) sz) ([(o, Sum.inr (8, [Value.ref a_entry, Value.ref a_lineName, Value.ref a_columnName, Value.int v_goals, Value.int v_lines, Value.int v_columns, Value.long v_base]))] ++ va_pl LP e_fp)) (va_A ([(o, Sum.inr (8, [Value.ref a_entry, Value.ref a_lineName, Value.ref a_columnName, Value.int v_goals, Value.int v_lines, Value.int v_columns, Value.long v_base]))] ++ va_pl LP fp) sz)) 0 0 (va_A ([(o, Sum.inr (8, [Value.ref a_entry, Value.ref a_lineName, Value.ref a_columnName, Value.int v_goals, Value.int v_lines, Value.int v_columns, Value.long v_base]))] ++ va_pl LP fp) sz) := by
  refine Met.ofW (cc := cX8_changeLine) (maxL := 9) (ret := none) pn_X8 rfl ?_
  intro p e s m args below meth c s₁ B hml hv
  obtain ⟨rfl, hsz, hP, hK, hD0⟩ := hv
  have hx := B.exec
  have hb := B.bytes
  have hr := B.returns
  have hts := atoms_spec (ws := wsX8_changeLine) B.pre
  have hown : s.vm.findClass RX8 = some m.cls := findClass_of_methodNamed B.named
  have hlocks := B.notSynchronized
  subst hsz
  have hD := hD0.self (sz := s.heap.size)
  generalize hAe : va_A ([(o, Sum.inr (8, [Value.ref a_entry, Value.ref a_lineName, Value.ref a_columnName, Value.int v_goals, Value.int v_lines, Value.int v_columns, Value.long v_base]))] ++ va_pl LP fp) s.heap.size = A at hD ⊢
  have hA : ∀ q : Nat, s.heap.size ≤ q → A q := fun q h => by rw [← hAe]; exact Or.inr h
  have hS : va_S A s.heap s.heap [] := va_S.rf
  have hP : va_P (dC, dI) vwCl ([(o, Sum.inr (8, [Value.ref a_entry, Value.ref a_lineName, Value.ref a_columnName, Value.int v_goals, Value.int v_lines, Value.int v_columns, Value.long v_base]))] ++ va_pl LP fp) s.heap := hP
  have hl := lv_entry ([Value.ref o, Value.ref p0, Value.ref p1, Value.int p2, Value.long p3]) (n := 9) (Nat.le_of_ble_eq_true rfl)
  rw [lg_entry_eq]
  generalize (lg_sl ([Value.ref o, Value.ref p0, Value.ref p1, Value.int p2, Value.long p3]) ++ List.replicate (9 - (lg_sl ([Value.ref o, Value.ref p0, Value.ref p1, Value.int p2, Value.long p3])).length) Slot.unset).toArray = ls at hl ⊢
  have hl : lv_has ls 9 [(0, Value.ref o), (1, Value.ref p0), (2, Value.ref p1), (3, Value.int p2), (4, Value.long p3)] := hl
  refine lv_aload_n hx hb dX8_changeLine_0 rfl (lv_at hl 1 rfl) ?_
  refine lv_iload_n hx hb dX8_changeLine_1 rfl (lv_at hl 3 rfl) ?_
  have bp2 := hp2.u
  obtain ⟨gk1, hgk1⟩ := pok_13 (hfp) mp0
  obtain ⟨kk2, hkk2⟩ := va_pl_get (X := [(o, Sum.inr (8, [Value.ref a_entry, Value.ref a_lineName, Value.ref a_columnName, Value.int v_goals, Value.int v_lines, Value.int v_columns, Value.long v_base]))]) (f := fp) mp0.1
  have qkk2 := hkk2
  rw [hgk1] at qkk2
  refine va_lald hx hb hK hP kk2 1 qkk2 rfl (vq_in p2 13 (by omega)) dX8_changeLine_2 ?_
  refine lv_topl (fun y3 ey3 => ?_)
  refine lv_lstore (lv' := [(6, Value.long y3), (0, Value.ref o), (1, Value.ref p0), (2, Value.ref p1), (3, Value.int p2), (4, Value.long p3)]) hx hb dX8_changeLine_3 hl (by decide) rfl (fun ls hl => ?_)
  refine lv_iconst (v := 0) hx hb dX8_changeLine_5 (by decide) ?_
  refine lv_istore (lv' := [(8, Value.int 0), (6, Value.long y3), (0, Value.ref o), (1, Value.ref p0), (2, Value.ref p1), (3, Value.int p2), (4, Value.long p3)]) hx hb dX8_changeLine_6 hl (by decide) rfl (fun ls hl => ?_)
  refine tl_loop (I := fun nn H locs ls => ∃ (v4 : Int32) (f5 : Nat → va_E), nn = (18 - v4.toInt).toNat ∧ iv v4 0 18 ∧ pok cI cJ LP sh CT f5 ∧  va_P (dC, dI) vwCl ([(o, Sum.inr (8, [Value.ref a_entry, Value.ref a_lineName, Value.ref a_columnName, Value.int v_goals, Value.int v_lines, Value.int v_columns, Value.long v_base]))] ++ va_pl LP f5) H ∧ va_D A ([(o, Sum.inr (8, [Value.ref a_entry, Value.ref a_lineName, Value.ref a_columnName, Value.int v_goals, Value.int v_lines, Value.int v_columns, Value.long v_base]))] ++ va_pl LP f5) ∧ va_S A s.heap H locs ∧ lv_has ls 9 [(8, Value.int v4), (6, Value.long y3), (0, Value.ref o), (1, Value.ref p0), (2, Value.ref p1), (3, Value.int p2), (4, Value.long p3)]) ?_ ⟨0, fp, rfl, (iv.m (by decide)), hfp, hP, hD, hS, lv_sub hl [0, 1, 2, 3, 4, 5, 6] rfl⟩
  clear hP hD hS hl
  intro nn8 H locs ls hI ih8
  obtain ⟨v4, f5, hn8, hv4, hf5, hP, hD, hS, hl⟩ := hI
  have bv4 := hv4.u
  refine lv_iload hx hb dX8_changeLine_8 (lv_at hl 0 rfl) ?_
  refine lv_aload_n hx hb dX8_changeLine_10 rfl (lv_at hl 2 rfl) ?_
  refine va_get (D := (dC, dI)) (ci := 8) (v := Value.int v_columns) (C := RX8) (T := TX8) (N := 7) hx hb hts iw_X8_changeLine_X8 hown hK hP 0 rfl rfl 5 (by decide) (hts _ kk_X8_changeLine_0) (fun _ h9 => h9) rfl dX8_changeLine_11 ?_
  have bv_columns := hv_columns.u
  refine lv_icmp_gt (tgt := 62) hx hb dX8_changeLine_14 (by decide) (fun c6 => ?_) (fun c6 => ?_)
  · have c69 := i32_lt c6 rfl rfl
    have hP9 := hP.part (cx := [(o, Sum.inr (8, [Value.ref a_entry, Value.ref a_lineName, Value.ref a_columnName, Value.int v_goals, Value.int v_lines, Value.int v_columns, Value.long v_base]))]) [0] rfl
    have hD9 := hD.part (cx := [(o, Sum.inr (8, [Value.ref a_entry, Value.ref a_lineName, Value.ref a_columnName, Value.int v_goals, Value.int v_lines, Value.int v_columns, Value.long v_base]))]) [0] (by decide) rfl
    exact W.vret hx hb hr (fun t ht hW => ⟨⟨(), rfl, trivial, f5, hf5, by rw [ht]; exact hP9, hD9⟩, hS.F ht⟩) hS.2.2 dX8_changeLine_62
  · have c69 := i32_nlt c6 rfl rfl
    refine lv_iload hx hb dX8_changeLine_17 (lv_at hl 0 rfl) ?_
    refine lv_iload_n hx hb dX8_changeLine_19 rfl (lv_at hl 5 rfl) ?_
    refine lv_icmp_eq (tgt := 56) hx hb dX8_changeLine_20 (by decide) (fun c7 => ?_) (fun c7 => ?_)
    · have c79 := i32_eq c7 rfl rfl
      obtain ⟨x8, ex8⟩ : ∃ z : Int32, v4 + Int32.ofInt 1 = z := ⟨_, rfl⟩
      have tx8 := i32_inc ex8 rfl (by decide) (by omega) (by omega)
      refine lv_iinc (v := x8) (lv' := [(8, Value.int x8), (6, Value.long y3), (0, Value.ref o), (1, Value.ref p0), (2, Value.ref p1), (3, Value.int p2), (4, Value.long p3)]) hx hb dX8_changeLine_56 hl (k := 0) rfl ex8 (by decide) rfl (fun ls hl => ?_)
      refine lv_goto (tgt := 8) hx hb dX8_changeLine_59 (by decide) ?_
      exact ih8 _ _ _ _ (ms_up hn8 tx8 (by decide) (by omega)) ⟨x8, f5, rfl, (iv.m (by omega)), hf5, hP, hD, hS, lv_sub hl [0, 1, 2, 3, 4, 5, 6] rfl⟩
    · have c79 := i32_ne c7 rfl rfl
      refine lv_aload_n hx hb dX8_changeLine_23 rfl (lv_at hl 2 rfl) ?_
      refine va_get (D := (dC, dI)) (ci := 8) (v := Value.long v_base) (C := RX8) (T := TX8) (N := 7) hx hb hts iw_X8_changeLine_X8 hown hK hP 0 rfl rfl 6 (by decide) (hts _ kk_X8_changeLine_1) (fun _ h9 => h9) rfl dX8_changeLine_24 ?_
      refine lv_lconst (v := 0) hx hb dX8_changeLine_27 (by decide) ?_
      refine W.lcmp hx hb dX8_changeLine_28 ?_
      refine lv_if_eq (tgt := 56) hx hb dX8_changeLine_29 (by decide) (fun c9 => ?_) (fun c9 => ?_)
      · skip
        have c99 := lc_eq c9
        obtain ⟨x10, ex10⟩ : ∃ z : Int32, v4 + Int32.ofInt 1 = z := ⟨_, rfl⟩
        have tx10 := i32_inc ex10 rfl (by decide) (by omega) (by omega)
        refine lv_iinc (v := x10) (lv' := [(8, Value.int x10), (6, Value.long y3), (0, Value.ref o), (1, Value.ref p0), (2, Value.ref p1), (3, Value.int p2), (4, Value.long p3)]) hx hb dX8_changeLine_56 hl (k := 0) rfl ex10 (by decide) rfl (fun ls hl => ?_)
        refine lv_goto (tgt := 8) hx hb dX8_changeLine_59 (by decide) ?_
        exact ih8 _ _ _ _ (ms_up hn8 tx10 (by decide) (by omega)) ⟨x10, f5, rfl, (iv.m (by omega)), hf5, hP, hD, hS, lv_sub hl [0, 1, 2, 3, 4, 5, 6] rfl⟩
      · skip
        have c99 := lc_ne c9
        refine lv_aload_n hx hb dX8_changeLine_32 rfl (lv_at hl 3 rfl) ?_
        refine lv_iload hx hb dX8_changeLine_33 (lv_at hl 0 rfl) ?_
        refine lv_lload hx hb dX8_changeLine_35 (lv_at hl 6 rfl) ?_
        refine lv_aload_n hx hb dX8_changeLine_37 rfl (lv_at hl 3 rfl) ?_
        refine lv_iload hx hb dX8_changeLine_38 (lv_at hl 0 rfl) ?_
        obtain ⟨gk11, hgk11⟩ := pok_13 (hf5) mp0
        obtain ⟨kk12, hkk12⟩ := va_pl_get (X := [(o, Sum.inr (8, [Value.ref a_entry, Value.ref a_lineName, Value.ref a_columnName, Value.int v_goals, Value.int v_lines, Value.int v_columns, Value.long v_base]))]) (f := f5) mp0.1
        have qkk12 := hkk12
        rw [hgk11] at qkk12
        refine va_lald hx hb hK hP kk12 1 qkk12 rfl (vq_in v4 13 (by omega)) dX8_changeLine_40 ?_
        refine lv_topl (fun y13 ey13 => ?_)
        refine lv_lmul hx hb dX8_changeLine_41 ?_
        refine lv_topl (fun y14 ey14 => ?_)
        refine lv_lload hx hb dX8_changeLine_42 (lv_at hl 1 rfl) ?_
        refine lv_aload_n hx hb dX8_changeLine_44 rfl (lv_at hl 4 rfl) ?_
        refine lv_iload hx hb dX8_changeLine_45 (lv_at hl 0 rfl) ?_
        obtain ⟨gk15, hgk15⟩ := pok_13 (hf5) mp1
        obtain ⟨kk16, hkk16⟩ := va_pl_get (X := [(o, Sum.inr (8, [Value.ref a_entry, Value.ref a_lineName, Value.ref a_columnName, Value.int v_goals, Value.int v_lines, Value.int v_columns, Value.long v_base]))]) (f := f5) mp1.1
        have qkk16 := hkk16
        rw [hgk15] at qkk16
        refine va_lald hx hb hK hP kk16 1 qkk16 rfl (vq_in v4 13 (by omega)) dX8_changeLine_47 ?_
        refine lv_topl (fun y17 ey17 => ?_)
        refine lv_lmul hx hb dX8_changeLine_48 ?_
        refine lv_topl (fun y18 ey18 => ?_)
        refine lv_ladd hx hb dX8_changeLine_49 ?_
        refine lv_topl (fun y19 ey19 => ?_)
        refine lv_aload_n hx hb dX8_changeLine_50 rfl (lv_at hl 2 rfl) ?_
        refine va_get (D := (dC, dI)) (ci := 8) (v := Value.long v_base) (C := RX8) (T := TX8) (N := 7) hx hb hts iw_X8_changeLine_X8 hown hK hP 0 rfl rfl 6 (by decide) (hts _ kk_X8_changeLine_1) (fun _ h9 => h9) rfl dX8_changeLine_51 ?_
        refine lv_ldiv hx hb dX8_changeLine_54 c99 ?_
        refine lv_topl (fun y20 ey20 => ?_)
        obtain ⟨gk21, hgk21⟩ := pok_13 (hf5) mp0
        obtain ⟨kk22, hkk22⟩ := va_pl_get (X := [(o, Sum.inr (8, [Value.ref a_entry, Value.ref a_lineName, Value.ref a_columnName, Value.int v_goals, Value.int v_lines, Value.int v_columns, Value.long v_base]))]) (f := f5) mp0.1
        have qkk22 := hkk22
        rw [hgk21] at qkk22
        have hDo := hD
        refine va_last hx hb hK hP hD hS kk22 1 qkk22 rfl (vq_in v4 13 (by omega)) dX8_changeLine_55 (fun H locs hP hD hS => ?_)
        rw [va_pl_set hDo mp0.1 hkk22] at hP hD
        have hfp23 := pok_up13 hf5 mp0 (Int32.toNatClampNeg v4) y20 gk21
        generalize va_up f5 p0 _ = fp23 at hP hD hfp23
        have hP : va_P (dC, dI) vwCl ([(o, Sum.inr (8, [Value.ref a_entry, Value.ref a_lineName, Value.ref a_columnName, Value.int v_goals, Value.int v_lines, Value.int v_columns, Value.long v_base]))] ++ va_pl LP fp23) H := hP
        have hD : va_D A ([(o, Sum.inr (8, [Value.ref a_entry, Value.ref a_lineName, Value.ref a_columnName, Value.int v_goals, Value.int v_lines, Value.int v_columns, Value.long v_base]))] ++ va_pl LP fp23) := hD
        obtain ⟨x24, ex24⟩ : ∃ z : Int32, v4 + Int32.ofInt 1 = z := ⟨_, rfl⟩
        have tx24 := i32_inc ex24 rfl (by decide) (by omega) (by omega)
        refine lv_iinc (v := x24) (lv' := [(8, Value.int x24), (6, Value.long y3), (0, Value.ref o), (1, Value.ref p0), (2, Value.ref p1), (3, Value.int p2), (4, Value.long p3)]) hx hb dX8_changeLine_56 hl (k := 0) rfl ex24 (by decide) rfl (fun ls hl => ?_)
        refine lv_goto (tgt := 8) hx hb dX8_changeLine_59 (by decide) ?_
        exact ih8 _ _ _ _ (ms_up hn8 tx24 (by decide) (by omega)) ⟨x24, fp23, rfl, (iv.m (by omega)), hfp23, hP, hD, hS, lv_sub hl [0, 1, 2, 3, 4, 5, 6] rfl⟩

set_option maxHeartbeats 4000000 in
set_option maxRecDepth 100000 in
theorem ct_X8_pivot (l : Launch) (dC : Nat → ClassId) (dI : Nat → Nat → Nat) (o : Nat) (p0 : Int32) (p1 : Int32) (a_entry : Nat) (a_lineName : Nat) (a_columnName : Nat) (v_goals : Int32) (v_lines : Int32) (v_columns : Int32) (v_base : Int64) (k_a_entry : ClassId) (R_a_entry : Nat → Nat) (k_a_lineName : ClassId) (f_a_lineName : Nat → Int32) (k_a_columnName : ClassId) (f_a_columnName : Nat → Int32) (LP : List Nat) (sh : Nat → Nat) (fp : Nat → va_E) (cI : ClassId) (cJ : ClassId) (CT : Nat → Nat → Int32) (hp0 : iv p0 0 17) (hp1 : iv p1 1 12) (hv_lines : iv v_lines 0 18) (hv_columns : iv v_columns 0 12) (hf_a_lineName : ivf f_a_lineName 0 99) (hf_a_columnName : ivf f_a_columnName 0 99) (hfp : pok cI cJ LP sh CT fp) (hRR_a_entry : ∀ i : Nat, i < 18 → R_a_entry i ∈ LP ∧ sh (R_a_entry i) = 13) (sz : Nat) : Met l yX8_pivot wsX8_pivot ({ frames := 1, cells := 0, slots := 0, locals := 28 }) (va_Pc [Value.ref o, Value.int p0, Value.int p1] (fun U => U.heap.size = sz ∧ va_P (dC, dI) vwCl ([(o, Sum.inr (8, [Value.ref a_entry, Value.ref a_lineName, Value.ref a_columnName, Value.int v_goals, Value.int v_lines, Value.int v_columns, Value.long v_base])), (a_entry, Sum.inl (k_a_entry, 18, Sum.inr (Sum.inr (Sum.inr (Sum.inr (rows_of 18 R_a_entry)))))), (a_lineName, Sum.inl (k_a_lineName, 18, Sum.inl f_a_lineName)), (a_columnName, Sum.inl (k_a_columnName, 13, Sum.inl f_a_columnName))] ++ va_pl LP fp) U.heap ∧ va_K (dC, dI) vwCl [(k_a_entry, (FieldType.array FieldType.long)), (k_a_lineName, FieldType.int), (k_a_columnName, FieldType.int), (cI, FieldType.int), (cJ, FieldType.long)] U ∧ va_D (fun _ => True) ([(o, Sum.inr (8, [Value.ref a_entry, Value.ref a_lineName, Value.ref a_columnName, Value.int v_goals, Value.int v_lines, Value.int v_columns, Value.long v_base])), (a_entry, Sum.inl (k_a_entry, 18, Sum.inr (Sum.inr (Sum.inr (Sum.inr (rows_of 18 R_a_entry)))))), (a_lineName, Sum.inl (k_a_lineName, 18, Sum.inl f_a_lineName)), (a_columnName, Sum.inl (k_a_columnName, 13, Sum.inl f_a_columnName))] ++ va_pl LP fp))) (va_Qv (fun _ : Unit => True) (fun _ t => ∃ (e_v_base : Int64) (e_f_a_lineName : Nat → Int32) (e_f_a_columnName : Nat → Int32) (e_fp : Nat → va_E), ivf e_f_a_lineName 0 99 ∧ ivf e_f_a_columnName 0 99 ∧ pok cI cJ LP sh CT e_fp ∧ va_P (dC, dI) vwCl ([(o, Sum.inr (8, [Value.ref a_entry, Value.ref a_lineName, Value.ref a_columnName, Value.int v_goals, Value.int v_lines, Value.int v_columns, Value.long e_v_base])), (a_entry, Sum.inl (k_a_entry, 18, Sum.inr (Sum.inr (Sum.inr (Sum.inr (rows_of 18 R_a_entry)))))), (a_lineName, Sum.inl (k_a_lineName, 18, Sum.inl e_f_a_lineName)), (a_columnName, Sum.inl (k_a_columnName, 13, Sum.inl e_f_a_columnName))] ++ va_pl LP e_fp) t.heap ∧ va_D (va_A ([(o, Sum.inr (8, [Value.ref a_entry, Value.ref a_lineName, Value.ref a_columnName, Value.int v_goals, Value.int v_lines, Value.int v_columns, Value.long v_base])), (a_entry, Sum.inl (k_a_entry, 18, Sum.inr (Sum.inr (Sum.inr (Sum.inr (rows_of 18 R_a_entry)))))), (a_lineName, Sum.inl (k_a_lineName, 18, Sum.inl f_a_lineName)), (a_columnName, Sum.inl (k_a_columnName, 13, Sum.inl f_a_columnName))] ++ va_pl LP fp) sz) ([(o, Sum.inr (8, [Value.ref a_entry, Value.ref a_lineName, Value.ref a_columnName, Value.int v_goals, Value.int v_lines, Value.int v_columns, Value.long e_v_base])), (a_entry, Sum.inl (k_a_entry, 18, Sum.inr (Sum.inr (Sum.inr (Sum.inr (rows_of 18 R_a_entry)))))), (a_lineName, Sum.inl (k_a_lineName, 18, Sum.inl e_f_a_lineName)), (a_columnName, Sum.inl (k_a_columnName, 13, Sum.inl e_f_a_columnName))] ++ va_pl LP e_fp)) (va_A ([(o, Sum.inr (8, [Value.ref a_entry, Value.ref a_lineName, Value.ref a_columnName, Value.int v_goals, Value.int v_lines, Value.int v_columns, Value.long v_base])), (a_entry, Sum.inl (k_a_entry, 18, Sum.inr (Sum.inr (Sum.inr (Sum.inr (rows_of 18 R_a_entry)))))), (a_lineName, Sum.inl (k_a_lineName, 18, Sum.inl f_a_lineName)), (a_columnName, Sum.inl (k_a_columnName, 13, Sum.inl f_a_columnName))] ++ va_pl LP fp) sz)) 0 0 (va_A ([(o, Sum.inr (8, [Value.ref a_entry, Value.ref a_lineName, Value.ref a_columnName, Value.int v_goals, Value.int v_lines, Value.int v_columns, Value.long v_base])), (a_entry, Sum.inl (k_a_entry, 18, Sum.inr (Sum.inr (Sum.inr (Sum.inr (rows_of 18 R_a_entry)))))), (a_lineName, Sum.inl (k_a_lineName, 18, Sum.inl f_a_lineName)), (a_columnName, Sum.inl (k_a_columnName, 13, Sum.inl f_a_columnName))] ++ va_pl LP fp) sz) := by
  refine Met.ofW (cc := cX8_pivot) (maxL := 7) (ret := none) pn_X8 rfl ?_
  intro p e s m args below meth c s₁ B hml hv
  obtain ⟨rfl, hsz, hP, hK, hD0⟩ := hv
  have hx := B.exec
  have hb := B.bytes
  have hr := B.returns
  have hts := atoms_spec (ws := wsX8_pivot) B.pre
  have hown : s.vm.findClass RX8 = some m.cls := findClass_of_methodNamed B.named
  have hlocks := B.notSynchronized
  subst hsz
  have hD := hD0.self (sz := s.heap.size)
  generalize hAe : va_A ([(o, Sum.inr (8, [Value.ref a_entry, Value.ref a_lineName, Value.ref a_columnName, Value.int v_goals, Value.int v_lines, Value.int v_columns, Value.long v_base])), (a_entry, Sum.inl (k_a_entry, 18, Sum.inr (Sum.inr (Sum.inr (Sum.inr (rows_of 18 R_a_entry)))))), (a_lineName, Sum.inl (k_a_lineName, 18, Sum.inl f_a_lineName)), (a_columnName, Sum.inl (k_a_columnName, 13, Sum.inl f_a_columnName))] ++ va_pl LP fp) s.heap.size = A at hD ⊢
  have hA : ∀ q : Nat, s.heap.size ≤ q → A q := fun q h => by rw [← hAe]; exact Or.inr h
  have hS : va_S A s.heap s.heap [] := va_S.rf
  have hP : va_P (dC, dI) vwCl ([(o, Sum.inr (8, [Value.ref a_entry, Value.ref a_lineName, Value.ref a_columnName, Value.int v_goals, Value.int v_lines, Value.int v_columns, Value.long v_base])), (a_entry, Sum.inl (k_a_entry, 18, Sum.inr (Sum.inr (Sum.inr (Sum.inr (rows_of 18 R_a_entry)))))), (a_lineName, Sum.inl (k_a_lineName, 18, Sum.inl f_a_lineName)), (a_columnName, Sum.inl (k_a_columnName, 13, Sum.inl f_a_columnName))] ++ va_pl LP fp) s.heap := hP
  have hl := lv_entry ([Value.ref o, Value.int p0, Value.int p1]) (n := 7) (Nat.le_of_ble_eq_true rfl)
  rw [lg_entry_eq]
  generalize (lg_sl ([Value.ref o, Value.int p0, Value.int p1]) ++ List.replicate (7 - (lg_sl ([Value.ref o, Value.int p0, Value.int p1])).length) Slot.unset).toArray = ls at hl ⊢
  have hl : lv_has ls 7 [(0, Value.ref o), (1, Value.int p0), (2, Value.int p1)] := hl
  refine lv_aload_n hx hb dX8_pivot_0 rfl (lv_at hl 0 rfl) ?_
  refine va_get (D := (dC, dI)) (ci := 8) (v := Value.ref a_entry) (C := RX8) (T := TX8) (N := 7) hx hb hts iw_X8_pivot_X8 hown hK hP 0 rfl rfl 0 (by decide) (hts _ kk_X8_pivot_0) (fun _ h9 => h9) rfl dX8_pivot_1 ?_
  refine lv_iload_n hx hb dX8_pivot_4 rfl (lv_at hl 1 rfl) ?_
  have bp0 := hp0.u
  have hinrw1 : vp_in p0 18 := (vq_in p0 18 (by omega))
  refine va_aldA hx hb hK hP 1 0 rfl rfl hinrw1 dX8_pivot_5 ?_
  obtain ⟨rw1, erw1⟩ : ∃ z : Nat, z = R_a_entry (Int32.toNatClampNeg p0) := ⟨_, rfl⟩
  refine px_v ((row_sel hinrw1).trans (congrArg Value.ref erw1.symm)) ?_
  have mrw1 : rw1 ∈ LP ∧ sh rw1 = 13 := by rw [erw1]; exact hRR_a_entry _ (vin_lt hinrw1)
  refine lv_astore_n (lv' := [(3, Value.ref rw1), (0, Value.ref o), (1, Value.int p0), (2, Value.int p1)]) hx hb dX8_pivot_6 rfl hl (by decide) rfl (fun ls hl => ?_)
  refine lv_aload_n hx hb dX8_pivot_7 rfl (lv_at hl 0 rfl) ?_
  refine lv_iload_n hx hb dX8_pivot_8 rfl (lv_at hl 3 rfl) ?_
  have bp1 := hp1.u
  obtain ⟨gk2, hgk2⟩ := pok_13 (hfp) mrw1
  obtain ⟨kk3, hkk3⟩ := va_pl_get (X := [(o, Sum.inr (8, [Value.ref a_entry, Value.ref a_lineName, Value.ref a_columnName, Value.int v_goals, Value.int v_lines, Value.int v_columns, Value.long v_base])), (a_entry, Sum.inl (k_a_entry, 18, Sum.inr (Sum.inr (Sum.inr (Sum.inr (rows_of 18 R_a_entry)))))), (a_lineName, Sum.inl (k_a_lineName, 18, Sum.inl f_a_lineName)), (a_columnName, Sum.inl (k_a_columnName, 13, Sum.inl f_a_columnName))]) (f := fp) mrw1.1
  have qkk3 := hkk3
  rw [hgk2] at qkk3
  refine va_lald hx hb hK hP kk3 4 qkk3 rfl (vq_in p1 13 (by omega)) dX8_pivot_9 ?_
  refine lv_topl (fun y4 ey4 => ?_)
  refine lv_lneg hx hb dX8_pivot_10 ?_
  refine lv_topl (fun y5 ey5 => ?_)
  refine lv_lstore (lv' := [(4, Value.long y5), (3, Value.ref rw1), (0, Value.ref o), (1, Value.int p0), (2, Value.int p1)]) hx hb dX8_pivot_11 hl (by decide) rfl (fun ls hl => ?_)
  refine lv_lload hx hb dX8_pivot_13 (lv_at hl 0 rfl) ?_
  refine lv_lconst (v := 1) hx hb dX8_pivot_15 (by decide) ?_
  refine W.lcmp hx hb dX8_pivot_16 ?_
  refine lv_if_lt (tgt := 29) hx hb dX8_pivot_17 (by decide) (fun c6 => ?_) (fun c6 => ?_)
  · skip
    have c69 := lc_lt c6
    have by5 : (-9223372036854775808 : Int) ≤ y5.toInt ∧ y5.toInt ≤ 9223372036854775807 := ⟨i64_min _, i64_max _⟩
    have dy5 := i64_lt c69 rfl (show (1 : Int64).toInt = 1 by decide)
    have hy5 : jv y5 (-9223372036854775808) 0 := jv.m (by omega)
    have hP9 := hP.part (cx := [(o, Sum.inr (8, [Value.ref a_entry, Value.ref a_lineName, Value.ref a_columnName, Value.int v_goals, Value.int v_lines, Value.int v_columns, Value.long v_base])), (a_entry, Sum.inl (k_a_entry, 18, Sum.inr (Sum.inr (Sum.inr (Sum.inr (rows_of 18 R_a_entry)))))), (a_lineName, Sum.inl (k_a_lineName, 18, Sum.inl f_a_lineName)), (a_columnName, Sum.inl (k_a_columnName, 13, Sum.inl f_a_columnName))]) [0, 1, 2, 3] rfl
    have hD9 := hD.part (cx := [(o, Sum.inr (8, [Value.ref a_entry, Value.ref a_lineName, Value.ref a_columnName, Value.int v_goals, Value.int v_lines, Value.int v_columns, Value.long v_base])), (a_entry, Sum.inl (k_a_entry, 18, Sum.inr (Sum.inr (Sum.inr (Sum.inr (rows_of 18 R_a_entry)))))), (a_lineName, Sum.inl (k_a_lineName, 18, Sum.inl f_a_lineName)), (a_columnName, Sum.inl (k_a_columnName, 13, Sum.inl f_a_columnName))]) [0, 1, 2, 3] (by decide) rfl
    exact W.vret hx hb hr (fun t ht hW => ⟨⟨(), rfl, trivial, v_base, f_a_lineName, f_a_columnName, fp, hf_a_lineName, hf_a_columnName, hfp, by rw [ht]; exact hP9, hD9⟩, hS.F ht⟩) hS.2.2 dX8_pivot_29
  · skip
    have c69 := lc_nlt c6
    have by5 : (-9223372036854775808 : Int) ≤ y5.toInt ∧ y5.toInt ≤ 9223372036854775807 := ⟨i64_min _, i64_max _⟩
    have dy5 := i64_le c69 (show (1 : Int64).toInt = 1 by decide) rfl
    have hy5 : jv y5 1 9223372036854775807 := jv.m (by omega)
    refine lv_aload_n hx hb dX8_pivot_20 rfl (lv_at hl 2 rfl) ?_
    refine va_get (D := (dC, dI)) (ci := 8) (v := Value.long v_base) (C := RX8) (T := TX8) (N := 7) hx hb hts iw_X8_pivot_X8 hown hK hP 0 rfl rfl 6 (by decide) (hts _ kk_X8_pivot_1) (fun _ h9 => h9) rfl dX8_pivot_21 ?_
    refine lv_lconst (v := 1) hx hb dX8_pivot_24 (by decide) ?_
    refine W.lcmp hx hb dX8_pivot_25 ?_
    refine lv_if_ge (tgt := 30) hx hb dX8_pivot_26 (by decide) (fun c7 => ?_) (fun c7 => ?_)
    · skip
      have c79 := lc_ge c7
      have bv_base : (-9223372036854775808 : Int) ≤ v_base.toInt ∧ v_base.toInt ≤ 9223372036854775807 := ⟨i64_min _, i64_max _⟩
      have dv_base := i64_le c79 (show (1 : Int64).toInt = 1 by decide) rfl
      have hv_base : jv v_base 1 9223372036854775807 := jv.m (by omega)
      refine lv_iconst (v := 0) hx hb dX8_pivot_30 (by decide) ?_
      refine lv_istore (lv' := [(6, Value.int 0), (4, Value.long y5), (3, Value.ref rw1), (0, Value.ref o), (1, Value.int p0), (2, Value.int p1)]) hx hb dX8_pivot_31 hl (by decide) rfl (fun ls hl => ?_)
      refine tl_loop (I := fun nn H locs ls => ∃ (v8 : Int32) (f9 : Nat → va_E), nn = (18 - v8.toInt).toNat ∧ iv v8 0 18 ∧ pok cI cJ LP sh CT f9 ∧  va_P (dC, dI) vwCl ([(o, Sum.inr (8, [Value.ref a_entry, Value.ref a_lineName, Value.ref a_columnName, Value.int v_goals, Value.int v_lines, Value.int v_columns, Value.long v_base])), (a_entry, Sum.inl (k_a_entry, 18, Sum.inr (Sum.inr (Sum.inr (Sum.inr (rows_of 18 R_a_entry)))))), (a_lineName, Sum.inl (k_a_lineName, 18, Sum.inl f_a_lineName)), (a_columnName, Sum.inl (k_a_columnName, 13, Sum.inl f_a_columnName))] ++ va_pl LP f9) H ∧ va_D A ([(o, Sum.inr (8, [Value.ref a_entry, Value.ref a_lineName, Value.ref a_columnName, Value.int v_goals, Value.int v_lines, Value.int v_columns, Value.long v_base])), (a_entry, Sum.inl (k_a_entry, 18, Sum.inr (Sum.inr (Sum.inr (Sum.inr (rows_of 18 R_a_entry)))))), (a_lineName, Sum.inl (k_a_lineName, 18, Sum.inl f_a_lineName)), (a_columnName, Sum.inl (k_a_columnName, 13, Sum.inl f_a_columnName))] ++ va_pl LP f9) ∧ va_S A s.heap H locs ∧ lv_has ls 7 [(6, Value.int v8), (4, Value.long y5), (3, Value.ref rw1), (0, Value.ref o), (1, Value.int p0), (2, Value.int p1)]) ?_ ⟨0, fp, rfl, (iv.m (by decide)), hfp, hP, hD, hS, lv_sub hl [0, 1, 2, 3, 4, 5] rfl⟩
      clear hP hD hS hl
      intro nn33 H locs ls hI ih33
      obtain ⟨v8, f9, hn33, hv8, hf9, hP, hD, hS, hl⟩ := hI
      have bv8 := hv8.u
      refine lv_iload hx hb dX8_pivot_33 (lv_at hl 0 rfl) ?_
      refine lv_aload_n hx hb dX8_pivot_35 rfl (lv_at hl 3 rfl) ?_
      refine va_get (D := (dC, dI)) (ci := 8) (v := Value.int v_lines) (C := RX8) (T := TX8) (N := 7) hx hb hts iw_X8_pivot_X8 hown hK hP 0 rfl rfl 4 (by decide) (hts _ kk_X8_pivot_2) (fun _ h9 => h9) rfl dX8_pivot_36 ?_
      have bv_lines := hv_lines.u
      refine lv_icmp_ge (tgt := 69) hx hb dX8_pivot_39 (by decide) (fun c10 => ?_) (fun c10 => ?_)
      · have c109 := i32_le c10 rfl rfl
        refine lv_iconst (v := 0) hx hb dX8_pivot_69 (by decide) ?_
        refine lv_istore (lv' := [(6, Value.int 0), (4, Value.long y5), (3, Value.ref rw1), (0, Value.ref o), (1, Value.int p0), (2, Value.int p1)]) hx hb dX8_pivot_70 hl (by decide) rfl (fun ls hl => ?_)
        refine tl_loop (I := fun nn H locs ls => ∃ (v11 : Int32) (f12 : Nat → va_E), nn = (18 - v11.toInt).toNat ∧ iv v11 0 18 ∧ pok cI cJ LP sh CT f12 ∧  va_P (dC, dI) vwCl ([(o, Sum.inr (8, [Value.ref a_entry, Value.ref a_lineName, Value.ref a_columnName, Value.int v_goals, Value.int v_lines, Value.int v_columns, Value.long v_base])), (a_entry, Sum.inl (k_a_entry, 18, Sum.inr (Sum.inr (Sum.inr (Sum.inr (rows_of 18 R_a_entry)))))), (a_lineName, Sum.inl (k_a_lineName, 18, Sum.inl f_a_lineName)), (a_columnName, Sum.inl (k_a_columnName, 13, Sum.inl f_a_columnName))] ++ va_pl LP f12) H ∧ va_D A ([(o, Sum.inr (8, [Value.ref a_entry, Value.ref a_lineName, Value.ref a_columnName, Value.int v_goals, Value.int v_lines, Value.int v_columns, Value.long v_base])), (a_entry, Sum.inl (k_a_entry, 18, Sum.inr (Sum.inr (Sum.inr (Sum.inr (rows_of 18 R_a_entry)))))), (a_lineName, Sum.inl (k_a_lineName, 18, Sum.inl f_a_lineName)), (a_columnName, Sum.inl (k_a_columnName, 13, Sum.inl f_a_columnName))] ++ va_pl LP f12) ∧ va_S A s.heap H locs ∧ lv_has ls 7 [(6, Value.int v11), (4, Value.long y5), (3, Value.ref rw1), (0, Value.ref o), (1, Value.int p0), (2, Value.int p1)]) ?_ ⟨0, f9, rfl, (iv.m (by decide)), hf9, hP, hD, hS, lv_sub hl [0, 1, 2, 3, 4, 5] rfl⟩
        clear hP hD hS hl
        intro nn72 H locs ls hI ih72
        obtain ⟨v11, f12, hn72, hv11, hf12, hP, hD, hS, hl⟩ := hI
        have bv11 := hv11.u
        refine lv_iload hx hb dX8_pivot_72 (lv_at hl 0 rfl) ?_
        refine lv_aload_n hx hb dX8_pivot_74 rfl (lv_at hl 3 rfl) ?_
        refine va_get (D := (dC, dI)) (ci := 8) (v := Value.int v_columns) (C := RX8) (T := TX8) (N := 7) hx hb hts iw_X8_pivot_X8 hown hK hP 0 rfl rfl 5 (by decide) (hts _ kk_X8_pivot_3) (fun _ h9 => h9) rfl dX8_pivot_75 ?_
        have bv_columns := hv_columns.u
        refine lv_icmp_gt (tgt := 96) hx hb dX8_pivot_78 (by decide) (fun c13 => ?_) (fun c13 => ?_)
        · have c139 := i32_lt c13 rfl rfl
          refine lv_aload_n hx hb dX8_pivot_96 rfl (lv_at hl 2 rfl) ?_
          refine lv_iload_n hx hb dX8_pivot_97 rfl (lv_at hl 5 rfl) ?_
          refine lv_aload_n hx hb dX8_pivot_98 rfl (lv_at hl 3 rfl) ?_
          refine va_get (D := (dC, dI)) (ci := 8) (v := Value.long v_base) (C := RX8) (T := TX8) (N := 7) hx hb hts iw_X8_pivot_X8 hown hK hP 0 rfl rfl 6 (by decide) (hts _ kk_X8_pivot_1) (fun _ h9 => h9) rfl dX8_pivot_99 ?_
          refine lv_lneg hx hb dX8_pivot_102 ?_
          refine lv_topl (fun y14 ey14 => ?_)
          have hy14 : jv y14 (-9223372036854775807) (-1) := jv.neg ey14 hv_base (by decide) (by decide) (by decide) (by decide)
          obtain ⟨gk15, hgk15⟩ := pok_13 (hf12) mrw1
          obtain ⟨kk16, hkk16⟩ := va_pl_get (X := [(o, Sum.inr (8, [Value.ref a_entry, Value.ref a_lineName, Value.ref a_columnName, Value.int v_goals, Value.int v_lines, Value.int v_columns, Value.long v_base])), (a_entry, Sum.inl (k_a_entry, 18, Sum.inr (Sum.inr (Sum.inr (Sum.inr (rows_of 18 R_a_entry)))))), (a_lineName, Sum.inl (k_a_lineName, 18, Sum.inl f_a_lineName)), (a_columnName, Sum.inl (k_a_columnName, 13, Sum.inl f_a_columnName))]) (f := f12) mrw1.1
          have qkk16 := hkk16
          rw [hgk15] at qkk16
          have hDo := hD
          refine va_last hx hb hK hP hD hS kk16 4 qkk16 rfl (vq_in p1 13 (by omega)) dX8_pivot_103 (fun H locs hP hD hS => ?_)
          rw [va_pl_set hDo mrw1.1 hkk16] at hP hD
          have hfp17 := pok_up13 hf12 mrw1 (Int32.toNatClampNeg p1) y14 gk15
          generalize va_up f12 rw1 _ = fp17 at hP hD hfp17
          have hP : va_P (dC, dI) vwCl ([(o, Sum.inr (8, [Value.ref a_entry, Value.ref a_lineName, Value.ref a_columnName, Value.int v_goals, Value.int v_lines, Value.int v_columns, Value.long v_base])), (a_entry, Sum.inl (k_a_entry, 18, Sum.inr (Sum.inr (Sum.inr (Sum.inr (rows_of 18 R_a_entry)))))), (a_lineName, Sum.inl (k_a_lineName, 18, Sum.inl f_a_lineName)), (a_columnName, Sum.inl (k_a_columnName, 13, Sum.inl f_a_columnName))] ++ va_pl LP fp17) H := hP
          have hD : va_D A ([(o, Sum.inr (8, [Value.ref a_entry, Value.ref a_lineName, Value.ref a_columnName, Value.int v_goals, Value.int v_lines, Value.int v_columns, Value.long v_base])), (a_entry, Sum.inl (k_a_entry, 18, Sum.inr (Sum.inr (Sum.inr (Sum.inr (rows_of 18 R_a_entry)))))), (a_lineName, Sum.inl (k_a_lineName, 18, Sum.inl f_a_lineName)), (a_columnName, Sum.inl (k_a_columnName, 13, Sum.inl f_a_columnName))] ++ va_pl LP fp17) := hD
          refine lv_aload_n hx hb dX8_pivot_104 rfl (lv_at hl 3 rfl) ?_
          refine lv_lload hx hb dX8_pivot_105 (lv_at hl 1 rfl) ?_
          refine va_put (D := (dC, dI)) (ci := 8) (v := Value.long y5) (ty := FieldType.long) (C := RX8) (T := TX8) (N := 7) hx hb hts iw_X8_pivot_X8 tyX8 tyX8_ok nmX8 hown hK hP hD hS 0 rfl rfl 6 (by decide) (hts _ kk_X8_pivot_1) (fun _ h9 => h9) rfl (by decide +kernel) rfl rfl (Nat.le_of_ble_eq_true rfl) dX8_pivot_107 (fun H locs hP hD hS => ?_)
          have hP : va_P (dC, dI) vwCl ([(o, Sum.inr (8, [Value.ref a_entry, Value.ref a_lineName, Value.ref a_columnName, Value.int v_goals, Value.int v_lines, Value.int v_columns, Value.long y5])), (a_entry, Sum.inl (k_a_entry, 18, Sum.inr (Sum.inr (Sum.inr (Sum.inr (rows_of 18 R_a_entry)))))), (a_lineName, Sum.inl (k_a_lineName, 18, Sum.inl f_a_lineName)), (a_columnName, Sum.inl (k_a_columnName, 13, Sum.inl f_a_columnName))] ++ va_pl LP fp17) H := hP
          have hD : va_D A ([(o, Sum.inr (8, [Value.ref a_entry, Value.ref a_lineName, Value.ref a_columnName, Value.int v_goals, Value.int v_lines, Value.int v_columns, Value.long y5])), (a_entry, Sum.inl (k_a_entry, 18, Sum.inr (Sum.inr (Sum.inr (Sum.inr (rows_of 18 R_a_entry)))))), (a_lineName, Sum.inl (k_a_lineName, 18, Sum.inl f_a_lineName)), (a_columnName, Sum.inl (k_a_columnName, 13, Sum.inl f_a_columnName))] ++ va_pl LP fp17) := hD
          refine lv_aload_n hx hb dX8_pivot_110 rfl (lv_at hl 3 rfl) ?_
          refine va_get (D := (dC, dI)) (ci := 8) (v := Value.ref a_lineName) (C := RX8) (T := TX8) (N := 7) hx hb hts iw_X8_pivot_X8 hown hK hP 0 rfl rfl 1 (by decide) (hts _ kk_X8_pivot_4) (fun _ h9 => h9) rfl dX8_pivot_111 ?_
          refine lv_iload_n hx hb dX8_pivot_114 rfl (lv_at hl 4 rfl) ?_
          refine va_iald hx hb hK hP 2 1 rfl rfl (vq_in p0 18 (by omega)) dX8_pivot_115 ?_
          refine lv_topi (fun x18 ex18 => ?_)
          have hx18 : iv x18 0 99 := iv.of (hf_a_lineName _) ex18
          refine lv_istore (lv' := [(6, Value.int x18), (4, Value.long y5), (3, Value.ref rw1), (0, Value.ref o), (1, Value.int p0), (2, Value.int p1)]) hx hb dX8_pivot_116 hl (by decide) rfl (fun ls hl => ?_)
          refine lv_aload_n hx hb dX8_pivot_118 rfl (lv_at hl 3 rfl) ?_
          refine va_get (D := (dC, dI)) (ci := 8) (v := Value.ref a_lineName) (C := RX8) (T := TX8) (N := 7) hx hb hts iw_X8_pivot_X8 hown hK hP 0 rfl rfl 1 (by decide) (hts _ kk_X8_pivot_4) (fun _ h9 => h9) rfl dX8_pivot_119 ?_
          refine lv_iload_n hx hb dX8_pivot_122 rfl (lv_at hl 4 rfl) ?_
          refine lv_aload_n hx hb dX8_pivot_123 rfl (lv_at hl 3 rfl) ?_
          refine va_get (D := (dC, dI)) (ci := 8) (v := Value.ref a_columnName) (C := RX8) (T := TX8) (N := 7) hx hb hts iw_X8_pivot_X8 hown hK hP 0 rfl rfl 2 (by decide) (hts _ kk_X8_pivot_5) (fun _ h9 => h9) rfl dX8_pivot_124 ?_
          refine lv_iload_n hx hb dX8_pivot_127 rfl (lv_at hl 5 rfl) ?_
          refine va_iald hx hb hK hP 3 2 rfl rfl (vq_in p1 13 (by omega)) dX8_pivot_128 ?_
          refine lv_topi (fun x19 ex19 => ?_)
          have hx19 : iv x19 0 99 := iv.of (hf_a_columnName _) ex19
          refine va_iast hx hb hK hP hD hS 2 1 rfl rfl (vq_in p0 18 (by omega)) dX8_pivot_129 (fun H locs hP hD hS => ?_)
          have hP : va_P (dC, dI) vwCl ([(o, Sum.inr (8, [Value.ref a_entry, Value.ref a_lineName, Value.ref a_columnName, Value.int v_goals, Value.int v_lines, Value.int v_columns, Value.long y5])), (a_entry, Sum.inl (k_a_entry, 18, Sum.inr (Sum.inr (Sum.inr (Sum.inr (rows_of 18 R_a_entry)))))), (a_lineName, Sum.inl (k_a_lineName, 18, Sum.inl (upd f_a_lineName (Int32.toNatClampNeg p0) x19))), (a_columnName, Sum.inl (k_a_columnName, 13, Sum.inl f_a_columnName))] ++ va_pl LP fp17) H := hP
          have hD : va_D A ([(o, Sum.inr (8, [Value.ref a_entry, Value.ref a_lineName, Value.ref a_columnName, Value.int v_goals, Value.int v_lines, Value.int v_columns, Value.long y5])), (a_entry, Sum.inl (k_a_entry, 18, Sum.inr (Sum.inr (Sum.inr (Sum.inr (rows_of 18 R_a_entry)))))), (a_lineName, Sum.inl (k_a_lineName, 18, Sum.inl (upd f_a_lineName (Int32.toNatClampNeg p0) x19))), (a_columnName, Sum.inl (k_a_columnName, 13, Sum.inl f_a_columnName))] ++ va_pl LP fp17) := hD
          have hf20 : ivf (upd f_a_lineName (Int32.toNatClampNeg p0) x19) 0 99 := ivf.up hf_a_lineName hx19 _
          have wf20 : (upd f_a_lineName (Int32.toNatClampNeg p0) x19) (Int32.toNatClampNeg p0) = x19 := pk_us
          generalize upd f_a_lineName (Int32.toNatClampNeg p0) x19 = f20 at hP hD hf20 wf20
          have hP : va_P (dC, dI) vwCl ([(o, Sum.inr (8, [Value.ref a_entry, Value.ref a_lineName, Value.ref a_columnName, Value.int v_goals, Value.int v_lines, Value.int v_columns, Value.long y5])), (a_entry, Sum.inl (k_a_entry, 18, Sum.inr (Sum.inr (Sum.inr (Sum.inr (rows_of 18 R_a_entry)))))), (a_lineName, Sum.inl (k_a_lineName, 18, Sum.inl f20)), (a_columnName, Sum.inl (k_a_columnName, 13, Sum.inl f_a_columnName))] ++ va_pl LP fp17) H := hP
          have hD : va_D A ([(o, Sum.inr (8, [Value.ref a_entry, Value.ref a_lineName, Value.ref a_columnName, Value.int v_goals, Value.int v_lines, Value.int v_columns, Value.long y5])), (a_entry, Sum.inl (k_a_entry, 18, Sum.inr (Sum.inr (Sum.inr (Sum.inr (rows_of 18 R_a_entry)))))), (a_lineName, Sum.inl (k_a_lineName, 18, Sum.inl f20)), (a_columnName, Sum.inl (k_a_columnName, 13, Sum.inl f_a_columnName))] ++ va_pl LP fp17) := hD
          refine lv_aload_n hx hb dX8_pivot_130 rfl (lv_at hl 3 rfl) ?_
          refine va_get (D := (dC, dI)) (ci := 8) (v := Value.ref a_columnName) (C := RX8) (T := TX8) (N := 7) hx hb hts iw_X8_pivot_X8 hown hK hP 0 rfl rfl 2 (by decide) (hts _ kk_X8_pivot_5) (fun _ h9 => h9) rfl dX8_pivot_131 ?_
          refine lv_iload_n hx hb dX8_pivot_134 rfl (lv_at hl 5 rfl) ?_
          refine lv_iload hx hb dX8_pivot_135 (lv_at hl 0 rfl) ?_
          refine va_iast hx hb hK hP hD hS 3 2 rfl rfl (vq_in p1 13 (by omega)) dX8_pivot_137 (fun H locs hP hD hS => ?_)
          have hP : va_P (dC, dI) vwCl ([(o, Sum.inr (8, [Value.ref a_entry, Value.ref a_lineName, Value.ref a_columnName, Value.int v_goals, Value.int v_lines, Value.int v_columns, Value.long y5])), (a_entry, Sum.inl (k_a_entry, 18, Sum.inr (Sum.inr (Sum.inr (Sum.inr (rows_of 18 R_a_entry)))))), (a_lineName, Sum.inl (k_a_lineName, 18, Sum.inl f20)), (a_columnName, Sum.inl (k_a_columnName, 13, Sum.inl (upd f_a_columnName (Int32.toNatClampNeg p1) x18)))] ++ va_pl LP fp17) H := hP
          have hD : va_D A ([(o, Sum.inr (8, [Value.ref a_entry, Value.ref a_lineName, Value.ref a_columnName, Value.int v_goals, Value.int v_lines, Value.int v_columns, Value.long y5])), (a_entry, Sum.inl (k_a_entry, 18, Sum.inr (Sum.inr (Sum.inr (Sum.inr (rows_of 18 R_a_entry)))))), (a_lineName, Sum.inl (k_a_lineName, 18, Sum.inl f20)), (a_columnName, Sum.inl (k_a_columnName, 13, Sum.inl (upd f_a_columnName (Int32.toNatClampNeg p1) x18)))] ++ va_pl LP fp17) := hD
          have hf21 : ivf (upd f_a_columnName (Int32.toNatClampNeg p1) x18) 0 99 := ivf.up hf_a_columnName hx18 _
          have wf21 : (upd f_a_columnName (Int32.toNatClampNeg p1) x18) (Int32.toNatClampNeg p1) = x18 := pk_us
          generalize upd f_a_columnName (Int32.toNatClampNeg p1) x18 = f21 at hP hD hf21 wf21
          have hP : va_P (dC, dI) vwCl ([(o, Sum.inr (8, [Value.ref a_entry, Value.ref a_lineName, Value.ref a_columnName, Value.int v_goals, Value.int v_lines, Value.int v_columns, Value.long y5])), (a_entry, Sum.inl (k_a_entry, 18, Sum.inr (Sum.inr (Sum.inr (Sum.inr (rows_of 18 R_a_entry)))))), (a_lineName, Sum.inl (k_a_lineName, 18, Sum.inl f20)), (a_columnName, Sum.inl (k_a_columnName, 13, Sum.inl f21))] ++ va_pl LP fp17) H := hP
          have hD : va_D A ([(o, Sum.inr (8, [Value.ref a_entry, Value.ref a_lineName, Value.ref a_columnName, Value.int v_goals, Value.int v_lines, Value.int v_columns, Value.long y5])), (a_entry, Sum.inl (k_a_entry, 18, Sum.inr (Sum.inr (Sum.inr (Sum.inr (rows_of 18 R_a_entry)))))), (a_lineName, Sum.inl (k_a_lineName, 18, Sum.inl f20)), (a_columnName, Sum.inl (k_a_columnName, 13, Sum.inl f21))] ++ va_pl LP fp17) := hD
          have hP9 := hP.part (cx := [(o, Sum.inr (8, [Value.ref a_entry, Value.ref a_lineName, Value.ref a_columnName, Value.int v_goals, Value.int v_lines, Value.int v_columns, Value.long y5])), (a_entry, Sum.inl (k_a_entry, 18, Sum.inr (Sum.inr (Sum.inr (Sum.inr (rows_of 18 R_a_entry)))))), (a_lineName, Sum.inl (k_a_lineName, 18, Sum.inl f20)), (a_columnName, Sum.inl (k_a_columnName, 13, Sum.inl f21))]) [0, 1, 2, 3] rfl
          have hD9 := hD.part (cx := [(o, Sum.inr (8, [Value.ref a_entry, Value.ref a_lineName, Value.ref a_columnName, Value.int v_goals, Value.int v_lines, Value.int v_columns, Value.long y5])), (a_entry, Sum.inl (k_a_entry, 18, Sum.inr (Sum.inr (Sum.inr (Sum.inr (rows_of 18 R_a_entry)))))), (a_lineName, Sum.inl (k_a_lineName, 18, Sum.inl f20)), (a_columnName, Sum.inl (k_a_columnName, 13, Sum.inl f21))]) [0, 1, 2, 3] (by decide) rfl
          exact W.vret hx hb hr (fun t ht hW => ⟨⟨(), rfl, trivial, y5, f20, f21, fp17, hf20, hf21, hfp17, by rw [ht]; exact hP9, hD9⟩, hS.F ht⟩) hS.2.2 dX8_pivot_138
        · have c139 := i32_nlt c13 rfl rfl
          refine lv_aload_n hx hb dX8_pivot_81 rfl (lv_at hl 2 rfl) ?_
          refine lv_iload hx hb dX8_pivot_82 (lv_at hl 0 rfl) ?_
          refine lv_aload_n hx hb dX8_pivot_84 rfl (lv_at hl 2 rfl) ?_
          refine lv_iload hx hb dX8_pivot_85 (lv_at hl 0 rfl) ?_
          obtain ⟨gk22, hgk22⟩ := pok_13 (hf12) mrw1
          obtain ⟨kk23, hkk23⟩ := va_pl_get (X := [(o, Sum.inr (8, [Value.ref a_entry, Value.ref a_lineName, Value.ref a_columnName, Value.int v_goals, Value.int v_lines, Value.int v_columns, Value.long v_base])), (a_entry, Sum.inl (k_a_entry, 18, Sum.inr (Sum.inr (Sum.inr (Sum.inr (rows_of 18 R_a_entry)))))), (a_lineName, Sum.inl (k_a_lineName, 18, Sum.inl f_a_lineName)), (a_columnName, Sum.inl (k_a_columnName, 13, Sum.inl f_a_columnName))]) (f := f12) mrw1.1
          have qkk23 := hkk23
          rw [hgk22] at qkk23
          refine va_lald hx hb hK hP kk23 4 qkk23 rfl (vq_in v11 13 (by omega)) dX8_pivot_87 ?_
          refine lv_topl (fun y24 ey24 => ?_)
          refine lv_lneg hx hb dX8_pivot_88 ?_
          refine lv_topl (fun y25 ey25 => ?_)
          obtain ⟨gk26, hgk26⟩ := pok_13 (hf12) mrw1
          obtain ⟨kk27, hkk27⟩ := va_pl_get (X := [(o, Sum.inr (8, [Value.ref a_entry, Value.ref a_lineName, Value.ref a_columnName, Value.int v_goals, Value.int v_lines, Value.int v_columns, Value.long v_base])), (a_entry, Sum.inl (k_a_entry, 18, Sum.inr (Sum.inr (Sum.inr (Sum.inr (rows_of 18 R_a_entry)))))), (a_lineName, Sum.inl (k_a_lineName, 18, Sum.inl f_a_lineName)), (a_columnName, Sum.inl (k_a_columnName, 13, Sum.inl f_a_columnName))]) (f := f12) mrw1.1
          have qkk27 := hkk27
          rw [hgk26] at qkk27
          have hDo := hD
          refine va_last hx hb hK hP hD hS kk27 4 qkk27 rfl (vq_in v11 13 (by omega)) dX8_pivot_89 (fun H locs hP hD hS => ?_)
          rw [va_pl_set hDo mrw1.1 hkk27] at hP hD
          have hfp28 := pok_up13 hf12 mrw1 (Int32.toNatClampNeg v11) y25 gk26
          generalize va_up f12 rw1 _ = fp28 at hP hD hfp28
          have hP : va_P (dC, dI) vwCl ([(o, Sum.inr (8, [Value.ref a_entry, Value.ref a_lineName, Value.ref a_columnName, Value.int v_goals, Value.int v_lines, Value.int v_columns, Value.long v_base])), (a_entry, Sum.inl (k_a_entry, 18, Sum.inr (Sum.inr (Sum.inr (Sum.inr (rows_of 18 R_a_entry)))))), (a_lineName, Sum.inl (k_a_lineName, 18, Sum.inl f_a_lineName)), (a_columnName, Sum.inl (k_a_columnName, 13, Sum.inl f_a_columnName))] ++ va_pl LP fp28) H := hP
          have hD : va_D A ([(o, Sum.inr (8, [Value.ref a_entry, Value.ref a_lineName, Value.ref a_columnName, Value.int v_goals, Value.int v_lines, Value.int v_columns, Value.long v_base])), (a_entry, Sum.inl (k_a_entry, 18, Sum.inr (Sum.inr (Sum.inr (Sum.inr (rows_of 18 R_a_entry)))))), (a_lineName, Sum.inl (k_a_lineName, 18, Sum.inl f_a_lineName)), (a_columnName, Sum.inl (k_a_columnName, 13, Sum.inl f_a_columnName))] ++ va_pl LP fp28) := hD
          obtain ⟨x29, ex29⟩ : ∃ z : Int32, v11 + Int32.ofInt 1 = z := ⟨_, rfl⟩
          have tx29 := i32_inc ex29 rfl (by decide) (by omega) (by omega)
          refine lv_iinc (v := x29) (lv' := [(6, Value.int x29), (4, Value.long y5), (3, Value.ref rw1), (0, Value.ref o), (1, Value.int p0), (2, Value.int p1)]) hx hb dX8_pivot_90 hl (k := 0) rfl ex29 (by decide) rfl (fun ls hl => ?_)
          refine lv_goto (tgt := 72) hx hb dX8_pivot_93 (by decide) ?_
          exact ih72 _ _ _ _ (ms_up hn72 tx29 (by decide) (by omega)) ⟨x29, fp28, rfl, (iv.m (by omega)), hfp28, hP, hD, hS, lv_sub hl [0, 1, 2, 3, 4, 5] rfl⟩
      · have c109 := i32_nle c10 rfl rfl
        refine lv_iload hx hb dX8_pivot_42 (lv_at hl 0 rfl) ?_
        refine lv_iload_n hx hb dX8_pivot_44 rfl (lv_at hl 4 rfl) ?_
        refine lv_icmp_eq (tgt := 63) hx hb dX8_pivot_45 (by decide) (fun c30 => ?_) (fun c30 => ?_)
        · have c309 := i32_eq c30 rfl rfl
          obtain ⟨x31, ex31⟩ : ∃ z : Int32, v8 + Int32.ofInt 1 = z := ⟨_, rfl⟩
          have tx31 := i32_inc ex31 rfl (by decide) (by omega) (by omega)
          refine lv_iinc (v := x31) (lv' := [(6, Value.int x31), (4, Value.long y5), (3, Value.ref rw1), (0, Value.ref o), (1, Value.int p0), (2, Value.int p1)]) hx hb dX8_pivot_63 hl (k := 0) rfl ex31 (by decide) rfl (fun ls hl => ?_)
          refine lv_goto (tgt := 33) hx hb dX8_pivot_66 (by decide) ?_
          exact ih33 _ _ _ _ (ms_up hn33 tx31 (by decide) (by omega)) ⟨x31, f9, rfl, (iv.m (by omega)), hf9, hP, hD, hS, lv_sub hl [0, 1, 2, 3, 4, 5] rfl⟩
        · have c309 := i32_ne c30 rfl rfl
          refine lv_aload_n hx hb dX8_pivot_48 rfl (lv_at hl 3 rfl) ?_
          refine lv_aload_n hx hb dX8_pivot_49 rfl (lv_at hl 3 rfl) ?_
          refine va_get (D := (dC, dI)) (ci := 8) (v := Value.ref a_entry) (C := RX8) (T := TX8) (N := 7) hx hb hts iw_X8_pivot_X8 hown hK hP 0 rfl rfl 0 (by decide) (hts _ kk_X8_pivot_0) (fun _ h9 => h9) rfl dX8_pivot_50 ?_
          refine lv_iload hx hb dX8_pivot_53 (lv_at hl 0 rfl) ?_
          have hinrw32 : vp_in v8 18 := (vq_in v8 18 (by omega))
          refine va_aldA hx hb hK hP 1 0 rfl rfl hinrw32 dX8_pivot_55 ?_
          obtain ⟨rw32, erw32⟩ : ∃ z : Nat, z = R_a_entry (Int32.toNatClampNeg v8) := ⟨_, rfl⟩
          refine px_v ((row_sel hinrw32).trans (congrArg Value.ref erw32.symm)) ?_
          have mrw32 : rw32 ∈ LP ∧ sh rw32 = 13 := by rw [erw32]; exact hRR_a_entry _ (vin_lt hinrw32)
          refine lv_aload_n hx hb dX8_pivot_56 rfl (lv_at hl 2 rfl) ?_
          refine lv_iload_n hx hb dX8_pivot_57 rfl (lv_at hl 5 rfl) ?_
          refine lv_lload hx hb dX8_pivot_58 (lv_at hl 1 rfl) ?_
          have hPc := hP.part (cx := [(o, Sum.inr (8, [Value.ref a_entry, Value.ref a_lineName, Value.ref a_columnName, Value.int v_goals, Value.int v_lines, Value.int v_columns, Value.long v_base]))]) [0] rfl
          have hDc := hD.part (cx := [(o, Sum.inr (8, [Value.ref a_entry, Value.ref a_lineName, Value.ref a_columnName, Value.int v_goals, Value.int v_lines, Value.int v_columns, Value.long v_base]))]) [0] (by decide) rfl
          have hKc := hK.sub (tys' := [(cI, FieldType.int), (cJ, FieldType.long)]) [3, 4] rfl
          have hFc := va_freeP (cx := [(o, Sum.inr (8, [Value.ref a_entry, Value.ref a_lineName, Value.ref a_columnName, Value.int v_goals, Value.int v_lines, Value.int v_columns, Value.long v_base]))]) hD hS hA [0] rfl
          refine va_callv (va_runV (As := [Value.ref rw32, Value.ref rw1, Value.int p1, Value.long y5]) (rest := []) ⟨hx, hb, hml, hown, hts⟩ (ct_X8_changeLine l dC dI o rw32 rw1 p1 y5 a_entry a_lineName a_columnName v_goals v_lines v_columns v_base LP sh f9 cI cJ CT hp1 hv_columns hf9 mrw32 mrw1 H.size) (cwV 4 hts gX8_pivot_X8_changeLine rfl rfl rfl ⟨rfl, cn_X8.1, cn_X8.2, ds_35⟩ ⟨Nat.le_of_ble_eq_true rfl, Nat.le_of_ble_eq_true rfl⟩) ⟨fun a U g mk q => by obtain ⟨q0, q1, qP, qK, qD⟩ := q; exact ⟨q0, q1, qP, va_K.moved (u := U) (U := U.calling g mk a) (Vm.Alike.refl U.vm) qK, qD⟩, va_recv hKc hPc (ci := 8) (q0 := 0) rfl rfl, fun U hU hW => ⟨rfl, by rw [hU], by rw [hU]; exact hPc, va_K.moved hW.alike hKc, hDc.weaken (fun _ _ _ _ => trivial)⟩⟩ rfl rfl hl.1 rfl (lv_room (Nat.le_of_ble_eq_true rfl)) dX8_pivot_60 ⟨Nat.le_of_ble_eq_true rfl, Nat.le_of_ble_eq_true rfl⟩) hS (fun q _ h => hFc q h) hFc (fun u t H1 locs ht hvm hw hB hz1 hk1 hS => ?_)
          obtain ⟨fp34, hfp34, hP1, hD1⟩ := hB
          rw [ht] at hP1
          obtain ⟨hP, hD⟩ := va_joinP (X := [(o, Sum.inr (8, [Value.ref a_entry, Value.ref a_lineName, Value.ref a_columnName, Value.int v_goals, Value.int v_lines, Value.int v_columns, Value.long v_base])), (a_entry, Sum.inl (k_a_entry, 18, Sum.inr (Sum.inr (Sum.inr (Sum.inr (rows_of 18 R_a_entry)))))), (a_lineName, Sum.inl (k_a_lineName, 18, Sum.inl f_a_lineName)), (a_columnName, Sum.inl (k_a_columnName, 13, Sum.inl f_a_columnName))]) (cx := [(o, Sum.inr (8, [Value.ref a_entry, Value.ref a_lineName, Value.ref a_columnName, Value.int v_goals, Value.int v_lines, Value.int v_columns, Value.long v_base]))]) (wr := [(a_entry, Sum.inl (k_a_entry, 18, Sum.inr (Sum.inr (Sum.inr (Sum.inr (rows_of 18 R_a_entry)))))), (a_lineName, Sum.inl (k_a_lineName, 18, Sum.inl f_a_lineName)), (a_columnName, Sum.inl (k_a_columnName, 13, Sum.inl f_a_columnName))]) (rx := [(o, Sum.inr (8, [Value.ref a_entry, Value.ref a_lineName, Value.ref a_columnName, Value.int v_goals, Value.int v_lines, Value.int v_columns, Value.long v_base]))]) hP hD [0] [1, 2, 3] rfl rfl (by decide) (by decide) hk1 hFc hP1 hD1
          clear hPc hDc hKc hFc hP1 hD1 hk1 hz1
          generalize H1 = H at hP hS ⊢
          have hP : va_P (dC, dI) vwCl ([(a_entry, Sum.inl (k_a_entry, 18, Sum.inr (Sum.inr (Sum.inr (Sum.inr (rows_of 18 R_a_entry)))))), (a_lineName, Sum.inl (k_a_lineName, 18, Sum.inl f_a_lineName)), (a_columnName, Sum.inl (k_a_columnName, 13, Sum.inl f_a_columnName)), (o, Sum.inr (8, [Value.ref a_entry, Value.ref a_lineName, Value.ref a_columnName, Value.int v_goals, Value.int v_lines, Value.int v_columns, Value.long v_base]))] ++ va_pl LP fp34) H := hP
          have hD : va_D A ([(a_entry, Sum.inl (k_a_entry, 18, Sum.inr (Sum.inr (Sum.inr (Sum.inr (rows_of 18 R_a_entry)))))), (a_lineName, Sum.inl (k_a_lineName, 18, Sum.inl f_a_lineName)), (a_columnName, Sum.inl (k_a_columnName, 13, Sum.inl f_a_columnName)), (o, Sum.inr (8, [Value.ref a_entry, Value.ref a_lineName, Value.ref a_columnName, Value.int v_goals, Value.int v_lines, Value.int v_columns, Value.long v_base]))] ++ va_pl LP fp34) := hD
          refine W.widen (k := 0) (n := 0) (by decide) (by decide) ?_
          obtain ⟨x35, ex35⟩ : ∃ z : Int32, v8 + Int32.ofInt 1 = z := ⟨_, rfl⟩
          have tx35 := i32_inc ex35 rfl (by decide) (by omega) (by omega)
          refine lv_iinc (v := x35) (lv' := [(6, Value.int x35), (4, Value.long y5), (3, Value.ref rw1), (0, Value.ref o), (1, Value.int p0), (2, Value.int p1)]) hx hb dX8_pivot_63 hl (k := 0) rfl ex35 (by decide) rfl (fun ls hl => ?_)
          refine lv_goto (tgt := 33) hx hb dX8_pivot_66 (by decide) ?_
          exact ih33 _ _ _ _ (ms_up hn33 tx35 (by decide) (by omega)) ⟨x35, fp34, rfl, (iv.m (by omega)), hfp34, hP.part [3, 0, 1, 2] rfl, hD.part [3, 0, 1, 2] (by decide) rfl, hS, lv_sub hl [0, 1, 2, 3, 4, 5] rfl⟩
    · skip
      have c79 := lc_nge c7
      have bv_base : (-9223372036854775808 : Int) ≤ v_base.toInt ∧ v_base.toInt ≤ 9223372036854775807 := ⟨i64_min _, i64_max _⟩
      have dv_base := i64_lt c79 rfl (show (1 : Int64).toInt = 1 by decide)
      have hv_base : jv v_base (-9223372036854775808) 0 := jv.m (by omega)
      have hP9 := hP.part (cx := [(o, Sum.inr (8, [Value.ref a_entry, Value.ref a_lineName, Value.ref a_columnName, Value.int v_goals, Value.int v_lines, Value.int v_columns, Value.long v_base])), (a_entry, Sum.inl (k_a_entry, 18, Sum.inr (Sum.inr (Sum.inr (Sum.inr (rows_of 18 R_a_entry)))))), (a_lineName, Sum.inl (k_a_lineName, 18, Sum.inl f_a_lineName)), (a_columnName, Sum.inl (k_a_columnName, 13, Sum.inl f_a_columnName))]) [0, 1, 2, 3] rfl
      have hD9 := hD.part (cx := [(o, Sum.inr (8, [Value.ref a_entry, Value.ref a_lineName, Value.ref a_columnName, Value.int v_goals, Value.int v_lines, Value.int v_columns, Value.long v_base])), (a_entry, Sum.inl (k_a_entry, 18, Sum.inr (Sum.inr (Sum.inr (Sum.inr (rows_of 18 R_a_entry)))))), (a_lineName, Sum.inl (k_a_lineName, 18, Sum.inl f_a_lineName)), (a_columnName, Sum.inl (k_a_columnName, 13, Sum.inl f_a_columnName))]) [0, 1, 2, 3] (by decide) rfl
      exact W.vret hx hb hr (fun t ht hW => ⟨⟨(), rfl, trivial, v_base, f_a_lineName, f_a_columnName, fp, hf_a_lineName, hf_a_columnName, hfp, by rw [ht]; exact hP9, hD9⟩, hS.F ht⟩) hS.2.2 dX8_pivot_29

set_option maxHeartbeats 4000000 in
set_option maxRecDepth 100000 in
theorem ct_X8_solve (l : Launch) (dC : Nat → ClassId) (dI : Nat → Nat → Nat) (o : Nat) (a_entry : Nat) (a_lineName : Nat) (a_columnName : Nat) (v_goals : Int32) (v_lines : Int32) (v_columns : Int32) (v_base : Int64) (k_a_entry : ClassId) (R_a_entry : Nat → Nat) (k_a_lineName : ClassId) (f_a_lineName : Nat → Int32) (k_a_columnName : ClassId) (f_a_columnName : Nat → Int32) (LP : List Nat) (sh : Nat → Nat) (fp : Nat → va_E) (cI : ClassId) (cJ : ClassId) (CT : Nat → Nat → Int32) (hv_goals : iv v_goals 0 18) (hv_lines : iv v_lines 0 18) (hv_columns : iv v_columns 0 12) (hf_a_lineName : ivf f_a_lineName 0 99) (hf_a_columnName : ivf f_a_columnName 0 99) (hfp : pok cI cJ LP sh CT fp) (hRR_a_entry : ∀ i : Nat, i < 18 → R_a_entry i ∈ LP ∧ sh (R_a_entry i) = 13) (sz : Nat) : Met l yX8_solve wsX8_solve ({ frames := 2, cells := 0, slots := 0, locals := 56 }) (va_Pc [Value.ref o] (fun U => U.heap.size = sz ∧ va_P (dC, dI) vwCl ([(o, Sum.inr (8, [Value.ref a_entry, Value.ref a_lineName, Value.ref a_columnName, Value.int v_goals, Value.int v_lines, Value.int v_columns, Value.long v_base])), (a_entry, Sum.inl (k_a_entry, 18, Sum.inr (Sum.inr (Sum.inr (Sum.inr (rows_of 18 R_a_entry)))))), (a_lineName, Sum.inl (k_a_lineName, 18, Sum.inl f_a_lineName)), (a_columnName, Sum.inl (k_a_columnName, 13, Sum.inl f_a_columnName))] ++ va_pl LP fp) U.heap ∧ va_K (dC, dI) vwCl [(k_a_entry, (FieldType.array FieldType.long)), (k_a_lineName, FieldType.int), (k_a_columnName, FieldType.int), (cI, FieldType.int), (cJ, FieldType.long)] U ∧ va_D (fun _ => True) ([(o, Sum.inr (8, [Value.ref a_entry, Value.ref a_lineName, Value.ref a_columnName, Value.int v_goals, Value.int v_lines, Value.int v_columns, Value.long v_base])), (a_entry, Sum.inl (k_a_entry, 18, Sum.inr (Sum.inr (Sum.inr (Sum.inr (rows_of 18 R_a_entry)))))), (a_lineName, Sum.inl (k_a_lineName, 18, Sum.inl f_a_lineName)), (a_columnName, Sum.inl (k_a_columnName, 13, Sum.inl f_a_columnName))] ++ va_pl LP fp))) (va_Qi (fun (r u : Int32) => u = r) (fun (r : Int32) t => ∃ (e_v_base : Int64) (e_f_a_lineName : Nat → Int32) (e_f_a_columnName : Nat → Int32) (e_fp : Nat → va_E), ivf e_f_a_lineName 0 99 ∧ ivf e_f_a_columnName 0 99 ∧ pok cI cJ LP sh CT e_fp ∧ ((r = 0) ∨ (r = 1)) ∧ va_P (dC, dI) vwCl ([(o, Sum.inr (8, [Value.ref a_entry, Value.ref a_lineName, Value.ref a_columnName, Value.int v_goals, Value.int v_lines, Value.int v_columns, Value.long e_v_base])), (a_entry, Sum.inl (k_a_entry, 18, Sum.inr (Sum.inr (Sum.inr (Sum.inr (rows_of 18 R_a_entry)))))), (a_lineName, Sum.inl (k_a_lineName, 18, Sum.inl e_f_a_lineName)), (a_columnName, Sum.inl (k_a_columnName, 13, Sum.inl e_f_a_columnName))] ++ va_pl LP e_fp) t.heap ∧ va_D (va_A ([(o, Sum.inr (8, [Value.ref a_entry, Value.ref a_lineName, Value.ref a_columnName, Value.int v_goals, Value.int v_lines, Value.int v_columns, Value.long v_base])), (a_entry, Sum.inl (k_a_entry, 18, Sum.inr (Sum.inr (Sum.inr (Sum.inr (rows_of 18 R_a_entry)))))), (a_lineName, Sum.inl (k_a_lineName, 18, Sum.inl f_a_lineName)), (a_columnName, Sum.inl (k_a_columnName, 13, Sum.inl f_a_columnName))] ++ va_pl LP fp) sz) ([(o, Sum.inr (8, [Value.ref a_entry, Value.ref a_lineName, Value.ref a_columnName, Value.int v_goals, Value.int v_lines, Value.int v_columns, Value.long e_v_base])), (a_entry, Sum.inl (k_a_entry, 18, Sum.inr (Sum.inr (Sum.inr (Sum.inr (rows_of 18 R_a_entry)))))), (a_lineName, Sum.inl (k_a_lineName, 18, Sum.inl e_f_a_lineName)), (a_columnName, Sum.inl (k_a_columnName, 13, Sum.inl e_f_a_columnName))] ++ va_pl LP e_fp)) (va_A ([(o, Sum.inr (8, [Value.ref a_entry, Value.ref a_lineName, Value.ref a_columnName, Value.int v_goals, Value.int v_lines, Value.int v_columns, Value.long v_base])), (a_entry, Sum.inl (k_a_entry, 18, Sum.inr (Sum.inr (Sum.inr (Sum.inr (rows_of 18 R_a_entry)))))), (a_lineName, Sum.inl (k_a_lineName, 18, Sum.inl f_a_lineName)), (a_columnName, Sum.inl (k_a_columnName, 13, Sum.inl f_a_columnName))] ++ va_pl LP fp) sz)) 0 0 (va_A ([(o, Sum.inr (8, [Value.ref a_entry, Value.ref a_lineName, Value.ref a_columnName, Value.int v_goals, Value.int v_lines, Value.int v_columns, Value.long v_base])), (a_entry, Sum.inl (k_a_entry, 18, Sum.inr (Sum.inr (Sum.inr (Sum.inr (rows_of 18 R_a_entry)))))), (a_lineName, Sum.inl (k_a_lineName, 18, Sum.inl f_a_lineName)), (a_columnName, Sum.inl (k_a_columnName, 13, Sum.inl f_a_columnName))] ++ va_pl LP fp) sz) := by
  refine Met.ofW (cc := cX8_solve) (maxL := 4) (ret := (some .boolean)) pn_X8 rfl ?_
  intro p e s m args below meth c s₁ B hml hv
  obtain ⟨rfl, hsz, hP, hK, hD0⟩ := hv
  have hx := B.exec
  have hb := B.bytes
  have hr := B.returns
  have hts := atoms_spec (ws := wsX8_solve) B.pre
  have hown : s.vm.findClass RX8 = some m.cls := findClass_of_methodNamed B.named
  have hlocks := B.notSynchronized
  subst hsz
  have hD := hD0.self (sz := s.heap.size)
  generalize hAe : va_A ([(o, Sum.inr (8, [Value.ref a_entry, Value.ref a_lineName, Value.ref a_columnName, Value.int v_goals, Value.int v_lines, Value.int v_columns, Value.long v_base])), (a_entry, Sum.inl (k_a_entry, 18, Sum.inr (Sum.inr (Sum.inr (Sum.inr (rows_of 18 R_a_entry)))))), (a_lineName, Sum.inl (k_a_lineName, 18, Sum.inl f_a_lineName)), (a_columnName, Sum.inl (k_a_columnName, 13, Sum.inl f_a_columnName))] ++ va_pl LP fp) s.heap.size = A at hD ⊢
  have hA : ∀ q : Nat, s.heap.size ≤ q → A q := fun q h => by rw [← hAe]; exact Or.inr h
  have hS : va_S A s.heap s.heap [] := va_S.rf
  have hP : va_P (dC, dI) vwCl ([(o, Sum.inr (8, [Value.ref a_entry, Value.ref a_lineName, Value.ref a_columnName, Value.int v_goals, Value.int v_lines, Value.int v_columns, Value.long v_base])), (a_entry, Sum.inl (k_a_entry, 18, Sum.inr (Sum.inr (Sum.inr (Sum.inr (rows_of 18 R_a_entry)))))), (a_lineName, Sum.inl (k_a_lineName, 18, Sum.inl f_a_lineName)), (a_columnName, Sum.inl (k_a_columnName, 13, Sum.inl f_a_columnName))] ++ va_pl LP fp) s.heap := hP
  have hl := lv_entry ([Value.ref o]) (n := 4) (Nat.le_of_ble_eq_true rfl)
  rw [lg_entry_eq]
  generalize (lg_sl ([Value.ref o]) ++ List.replicate (4 - (lg_sl ([Value.ref o])).length) Slot.unset).toArray = ls at hl ⊢
  have hl : lv_has ls 4 [(0, Value.ref o)] := hl
  refine lv_iconst (v := 0) hx hb dX8_solve_0 (by decide) ?_
  refine lv_istore_n (lv' := [(1, Value.int 0), (0, Value.ref o)]) hx hb dX8_solve_1 rfl hl (by decide) rfl (fun ls hl => ?_)
  refine tl_loop (I := fun nn H locs ls => ∃ (v1 : Int32) (v2 : Int64) (f3 : Nat → Int32) (f4 : Nat → Int32) (f5 : Nat → va_E), nn = (1000000 - v1.toInt).toNat ∧ iv v1 0 1000000 ∧ ivf f3 0 99 ∧ ivf f4 0 99 ∧ pok cI cJ LP sh CT f5 ∧  va_P (dC, dI) vwCl ([(o, Sum.inr (8, [Value.ref a_entry, Value.ref a_lineName, Value.ref a_columnName, Value.int v_goals, Value.int v_lines, Value.int v_columns, Value.long v2])), (a_entry, Sum.inl (k_a_entry, 18, Sum.inr (Sum.inr (Sum.inr (Sum.inr (rows_of 18 R_a_entry)))))), (a_lineName, Sum.inl (k_a_lineName, 18, Sum.inl f3)), (a_columnName, Sum.inl (k_a_columnName, 13, Sum.inl f4))] ++ va_pl LP f5) H ∧ va_D A ([(o, Sum.inr (8, [Value.ref a_entry, Value.ref a_lineName, Value.ref a_columnName, Value.int v_goals, Value.int v_lines, Value.int v_columns, Value.long v2])), (a_entry, Sum.inl (k_a_entry, 18, Sum.inr (Sum.inr (Sum.inr (Sum.inr (rows_of 18 R_a_entry)))))), (a_lineName, Sum.inl (k_a_lineName, 18, Sum.inl f3)), (a_columnName, Sum.inl (k_a_columnName, 13, Sum.inl f4))] ++ va_pl LP f5) ∧ va_S A s.heap H locs ∧ lv_has ls 4 [(1, Value.int v1), (0, Value.ref o)]) ?_ ⟨0, v_base, f_a_lineName, f_a_columnName, fp, rfl, (iv.m (by decide)), hf_a_lineName, hf_a_columnName, hfp, hP, hD, hS, lv_sub hl [0, 1] rfl⟩
  clear hP hD hS hl
  intro nn2 H locs ls hI ih2
  obtain ⟨v1, v2, f3, f4, f5, hn2, hv1, hf3, hf4, hf5, hP, hD, hS, hl⟩ := hI
  have bv1 := hv1.u
  refine lv_iload_n hx hb dX8_solve_2 rfl (lv_at hl 0 rfl) ?_
  refine lv_ldc (v := 1000000) hx hb hown (hts _ kk_X8_solve_0) dX8_solve_3 ?_
  refine lv_icmp_ge (tgt := 43) hx hb dX8_solve_5 (by decide) (fun c6 => ?_) (fun c6 => ?_)
  · have c69 := i32_le c6 (show (1000000 : Int32).toInt = 1000000 by decide) rfl
    refine lv_iconst (v := 0) hx hb dX8_solve_43 (by decide) ?_
    have hP9 := hP.part (cx := [(o, Sum.inr (8, [Value.ref a_entry, Value.ref a_lineName, Value.ref a_columnName, Value.int v_goals, Value.int v_lines, Value.int v_columns, Value.long v2])), (a_entry, Sum.inl (k_a_entry, 18, Sum.inr (Sum.inr (Sum.inr (Sum.inr (rows_of 18 R_a_entry)))))), (a_lineName, Sum.inl (k_a_lineName, 18, Sum.inl f3)), (a_columnName, Sum.inl (k_a_columnName, 13, Sum.inl f4))]) [0, 1, 2, 3] rfl
    have hD9 := hD.part (cx := [(o, Sum.inr (8, [Value.ref a_entry, Value.ref a_lineName, Value.ref a_columnName, Value.int v_goals, Value.int v_lines, Value.int v_columns, Value.long v2])), (a_entry, Sum.inl (k_a_entry, 18, Sum.inr (Sum.inr (Sum.inr (Sum.inr (rows_of 18 R_a_entry)))))), (a_lineName, Sum.inl (k_a_lineName, 18, Sum.inl f3)), (a_columnName, Sum.inl (k_a_columnName, 13, Sum.inl f4))]) [0, 1, 2, 3] (by decide) rfl
    exact W.zret (v := 0) hx hb hr rfl (fun t ht hW => ⟨⟨0, 0, rfl, rfl, v2, f3, f4, f5, hf3, hf4, hf5, (Or.inl rfl), by rw [ht]; exact hP9, hD9⟩, hS.F ht⟩) hS.2.2 dX8_solve_44
  · have c69 := i32_nle c6 (show (1000000 : Int32).toInt = 1000000 by decide) rfl
    refine lv_aload_n hx hb dX8_solve_8 rfl (lv_at hl 1 rfl) ?_
    have hPc := hP.part (cx := [(o, Sum.inr (8, [Value.ref a_entry, Value.ref a_lineName, Value.ref a_columnName, Value.int v_goals, Value.int v_lines, Value.int v_columns, Value.long v2])), (a_entry, Sum.inl (k_a_entry, 18, Sum.inr (Sum.inr (Sum.inr (Sum.inr (rows_of 18 R_a_entry)))))), (a_lineName, Sum.inl (k_a_lineName, 18, Sum.inl f3))]) [0, 1, 2] rfl
    have hDc := hD.part (cx := [(o, Sum.inr (8, [Value.ref a_entry, Value.ref a_lineName, Value.ref a_columnName, Value.int v_goals, Value.int v_lines, Value.int v_columns, Value.long v2])), (a_entry, Sum.inl (k_a_entry, 18, Sum.inr (Sum.inr (Sum.inr (Sum.inr (rows_of 18 R_a_entry)))))), (a_lineName, Sum.inl (k_a_lineName, 18, Sum.inl f3))]) [0, 1, 2] (by decide) rfl
    have hKc := hK.sub (tys' := [(k_a_entry, (FieldType.array FieldType.long)), (k_a_lineName, FieldType.int), (cI, FieldType.int), (cJ, FieldType.long)]) [0, 1, 3, 4] rfl
    have hFc := va_freeP (cx := [(o, Sum.inr (8, [Value.ref a_entry, Value.ref a_lineName, Value.ref a_columnName, Value.int v_goals, Value.int v_lines, Value.int v_columns, Value.long v2])), (a_entry, Sum.inl (k_a_entry, 18, Sum.inr (Sum.inr (Sum.inr (Sum.inr (rows_of 18 R_a_entry)))))), (a_lineName, Sum.inl (k_a_lineName, 18, Sum.inl f3))]) hD hS hA [0, 1, 2] rfl
    refine va_calli (va_runV (As := []) (rest := []) ⟨hx, hb, hml, hown, hts⟩ (ct_X8_lineBelowZero l dC dI o a_entry a_lineName a_columnName v_goals v_lines v_columns v2 k_a_entry R_a_entry k_a_lineName f3 LP sh f5 cI cJ CT hv_goals hv_lines hf3 hf5 hRR_a_entry H.size) (cwV 0 hts gX8_solve_X8_lineBelowZero rfl rfl rfl ⟨rfl, cn_X8.1, cn_X8.2, ds_34⟩ ⟨Nat.le_of_ble_eq_true rfl, Nat.le_of_ble_eq_true rfl⟩) ⟨fun a U g mk q => by obtain ⟨q0, q1, qP, qK, qD⟩ := q; exact ⟨q0, q1, qP, va_K.moved (u := U) (U := U.calling g mk a) (Vm.Alike.refl U.vm) qK, qD⟩, va_recv hKc hPc (ci := 8) (q0 := 0) rfl rfl, fun U hU hW => ⟨rfl, by rw [hU], by rw [hU]; exact hPc, va_K.moved hW.alike hKc, hDc.weaken (fun _ _ _ _ => trivial)⟩⟩ rfl rfl hl.1 rfl (lv_room (Nat.le_of_ble_eq_true rfl)) dX8_solve_9 ⟨Nat.le_of_ble_eq_true rfl, Nat.le_of_ble_eq_true rfl⟩) hS (fun q _ h => hFc q h) hFc (fun r7 u t H1 locs ht hvm hw hB hz1 hk1 hS => ?_)
    have hw : r7 = u := hw.symm
    subst hw
    obtain ⟨hr7, hP1, hD1⟩ := hB
    rw [ht] at hP1
    obtain ⟨hP, hD⟩ := va_joinP (X := [(o, Sum.inr (8, [Value.ref a_entry, Value.ref a_lineName, Value.ref a_columnName, Value.int v_goals, Value.int v_lines, Value.int v_columns, Value.long v2])), (a_entry, Sum.inl (k_a_entry, 18, Sum.inr (Sum.inr (Sum.inr (Sum.inr (rows_of 18 R_a_entry)))))), (a_lineName, Sum.inl (k_a_lineName, 18, Sum.inl f3)), (a_columnName, Sum.inl (k_a_columnName, 13, Sum.inl f4))]) (cx := [(o, Sum.inr (8, [Value.ref a_entry, Value.ref a_lineName, Value.ref a_columnName, Value.int v_goals, Value.int v_lines, Value.int v_columns, Value.long v2])), (a_entry, Sum.inl (k_a_entry, 18, Sum.inr (Sum.inr (Sum.inr (Sum.inr (rows_of 18 R_a_entry)))))), (a_lineName, Sum.inl (k_a_lineName, 18, Sum.inl f3))]) (wr := [(a_columnName, Sum.inl (k_a_columnName, 13, Sum.inl f4))]) (rx := [(o, Sum.inr (8, [Value.ref a_entry, Value.ref a_lineName, Value.ref a_columnName, Value.int v_goals, Value.int v_lines, Value.int v_columns, Value.long v2])), (a_entry, Sum.inl (k_a_entry, 18, Sum.inr (Sum.inr (Sum.inr (Sum.inr (rows_of 18 R_a_entry)))))), (a_lineName, Sum.inl (k_a_lineName, 18, Sum.inl f3))]) hP hD [0, 1, 2] [3] rfl rfl (by decide) (by decide) hk1 hFc hP1 hD1
    clear hPc hDc hKc hFc hP1 hD1 hk1 hz1
    generalize H1 = H at hP hS ⊢
    have hP : va_P (dC, dI) vwCl ([(a_columnName, Sum.inl (k_a_columnName, 13, Sum.inl f4)), (o, Sum.inr (8, [Value.ref a_entry, Value.ref a_lineName, Value.ref a_columnName, Value.int v_goals, Value.int v_lines, Value.int v_columns, Value.long v2])), (a_entry, Sum.inl (k_a_entry, 18, Sum.inr (Sum.inr (Sum.inr (Sum.inr (rows_of 18 R_a_entry)))))), (a_lineName, Sum.inl (k_a_lineName, 18, Sum.inl f3))] ++ va_pl LP f5) H := hP
    have hD : va_D A ([(a_columnName, Sum.inl (k_a_columnName, 13, Sum.inl f4)), (o, Sum.inr (8, [Value.ref a_entry, Value.ref a_lineName, Value.ref a_columnName, Value.int v_goals, Value.int v_lines, Value.int v_columns, Value.long v2])), (a_entry, Sum.inl (k_a_entry, 18, Sum.inr (Sum.inr (Sum.inr (Sum.inr (rows_of 18 R_a_entry)))))), (a_lineName, Sum.inl (k_a_lineName, 18, Sum.inl f3))] ++ va_pl LP f5) := hD
    refine W.widen (k := 0) (n := 0) (by decide) (by decide) ?_
    refine lv_istore_n (lv' := [(2, Value.int r7), (1, Value.int v1), (0, Value.ref o)]) hx hb dX8_solve_12 rfl hl (by decide) rfl (fun ls hl => ?_)
    refine lv_iload_n hx hb dX8_solve_13 rfl (lv_at hl 0 rfl) ?_
    have br7 := hr7.u
    refine lv_if_ge (tgt := 19) hx hb dX8_solve_14 (by decide) (fun c8 => ?_) (fun c8 => ?_)
    · have c89 := i32_le c8 (show (0 : Int32).toInt = 0 by decide) rfl
      refine lv_aload_n hx hb dX8_solve_19 rfl (lv_at hl 2 rfl) ?_
      refine lv_iload_n hx hb dX8_solve_20 rfl (lv_at hl 0 rfl) ?_
      have hPc := hP.part (cx := [(o, Sum.inr (8, [Value.ref a_entry, Value.ref a_lineName, Value.ref a_columnName, Value.int v_goals, Value.int v_lines, Value.int v_columns, Value.long v2])), (a_entry, Sum.inl (k_a_entry, 18, Sum.inr (Sum.inr (Sum.inr (Sum.inr (rows_of 18 R_a_entry)))))), (a_columnName, Sum.inl (k_a_columnName, 13, Sum.inl f4))]) [1, 2, 0] rfl
      have hDc := hD.part (cx := [(o, Sum.inr (8, [Value.ref a_entry, Value.ref a_lineName, Value.ref a_columnName, Value.int v_goals, Value.int v_lines, Value.int v_columns, Value.long v2])), (a_entry, Sum.inl (k_a_entry, 18, Sum.inr (Sum.inr (Sum.inr (Sum.inr (rows_of 18 R_a_entry)))))), (a_columnName, Sum.inl (k_a_columnName, 13, Sum.inl f4))]) [1, 2, 0] (by decide) rfl
      have hKc := hK.sub (tys' := [(k_a_entry, (FieldType.array FieldType.long)), (k_a_columnName, FieldType.int), (cI, FieldType.int), (cJ, FieldType.long)]) [0, 2, 3, 4] rfl
      have hFc := va_freeP (cx := [(o, Sum.inr (8, [Value.ref a_entry, Value.ref a_lineName, Value.ref a_columnName, Value.int v_goals, Value.int v_lines, Value.int v_columns, Value.long v2])), (a_entry, Sum.inl (k_a_entry, 18, Sum.inr (Sum.inr (Sum.inr (Sum.inr (rows_of 18 R_a_entry)))))), (a_columnName, Sum.inl (k_a_columnName, 13, Sum.inl f4))]) hD hS hA [1, 2, 0] rfl
      refine va_calli (va_runV (As := [Value.int r7]) (rest := []) ⟨hx, hb, hml, hown, hts⟩ (ct_X8_columnFor l dC dI o r7 a_entry a_lineName a_columnName v_goals v_lines v_columns v2 k_a_entry R_a_entry k_a_columnName f4 LP sh f5 cI cJ CT (iv.m (by omega)) hv_goals hv_columns hf4 hf5 hRR_a_entry H.size) (cwV 1 hts gX8_solve_X8_columnFor rfl rfl rfl ⟨rfl, cn_X8.1, cn_X8.2, ds_5⟩ ⟨Nat.le_of_ble_eq_true rfl, Nat.le_of_ble_eq_true rfl⟩) ⟨fun a U g mk q => by obtain ⟨q0, q1, qP, qK, qD⟩ := q; exact ⟨q0, q1, qP, va_K.moved (u := U) (U := U.calling g mk a) (Vm.Alike.refl U.vm) qK, qD⟩, va_recv hKc hPc (ci := 8) (q0 := 0) rfl rfl, fun U hU hW => ⟨rfl, by rw [hU], by rw [hU]; exact hPc, va_K.moved hW.alike hKc, hDc.weaken (fun _ _ _ _ => trivial)⟩⟩ rfl rfl hl.1 rfl (lv_room (Nat.le_of_ble_eq_true rfl)) dX8_solve_21 ⟨Nat.le_of_ble_eq_true rfl, Nat.le_of_ble_eq_true rfl⟩) hS (fun q _ h => hFc q h) hFc (fun r9 u t H1 locs ht hvm hw hB hz1 hk1 hS => ?_)
      have hw : r9 = u := hw.symm
      subst hw
      obtain ⟨hr9, w10, hP1, hD1⟩ := hB
      rw [ht] at hP1
      obtain ⟨hP, hD⟩ := va_joinP (X := [(a_columnName, Sum.inl (k_a_columnName, 13, Sum.inl f4)), (o, Sum.inr (8, [Value.ref a_entry, Value.ref a_lineName, Value.ref a_columnName, Value.int v_goals, Value.int v_lines, Value.int v_columns, Value.long v2])), (a_entry, Sum.inl (k_a_entry, 18, Sum.inr (Sum.inr (Sum.inr (Sum.inr (rows_of 18 R_a_entry)))))), (a_lineName, Sum.inl (k_a_lineName, 18, Sum.inl f3))]) (cx := [(o, Sum.inr (8, [Value.ref a_entry, Value.ref a_lineName, Value.ref a_columnName, Value.int v_goals, Value.int v_lines, Value.int v_columns, Value.long v2])), (a_entry, Sum.inl (k_a_entry, 18, Sum.inr (Sum.inr (Sum.inr (Sum.inr (rows_of 18 R_a_entry)))))), (a_columnName, Sum.inl (k_a_columnName, 13, Sum.inl f4))]) (wr := [(a_lineName, Sum.inl (k_a_lineName, 18, Sum.inl f3))]) (rx := [(o, Sum.inr (8, [Value.ref a_entry, Value.ref a_lineName, Value.ref a_columnName, Value.int v_goals, Value.int v_lines, Value.int v_columns, Value.long v2])), (a_entry, Sum.inl (k_a_entry, 18, Sum.inr (Sum.inr (Sum.inr (Sum.inr (rows_of 18 R_a_entry)))))), (a_columnName, Sum.inl (k_a_columnName, 13, Sum.inl f4))]) hP hD [1, 2, 0] [3] rfl rfl (by decide) (by decide) hk1 hFc hP1 hD1
      clear hPc hDc hKc hFc hP1 hD1 hk1 hz1
      generalize H1 = H at hP hS ⊢
      have hP : va_P (dC, dI) vwCl ([(a_lineName, Sum.inl (k_a_lineName, 18, Sum.inl f3)), (o, Sum.inr (8, [Value.ref a_entry, Value.ref a_lineName, Value.ref a_columnName, Value.int v_goals, Value.int v_lines, Value.int v_columns, Value.long v2])), (a_entry, Sum.inl (k_a_entry, 18, Sum.inr (Sum.inr (Sum.inr (Sum.inr (rows_of 18 R_a_entry)))))), (a_columnName, Sum.inl (k_a_columnName, 13, Sum.inl f4))] ++ va_pl LP f5) H := hP
      have hD : va_D A ([(a_lineName, Sum.inl (k_a_lineName, 18, Sum.inl f3)), (o, Sum.inr (8, [Value.ref a_entry, Value.ref a_lineName, Value.ref a_columnName, Value.int v_goals, Value.int v_lines, Value.int v_columns, Value.long v2])), (a_entry, Sum.inl (k_a_entry, 18, Sum.inr (Sum.inr (Sum.inr (Sum.inr (rows_of 18 R_a_entry)))))), (a_columnName, Sum.inl (k_a_columnName, 13, Sum.inl f4))] ++ va_pl LP f5) := hD
      refine W.widen (k := 0) (n := 0) (by decide) (by decide) ?_
      have br9 := hr9.u
      refine lv_istore_n (lv' := [(3, Value.int r9), (2, Value.int r7), (1, Value.int v1), (0, Value.ref o)]) hx hb dX8_solve_24 rfl hl (by decide) rfl (fun ls hl => ?_)
      refine lv_iload_n hx hb dX8_solve_25 rfl (lv_at hl 0 rfl) ?_
      refine lv_if_ge (tgt := 31) hx hb dX8_solve_26 (by decide) (fun c11 => ?_) (fun c11 => ?_)
      · have c119 := i32_le c11 (show (0 : Int32).toInt = 0 by decide) rfl
        refine lv_aload_n hx hb dX8_solve_31 rfl (lv_at hl 3 rfl) ?_
        refine lv_iload_n hx hb dX8_solve_32 rfl (lv_at hl 1 rfl) ?_
        refine lv_iload_n hx hb dX8_solve_33 rfl (lv_at hl 0 rfl) ?_
        have hPc := hP.part (cx := [(o, Sum.inr (8, [Value.ref a_entry, Value.ref a_lineName, Value.ref a_columnName, Value.int v_goals, Value.int v_lines, Value.int v_columns, Value.long v2])), (a_entry, Sum.inl (k_a_entry, 18, Sum.inr (Sum.inr (Sum.inr (Sum.inr (rows_of 18 R_a_entry)))))), (a_lineName, Sum.inl (k_a_lineName, 18, Sum.inl f3)), (a_columnName, Sum.inl (k_a_columnName, 13, Sum.inl f4))]) [1, 2, 0, 3] rfl
        have hDc := hD.part (cx := [(o, Sum.inr (8, [Value.ref a_entry, Value.ref a_lineName, Value.ref a_columnName, Value.int v_goals, Value.int v_lines, Value.int v_columns, Value.long v2])), (a_entry, Sum.inl (k_a_entry, 18, Sum.inr (Sum.inr (Sum.inr (Sum.inr (rows_of 18 R_a_entry)))))), (a_lineName, Sum.inl (k_a_lineName, 18, Sum.inl f3)), (a_columnName, Sum.inl (k_a_columnName, 13, Sum.inl f4))]) [1, 2, 0, 3] (by decide) rfl
        have hKc := hK.sub (tys' := [(k_a_entry, (FieldType.array FieldType.long)), (k_a_lineName, FieldType.int), (k_a_columnName, FieldType.int), (cI, FieldType.int), (cJ, FieldType.long)]) [0, 1, 2, 3, 4] rfl
        have hFc := va_freeP (cx := [(o, Sum.inr (8, [Value.ref a_entry, Value.ref a_lineName, Value.ref a_columnName, Value.int v_goals, Value.int v_lines, Value.int v_columns, Value.long v2])), (a_entry, Sum.inl (k_a_entry, 18, Sum.inr (Sum.inr (Sum.inr (Sum.inr (rows_of 18 R_a_entry)))))), (a_lineName, Sum.inl (k_a_lineName, 18, Sum.inl f3)), (a_columnName, Sum.inl (k_a_columnName, 13, Sum.inl f4))]) hD hS hA [1, 2, 0, 3] rfl
        refine va_callv (va_runV (As := [Value.int r7, Value.int r9]) (rest := []) ⟨hx, hb, hml, hown, hts⟩ (ct_X8_pivot l dC dI o r7 r9 a_entry a_lineName a_columnName v_goals v_lines v_columns v2 k_a_entry R_a_entry k_a_lineName f3 k_a_columnName f4 LP sh f5 cI cJ CT (iv.m (by omega)) (iv.m (by omega)) hv_lines hv_columns hf3 hf4 hf5 hRR_a_entry H.size) (cwV 2 hts gX8_solve_X8_pivot rfl rfl rfl ⟨rfl, cn_X8.1, cn_X8.2, ds_3⟩ ⟨Nat.le_of_ble_eq_true rfl, Nat.le_of_ble_eq_true rfl⟩) ⟨fun a U g mk q => by obtain ⟨q0, q1, qP, qK, qD⟩ := q; exact ⟨q0, q1, qP, va_K.moved (u := U) (U := U.calling g mk a) (Vm.Alike.refl U.vm) qK, qD⟩, va_recv hKc hPc (ci := 8) (q0 := 0) rfl rfl, fun U hU hW => ⟨rfl, by rw [hU], by rw [hU]; exact hPc, va_K.moved hW.alike hKc, hDc.weaken (fun _ _ _ _ => trivial)⟩⟩ rfl rfl hl.1 rfl (lv_room (Nat.le_of_ble_eq_true rfl)) dX8_solve_34 ⟨Nat.le_of_ble_eq_true rfl, Nat.le_of_ble_eq_true rfl⟩) hS (fun q _ h => hFc q h) hFc (fun u t H1 locs ht hvm hw hB hz1 hk1 hS => ?_)
        obtain ⟨y13, f14, f15, fp16, hf14, hf15, hfp16, hP1, hD1⟩ := hB
        rw [ht] at hP1
        obtain ⟨hP, hD⟩ := va_joinP (X := [(a_lineName, Sum.inl (k_a_lineName, 18, Sum.inl f3)), (o, Sum.inr (8, [Value.ref a_entry, Value.ref a_lineName, Value.ref a_columnName, Value.int v_goals, Value.int v_lines, Value.int v_columns, Value.long v2])), (a_entry, Sum.inl (k_a_entry, 18, Sum.inr (Sum.inr (Sum.inr (Sum.inr (rows_of 18 R_a_entry)))))), (a_columnName, Sum.inl (k_a_columnName, 13, Sum.inl f4))]) (cx := [(o, Sum.inr (8, [Value.ref a_entry, Value.ref a_lineName, Value.ref a_columnName, Value.int v_goals, Value.int v_lines, Value.int v_columns, Value.long v2])), (a_entry, Sum.inl (k_a_entry, 18, Sum.inr (Sum.inr (Sum.inr (Sum.inr (rows_of 18 R_a_entry)))))), (a_lineName, Sum.inl (k_a_lineName, 18, Sum.inl f3)), (a_columnName, Sum.inl (k_a_columnName, 13, Sum.inl f4))]) (wr := []) (rx := [(o, Sum.inr (8, [Value.ref a_entry, Value.ref a_lineName, Value.ref a_columnName, Value.int v_goals, Value.int v_lines, Value.int v_columns, Value.long y13])), (a_entry, Sum.inl (k_a_entry, 18, Sum.inr (Sum.inr (Sum.inr (Sum.inr (rows_of 18 R_a_entry)))))), (a_lineName, Sum.inl (k_a_lineName, 18, Sum.inl f14)), (a_columnName, Sum.inl (k_a_columnName, 13, Sum.inl f15))]) hP hD [1, 2, 0, 3] [] rfl rfl (by decide) (by decide) hk1 hFc hP1 hD1
        clear hPc hDc hKc hFc hP1 hD1 hk1 hz1
        generalize H1 = H at hP hS ⊢
        have hP : va_P (dC, dI) vwCl ([(o, Sum.inr (8, [Value.ref a_entry, Value.ref a_lineName, Value.ref a_columnName, Value.int v_goals, Value.int v_lines, Value.int v_columns, Value.long y13])), (a_entry, Sum.inl (k_a_entry, 18, Sum.inr (Sum.inr (Sum.inr (Sum.inr (rows_of 18 R_a_entry)))))), (a_lineName, Sum.inl (k_a_lineName, 18, Sum.inl f14)), (a_columnName, Sum.inl (k_a_columnName, 13, Sum.inl f15))] ++ va_pl LP fp16) H := hP
        have hD : va_D A ([(o, Sum.inr (8, [Value.ref a_entry, Value.ref a_lineName, Value.ref a_columnName, Value.int v_goals, Value.int v_lines, Value.int v_columns, Value.long y13])), (a_entry, Sum.inl (k_a_entry, 18, Sum.inr (Sum.inr (Sum.inr (Sum.inr (rows_of 18 R_a_entry)))))), (a_lineName, Sum.inl (k_a_lineName, 18, Sum.inl f14)), (a_columnName, Sum.inl (k_a_columnName, 13, Sum.inl f15))] ++ va_pl LP fp16) := hD
        refine W.widen (k := 0) (n := 0) (by decide) (by decide) ?_
        obtain ⟨x17, ex17⟩ : ∃ z : Int32, v1 + Int32.ofInt 1 = z := ⟨_, rfl⟩
        have tx17 := i32_inc ex17 rfl (by decide) (by omega) (by omega)
        refine lv_iinc (v := x17) (lv' := [(1, Value.int x17), (3, Value.int r9), (2, Value.int r7), (0, Value.ref o)]) hx hb dX8_solve_37 hl (k := 2) rfl ex17 (by decide) rfl (fun ls hl => ?_)
        refine lv_goto (tgt := 2) hx hb dX8_solve_40 (by decide) ?_
        exact ih2 _ _ _ _ (ms_up hn2 tx17 (by decide) (by omega)) ⟨x17, y13, f14, f15, fp16, rfl, (iv.m (by omega)), hf14, hf15, hfp16, hP, hD, hS, lv_sub hl [0, 3] rfl⟩
      · have c119 := i32_nle c11 (show (0 : Int32).toInt = 0 by decide) rfl
        refine lv_iconst (v := 0) hx hb dX8_solve_29 (by decide) ?_
        have hP9 := hP.part (cx := [(o, Sum.inr (8, [Value.ref a_entry, Value.ref a_lineName, Value.ref a_columnName, Value.int v_goals, Value.int v_lines, Value.int v_columns, Value.long v2])), (a_entry, Sum.inl (k_a_entry, 18, Sum.inr (Sum.inr (Sum.inr (Sum.inr (rows_of 18 R_a_entry)))))), (a_lineName, Sum.inl (k_a_lineName, 18, Sum.inl f3)), (a_columnName, Sum.inl (k_a_columnName, 13, Sum.inl f4))]) [1, 2, 0, 3] rfl
        have hD9 := hD.part (cx := [(o, Sum.inr (8, [Value.ref a_entry, Value.ref a_lineName, Value.ref a_columnName, Value.int v_goals, Value.int v_lines, Value.int v_columns, Value.long v2])), (a_entry, Sum.inl (k_a_entry, 18, Sum.inr (Sum.inr (Sum.inr (Sum.inr (rows_of 18 R_a_entry)))))), (a_lineName, Sum.inl (k_a_lineName, 18, Sum.inl f3)), (a_columnName, Sum.inl (k_a_columnName, 13, Sum.inl f4))]) [1, 2, 0, 3] (by decide) rfl
        exact W.zret (v := 0) hx hb hr rfl (fun t ht hW => ⟨⟨0, 0, rfl, rfl, v2, f3, f4, f5, hf3, hf4, hf5, (Or.inl rfl), by rw [ht]; exact hP9, hD9⟩, hS.F ht⟩) hS.2.2 dX8_solve_30
    · have c89 := i32_nle c8 (show (0 : Int32).toInt = 0 by decide) rfl
      refine lv_iconst (v := 1) hx hb dX8_solve_17 (by decide) ?_
      have hP9 := hP.part (cx := [(o, Sum.inr (8, [Value.ref a_entry, Value.ref a_lineName, Value.ref a_columnName, Value.int v_goals, Value.int v_lines, Value.int v_columns, Value.long v2])), (a_entry, Sum.inl (k_a_entry, 18, Sum.inr (Sum.inr (Sum.inr (Sum.inr (rows_of 18 R_a_entry)))))), (a_lineName, Sum.inl (k_a_lineName, 18, Sum.inl f3)), (a_columnName, Sum.inl (k_a_columnName, 13, Sum.inl f4))]) [1, 2, 3, 0] rfl
      have hD9 := hD.part (cx := [(o, Sum.inr (8, [Value.ref a_entry, Value.ref a_lineName, Value.ref a_columnName, Value.int v_goals, Value.int v_lines, Value.int v_columns, Value.long v2])), (a_entry, Sum.inl (k_a_entry, 18, Sum.inr (Sum.inr (Sum.inr (Sum.inr (rows_of 18 R_a_entry)))))), (a_lineName, Sum.inl (k_a_lineName, 18, Sum.inl f3)), (a_columnName, Sum.inl (k_a_columnName, 13, Sum.inl f4))]) [1, 2, 3, 0] (by decide) rfl
      exact W.zret (v := 1) hx hb hr rfl (fun t ht hW => ⟨⟨1, 1, rfl, rfl, v2, f3, f4, f5, hf3, hf4, hf5, (Or.inr (rfl)), by rw [ht]; exact hP9, hD9⟩, hS.F ht⟩) hS.2.2 dX8_solve_18

set_option maxHeartbeats 4000000 in
set_option maxRecDepth 100000 in
theorem ct_J7_fill_d0a16_4 (l : Launch) (dC : Nat → ClassId) (dI : Nat → Nat → Nat) (p0 : Nat) (p1 : Int64) (k_p0 : ClassId) (f_p0 : Nat → Int64) (sz : Nat) : Met l yJ7_fill_d0a16 wsJ7_fill_d0a16 ({ frames := 0, cells := 0, slots := 0, locals := 0 }) (va_Pc [Value.ref p0, Value.long p1] (fun U => U.heap.size = sz ∧ va_P (dC, dI) vwCl [(p0, Sum.inl (k_p0, 4, Sum.inr (Sum.inl f_p0)))] U.heap ∧ va_K (dC, dI) vwCl [(k_p0, FieldType.long)] U ∧ va_D (fun _ => True) [(p0, Sum.inl (k_p0, 4, Sum.inr (Sum.inl f_p0)))])) (va_Qv (fun _ : Unit => True) (fun _ t => ∃ (e_f_p0 : Nat → Int64), va_P (dC, dI) vwCl [(p0, Sum.inl (k_p0, 4, Sum.inr (Sum.inl e_f_p0)))] t.heap ∧ va_D (va_A [(p0, Sum.inl (k_p0, 4, Sum.inr (Sum.inl f_p0)))] sz) [(p0, Sum.inl (k_p0, 4, Sum.inr (Sum.inl e_f_p0)))]) (va_A [(p0, Sum.inl (k_p0, 4, Sum.inr (Sum.inl f_p0)))] sz)) 0 0 (va_A [(p0, Sum.inl (k_p0, 4, Sum.inr (Sum.inl f_p0)))] sz) := by
  refine Met.ofW (cc := cJ7_fill_d0a16) (maxL := 5) (ret := none) pn_J7 rfl ?_
  intro p e s m args below meth c s₁ B hml hv
  obtain ⟨rfl, hsz, hP, hK, hD0⟩ := hv
  have hx := B.exec
  have hb := B.bytes
  have hr := B.returns
  have hts := atoms_spec (ws := wsJ7_fill_d0a16) B.pre
  have hown : s.vm.findClass RJ7 = some m.cls := findClass_of_methodNamed B.named
  have hlocks := B.notSynchronized
  subst hsz
  have hD := hD0.self (sz := s.heap.size)
  generalize hAe : va_A [(p0, Sum.inl (k_p0, 4, Sum.inr (Sum.inl f_p0)))] s.heap.size = A at hD ⊢
  have hA : ∀ q : Nat, s.heap.size ≤ q → A q := fun q h => by rw [← hAe]; exact Or.inr h
  have hS : va_S A s.heap s.heap [] := va_S.rf
  have hP : va_P (dC, dI) vwCl [(p0, Sum.inl (k_p0, 4, Sum.inr (Sum.inl f_p0)))] s.heap := hP
  have hl := lv_entry ([Value.ref p0, Value.long p1]) (n := 5) (Nat.le_of_ble_eq_true rfl)
  rw [lg_entry_eq]
  generalize (lg_sl ([Value.ref p0, Value.long p1]) ++ List.replicate (5 - (lg_sl ([Value.ref p0, Value.long p1])).length) Slot.unset).toArray = ls at hl ⊢
  have hl : lv_has ls 5 [(0, Value.ref p0), (1, Value.long p1)] := hl
  refine lv_iconst (v := 0) hx hb dJ7_fill_d0a16_0 (by decide) ?_
  refine lv_istore_n (lv' := [(3, Value.int 0), (0, Value.ref p0), (1, Value.long p1)]) hx hb dJ7_fill_d0a16_1 rfl hl (by decide) rfl (fun ls hl => ?_)
  refine lv_aload_n hx hb dJ7_fill_d0a16_2 rfl (lv_at hl 1 rfl) ?_
  refine va_alen hx hb hK hP 0 0 rfl rfl (v := 4) (show Int32.ofNat 4 = 4 by decide) dJ7_fill_d0a16_3 ?_
  refine lv_istore (lv' := [(4, Value.int 4), (3, Value.int 0), (0, Value.ref p0), (1, Value.long p1)]) hx hb dJ7_fill_d0a16_4 hl (by decide) rfl (fun ls hl => ?_)
  refine tl_loop (I := fun nn H locs ls => ∃ (v1 : Int32) (f2 : Nat → Int64), nn = (4 - v1.toInt).toNat ∧ iv v1 0 4 ∧  va_P (dC, dI) vwCl [(p0, Sum.inl (k_p0, 4, Sum.inr (Sum.inl f2)))] H ∧ va_D A [(p0, Sum.inl (k_p0, 4, Sum.inr (Sum.inl f2)))] ∧ va_S A s.heap H locs ∧ lv_has ls 5 [(4, Value.int 4), (3, Value.int v1), (0, Value.ref p0), (1, Value.long p1)]) ?_ ⟨0, f_p0, rfl, (iv.m (by decide)), hP, hD, hS, lv_sub hl [0, 1, 2, 3] rfl⟩
  clear hP hD hS hl
  intro nn6 H locs ls hI ih6
  obtain ⟨v1, f2, hn6, hv1, hP, hD, hS, hl⟩ := hI
  have bv1 := hv1.u
  refine lv_iload_n hx hb dJ7_fill_d0a16_6 rfl (lv_at hl 1 rfl) ?_
  refine lv_iload hx hb dJ7_fill_d0a16_7 (lv_at hl 0 rfl) ?_
  refine lv_icmp_ge (tgt := 22) hx hb dJ7_fill_d0a16_9 (by decide) (fun c3 => ?_) (fun c3 => ?_)
  · have c39 := i32_le c3 (show (4 : Int32).toInt = 4 by decide) rfl
    have hP9 := hP.sub (ws' := [(p0, Sum.inl (k_p0, 4, Sum.inr (Sum.inl f2)))]) [0] rfl
    have hD9 := hD.sub (ws' := [(p0, Sum.inl (k_p0, 4, Sum.inr (Sum.inl f2)))]) [0] (by decide) rfl
    exact W.vret hx hb hr (fun t ht hW => ⟨⟨(), rfl, trivial, f2, by rw [ht]; exact hP9, hD9⟩, hS.F ht⟩) hS.2.2 dJ7_fill_d0a16_22
  · have c39 := i32_nle c3 (show (4 : Int32).toInt = 4 by decide) rfl
    refine lv_aload_n hx hb dJ7_fill_d0a16_12 rfl (lv_at hl 2 rfl) ?_
    refine lv_iload_n hx hb dJ7_fill_d0a16_13 rfl (lv_at hl 1 rfl) ?_
    refine lv_lload_n hx hb dJ7_fill_d0a16_14 rfl (lv_at hl 3 rfl) ?_
    refine va_last hx hb hK hP hD hS 0 0 rfl rfl (vq_in v1 4 (by omega)) dJ7_fill_d0a16_15 (fun H locs hP hD hS => ?_)
    have hP : va_P (dC, dI) vwCl [(p0, Sum.inl (k_p0, 4, Sum.inr (Sum.inl (vp_updL f2 (Int32.toNatClampNeg v1) p1))))] H := hP
    have hD : va_D A [(p0, Sum.inl (k_p0, 4, Sum.inr (Sum.inl (vp_updL f2 (Int32.toNatClampNeg v1) p1))))] := hD
    have wf4 : (vp_updL f2 (Int32.toNatClampNeg v1) p1) (Int32.toNatClampNeg v1) = p1 := pk_uLs
    generalize vp_updL f2 (Int32.toNatClampNeg v1) p1 = f4 at hP hD wf4
    have hP : va_P (dC, dI) vwCl [(p0, Sum.inl (k_p0, 4, Sum.inr (Sum.inl f4)))] H := hP
    have hD : va_D A [(p0, Sum.inl (k_p0, 4, Sum.inr (Sum.inl f4)))] := hD
    obtain ⟨x5, ex5⟩ : ∃ z : Int32, v1 + Int32.ofInt 1 = z := ⟨_, rfl⟩
    have tx5 := i32_inc ex5 rfl (by decide) (by omega) (by omega)
    refine lv_iinc (v := x5) (lv' := [(3, Value.int x5), (4, Value.int 4), (0, Value.ref p0), (1, Value.long p1)]) hx hb dJ7_fill_d0a16_16 hl (k := 1) rfl ex5 (by decide) rfl (fun ls hl => ?_)
    refine lv_goto (tgt := 6) hx hb dJ7_fill_d0a16_19 (by decide) ?_
    exact ih6 _ _ _ _ (ms_up hn6 tx5 (by decide) (by omega)) ⟨x5, f4, rfl, (iv.m (by omega)), hP, hD, hS, lv_sub hl [1, 0, 2, 3] rfl⟩

set_option maxHeartbeats 4000000 in
set_option maxRecDepth 100000 in
theorem ct_X4_readWages (l : Launch) (dC : Nat → ClassId) (dI : Nat → Nat → Nat) (o : Nat) (a_above : Nat) (v_aboveLower : Int64) (o_table : Nat) (a_columnSign : Nat) (a_columnRate : Nat) (a_columnRoom : Nat) (v_columns : Int32) (v_rooms : Int32) (o_hire : Nat) (v_work : Int32) (v_keptSign : Int32) (v_joinedSign : Int32) (k_a_above : ClassId) (f_a_above : Nat → Int64) (table_a_entry : Nat) (table_a_lineName : Nat) (table_a_columnName : Nat) (table_v_goals : Int32) (table_v_lines : Int32) (table_v_columns : Int32) (table_v_base : Int64) (k_table_a_entry : ClassId) (R_table_a_entry : Nat → Nat) (k_table_a_lineName : ClassId) (f_table_a_lineName : Nat → Int32) (k_a_columnSign : ClassId) (f_a_columnSign : Nat → Int32) (k_a_columnRate : ClassId) (f_a_columnRate : Nat → Int32) (LP : List Nat) (sh : Nat → Nat) (fp : Nat → va_E) (cI : ClassId) (cJ : ClassId) (CT : Nat → Nat → Int32) (hv_columns : iv v_columns 0 12) (htable_v_goals : iv table_v_goals 0 18) (htable_v_lines : iv table_v_lines 0 18) (hf_table_a_lineName : ivf f_table_a_lineName 0 99) (hf_a_columnSign : ivf f_a_columnSign 0 3) (hfp : pok cI cJ LP sh CT fp) (hRR_table_a_entry : ∀ i : Nat, i < 18 → R_table_a_entry i ∈ LP ∧ sh (R_table_a_entry i) = 13) (sz : Nat) : Met l yX4_readWages wsX4_readWages ({ frames := 1, cells := 0, slots := 0, locals := 24 }) (va_Pc [Value.ref o] (fun U => U.heap.size = sz ∧ va_P (dC, dI) vwCl ([(o, Sum.inr (4, [Value.ref a_above, Value.long v_aboveLower, Value.ref o_table, Value.ref a_columnSign, Value.ref a_columnRate, Value.ref a_columnRoom, Value.int v_columns, Value.int v_rooms, Value.ref o_hire, Value.int v_work, Value.int v_keptSign, Value.int v_joinedSign])), (a_above, Sum.inl (k_a_above, 4, Sum.inr (Sum.inl f_a_above))), (o_table, Sum.inr (8, [Value.ref table_a_entry, Value.ref table_a_lineName, Value.ref table_a_columnName, Value.int table_v_goals, Value.int table_v_lines, Value.int table_v_columns, Value.long table_v_base])), (table_a_entry, Sum.inl (k_table_a_entry, 18, Sum.inr (Sum.inr (Sum.inr (Sum.inr (rows_of 18 R_table_a_entry)))))), (table_a_lineName, Sum.inl (k_table_a_lineName, 18, Sum.inl f_table_a_lineName)), (a_columnSign, Sum.inl (k_a_columnSign, 12, Sum.inl f_a_columnSign)), (a_columnRate, Sum.inl (k_a_columnRate, 12, Sum.inl f_a_columnRate))] ++ va_pl LP fp) U.heap ∧ va_K (dC, dI) vwCl [(k_a_above, FieldType.long), (k_table_a_entry, (FieldType.array FieldType.long)), (k_table_a_lineName, FieldType.int), (k_a_columnSign, FieldType.int), (k_a_columnRate, FieldType.int), (cI, FieldType.int), (cJ, FieldType.long)] U ∧ va_D (fun _ => True) ([(o, Sum.inr (4, [Value.ref a_above, Value.long v_aboveLower, Value.ref o_table, Value.ref a_columnSign, Value.ref a_columnRate, Value.ref a_columnRoom, Value.int v_columns, Value.int v_rooms, Value.ref o_hire, Value.int v_work, Value.int v_keptSign, Value.int v_joinedSign])), (a_above, Sum.inl (k_a_above, 4, Sum.inr (Sum.inl f_a_above))), (o_table, Sum.inr (8, [Value.ref table_a_entry, Value.ref table_a_lineName, Value.ref table_a_columnName, Value.int table_v_goals, Value.int table_v_lines, Value.int table_v_columns, Value.long table_v_base])), (table_a_entry, Sum.inl (k_table_a_entry, 18, Sum.inr (Sum.inr (Sum.inr (Sum.inr (rows_of 18 R_table_a_entry)))))), (table_a_lineName, Sum.inl (k_table_a_lineName, 18, Sum.inl f_table_a_lineName)), (a_columnSign, Sum.inl (k_a_columnSign, 12, Sum.inl f_a_columnSign)), (a_columnRate, Sum.inl (k_a_columnRate, 12, Sum.inl f_a_columnRate))] ++ va_pl LP fp))) (va_Qv (fun _ : Unit => True) (fun _ t => ∃ (e_v_aboveLower : Int64) (e_f_a_above : Nat → Int64), va_P (dC, dI) vwCl ([(o, Sum.inr (4, [Value.ref a_above, Value.long e_v_aboveLower, Value.ref o_table, Value.ref a_columnSign, Value.ref a_columnRate, Value.ref a_columnRoom, Value.int v_columns, Value.int v_rooms, Value.ref o_hire, Value.int v_work, Value.int v_keptSign, Value.int v_joinedSign])), (a_above, Sum.inl (k_a_above, 4, Sum.inr (Sum.inl e_f_a_above))), (o_table, Sum.inr (8, [Value.ref table_a_entry, Value.ref table_a_lineName, Value.ref table_a_columnName, Value.int table_v_goals, Value.int table_v_lines, Value.int table_v_columns, Value.long table_v_base])), (table_a_entry, Sum.inl (k_table_a_entry, 18, Sum.inr (Sum.inr (Sum.inr (Sum.inr (rows_of 18 R_table_a_entry)))))), (table_a_lineName, Sum.inl (k_table_a_lineName, 18, Sum.inl f_table_a_lineName)), (a_columnSign, Sum.inl (k_a_columnSign, 12, Sum.inl f_a_columnSign)), (a_columnRate, Sum.inl (k_a_columnRate, 12, Sum.inl f_a_columnRate))] ++ va_pl LP fp) t.heap ∧ va_D (va_A ([(o, Sum.inr (4, [Value.ref a_above, Value.long v_aboveLower, Value.ref o_table, Value.ref a_columnSign, Value.ref a_columnRate, Value.ref a_columnRoom, Value.int v_columns, Value.int v_rooms, Value.ref o_hire, Value.int v_work, Value.int v_keptSign, Value.int v_joinedSign])), (a_above, Sum.inl (k_a_above, 4, Sum.inr (Sum.inl f_a_above))), (o_table, Sum.inr (8, [Value.ref table_a_entry, Value.ref table_a_lineName, Value.ref table_a_columnName, Value.int table_v_goals, Value.int table_v_lines, Value.int table_v_columns, Value.long table_v_base])), (table_a_entry, Sum.inl (k_table_a_entry, 18, Sum.inr (Sum.inr (Sum.inr (Sum.inr (rows_of 18 R_table_a_entry)))))), (table_a_lineName, Sum.inl (k_table_a_lineName, 18, Sum.inl f_table_a_lineName)), (a_columnSign, Sum.inl (k_a_columnSign, 12, Sum.inl f_a_columnSign)), (a_columnRate, Sum.inl (k_a_columnRate, 12, Sum.inl f_a_columnRate))] ++ va_pl LP fp) sz) ([(o, Sum.inr (4, [Value.ref a_above, Value.long e_v_aboveLower, Value.ref o_table, Value.ref a_columnSign, Value.ref a_columnRate, Value.ref a_columnRoom, Value.int v_columns, Value.int v_rooms, Value.ref o_hire, Value.int v_work, Value.int v_keptSign, Value.int v_joinedSign])), (a_above, Sum.inl (k_a_above, 4, Sum.inr (Sum.inl e_f_a_above))), (o_table, Sum.inr (8, [Value.ref table_a_entry, Value.ref table_a_lineName, Value.ref table_a_columnName, Value.int table_v_goals, Value.int table_v_lines, Value.int table_v_columns, Value.long table_v_base])), (table_a_entry, Sum.inl (k_table_a_entry, 18, Sum.inr (Sum.inr (Sum.inr (Sum.inr (rows_of 18 R_table_a_entry)))))), (table_a_lineName, Sum.inl (k_table_a_lineName, 18, Sum.inl f_table_a_lineName)), (a_columnSign, Sum.inl (k_a_columnSign, 12, Sum.inl f_a_columnSign)), (a_columnRate, Sum.inl (k_a_columnRate, 12, Sum.inl f_a_columnRate))] ++ va_pl LP fp)) (va_A ([(o, Sum.inr (4, [Value.ref a_above, Value.long v_aboveLower, Value.ref o_table, Value.ref a_columnSign, Value.ref a_columnRate, Value.ref a_columnRoom, Value.int v_columns, Value.int v_rooms, Value.ref o_hire, Value.int v_work, Value.int v_keptSign, Value.int v_joinedSign])), (a_above, Sum.inl (k_a_above, 4, Sum.inr (Sum.inl f_a_above))), (o_table, Sum.inr (8, [Value.ref table_a_entry, Value.ref table_a_lineName, Value.ref table_a_columnName, Value.int table_v_goals, Value.int table_v_lines, Value.int table_v_columns, Value.long table_v_base])), (table_a_entry, Sum.inl (k_table_a_entry, 18, Sum.inr (Sum.inr (Sum.inr (Sum.inr (rows_of 18 R_table_a_entry)))))), (table_a_lineName, Sum.inl (k_table_a_lineName, 18, Sum.inl f_table_a_lineName)), (a_columnSign, Sum.inl (k_a_columnSign, 12, Sum.inl f_a_columnSign)), (a_columnRate, Sum.inl (k_a_columnRate, 12, Sum.inl f_a_columnRate))] ++ va_pl LP fp) sz)) 0 0 (va_A ([(o, Sum.inr (4, [Value.ref a_above, Value.long v_aboveLower, Value.ref o_table, Value.ref a_columnSign, Value.ref a_columnRate, Value.ref a_columnRoom, Value.int v_columns, Value.int v_rooms, Value.ref o_hire, Value.int v_work, Value.int v_keptSign, Value.int v_joinedSign])), (a_above, Sum.inl (k_a_above, 4, Sum.inr (Sum.inl f_a_above))), (o_table, Sum.inr (8, [Value.ref table_a_entry, Value.ref table_a_lineName, Value.ref table_a_columnName, Value.int table_v_goals, Value.int table_v_lines, Value.int table_v_columns, Value.long table_v_base])), (table_a_entry, Sum.inl (k_table_a_entry, 18, Sum.inr (Sum.inr (Sum.inr (Sum.inr (rows_of 18 R_table_a_entry)))))), (table_a_lineName, Sum.inl (k_table_a_lineName, 18, Sum.inl f_table_a_lineName)), (a_columnSign, Sum.inl (k_a_columnSign, 12, Sum.inl f_a_columnSign)), (a_columnRate, Sum.inl (k_a_columnRate, 12, Sum.inl f_a_columnRate))] ++ va_pl LP fp) sz) := by
  refine Met.ofW (cc := cX4_readWages) (maxL := 3) (ret := none) pn_X4 rfl ?_
  intro p e s m args below meth c s₁ B hml hv
  obtain ⟨rfl, hsz, hP, hK, hD0⟩ := hv
  have hx := B.exec
  have hb := B.bytes
  have hr := B.returns
  have hts := atoms_spec (ws := wsX4_readWages) B.pre
  have hown : s.vm.findClass RX4 = some m.cls := findClass_of_methodNamed B.named
  have hlocks := B.notSynchronized
  subst hsz
  have hD := hD0.self (sz := s.heap.size)
  generalize hAe : va_A ([(o, Sum.inr (4, [Value.ref a_above, Value.long v_aboveLower, Value.ref o_table, Value.ref a_columnSign, Value.ref a_columnRate, Value.ref a_columnRoom, Value.int v_columns, Value.int v_rooms, Value.ref o_hire, Value.int v_work, Value.int v_keptSign, Value.int v_joinedSign])), (a_above, Sum.inl (k_a_above, 4, Sum.inr (Sum.inl f_a_above))), (o_table, Sum.inr (8, [Value.ref table_a_entry, Value.ref table_a_lineName, Value.ref table_a_columnName, Value.int table_v_goals, Value.int table_v_lines, Value.int table_v_columns, Value.long table_v_base])), (table_a_entry, Sum.inl (k_table_a_entry, 18, Sum.inr (Sum.inr (Sum.inr (Sum.inr (rows_of 18 R_table_a_entry)))))), (table_a_lineName, Sum.inl (k_table_a_lineName, 18, Sum.inl f_table_a_lineName)), (a_columnSign, Sum.inl (k_a_columnSign, 12, Sum.inl f_a_columnSign)), (a_columnRate, Sum.inl (k_a_columnRate, 12, Sum.inl f_a_columnRate))] ++ va_pl LP fp) s.heap.size = A at hD ⊢
  have hA : ∀ q : Nat, s.heap.size ≤ q → A q := fun q h => by rw [← hAe]; exact Or.inr h
  have hS : va_S A s.heap s.heap [] := va_S.rf
  have hP : va_P (dC, dI) vwCl ([(o, Sum.inr (4, [Value.ref a_above, Value.long v_aboveLower, Value.ref o_table, Value.ref a_columnSign, Value.ref a_columnRate, Value.ref a_columnRoom, Value.int v_columns, Value.int v_rooms, Value.ref o_hire, Value.int v_work, Value.int v_keptSign, Value.int v_joinedSign])), (a_above, Sum.inl (k_a_above, 4, Sum.inr (Sum.inl f_a_above))), (o_table, Sum.inr (8, [Value.ref table_a_entry, Value.ref table_a_lineName, Value.ref table_a_columnName, Value.int table_v_goals, Value.int table_v_lines, Value.int table_v_columns, Value.long table_v_base])), (table_a_entry, Sum.inl (k_table_a_entry, 18, Sum.inr (Sum.inr (Sum.inr (Sum.inr (rows_of 18 R_table_a_entry)))))), (table_a_lineName, Sum.inl (k_table_a_lineName, 18, Sum.inl f_table_a_lineName)), (a_columnSign, Sum.inl (k_a_columnSign, 12, Sum.inl f_a_columnSign)), (a_columnRate, Sum.inl (k_a_columnRate, 12, Sum.inl f_a_columnRate))] ++ va_pl LP fp) s.heap := hP
  have hl := lv_entry ([Value.ref o]) (n := 3) (Nat.le_of_ble_eq_true rfl)
  rw [lg_entry_eq]
  generalize (lg_sl ([Value.ref o]) ++ List.replicate (3 - (lg_sl ([Value.ref o])).length) Slot.unset).toArray = ls at hl ⊢
  have hl : lv_has ls 3 [(0, Value.ref o)] := hl
  refine lv_aload_n hx hb dX4_readWages_0 rfl (lv_at hl 0 rfl) ?_
  refine va_get (D := (dC, dI)) (ci := 4) (v := Value.ref a_above) (C := RX4) (T := TX4) (N := 12) hx hb hts iw_X4_readWages_X4 hown hK hP 0 rfl rfl 0 (by decide) (hts _ kk_X4_readWages_0) (fun _ h9 => h9) rfl dX4_readWages_1 ?_
  refine lv_lconst (v := 0) hx hb dX4_readWages_4 (by decide) ?_
  have hPc := hP.sub (ws' := [(a_above, Sum.inl (k_a_above, 4, Sum.inr (Sum.inl f_a_above)))]) [1] rfl
  have hDc := hD.sub (ws' := [(a_above, Sum.inl (k_a_above, 4, Sum.inr (Sum.inl f_a_above)))]) [1] (by decide) rfl
  have hKc := hK.sub (tys' := [(k_a_above, FieldType.long)]) [0] rfl
  have hFc := va_free (wc := [(a_above, Sum.inl (k_a_above, 4, Sum.inr (Sum.inl f_a_above)))]) hD hS hA [1] rfl
  refine va_callv (va_runS (As := [Value.ref a_above, Value.long 0]) (rest := []) ⟨hx, hb, hml, hown, hts⟩ (ct_J7_fill_d0a16_4 l dC dI a_above 0 k_a_above f_a_above s.heap.size) (va_cwS 2 hts gX4_readWages_J7_fill_d0a16 rfl rfl rfl ⟨cn_J7.1, cn_J7.2, ds_49⟩ ⟨Nat.le_of_ble_eq_true rfl, Nat.le_of_ble_eq_true rfl⟩) ⟨fun a U g mk q => by obtain ⟨q0, q1, qP, qK, qD⟩ := q; exact ⟨q0, q1, qP, va_K.moved (u := U) (U := U.calling g mk a) (Vm.Alike.refl U.vm) qK, qD⟩, fun U hU hW => ⟨rfl, by rw [hU], by rw [hU]; exact hPc, va_K.moved hW.alike hKc, hDc.weaken (fun _ _ _ _ => trivial)⟩⟩ rfl rfl hl.1 rfl (lv_room (Nat.le_of_ble_eq_true rfl)) dX4_readWages_5 ⟨Nat.le_of_ble_eq_true rfl, Nat.le_of_ble_eq_true rfl⟩) hS (fun q _ h => hFc q h) hFc (fun u t H1 locs ht hvm hw hB hz1 hk1 hS => ?_)
  obtain ⟨f2, hP1, hD1⟩ := hB
  rw [ht] at hP1
  obtain ⟨hP, hD⟩ := va_joinQ (X := [(o, Sum.inr (4, [Value.ref a_above, Value.long v_aboveLower, Value.ref o_table, Value.ref a_columnSign, Value.ref a_columnRate, Value.ref a_columnRoom, Value.int v_columns, Value.int v_rooms, Value.ref o_hire, Value.int v_work, Value.int v_keptSign, Value.int v_joinedSign])), (a_above, Sum.inl (k_a_above, 4, Sum.inr (Sum.inl f_a_above))), (o_table, Sum.inr (8, [Value.ref table_a_entry, Value.ref table_a_lineName, Value.ref table_a_columnName, Value.int table_v_goals, Value.int table_v_lines, Value.int table_v_columns, Value.long table_v_base])), (table_a_entry, Sum.inl (k_table_a_entry, 18, Sum.inr (Sum.inr (Sum.inr (Sum.inr (rows_of 18 R_table_a_entry)))))), (table_a_lineName, Sum.inl (k_table_a_lineName, 18, Sum.inl f_table_a_lineName)), (a_columnSign, Sum.inl (k_a_columnSign, 12, Sum.inl f_a_columnSign)), (a_columnRate, Sum.inl (k_a_columnRate, 12, Sum.inl f_a_columnRate))]) (cx := [(a_above, Sum.inl (k_a_above, 4, Sum.inr (Sum.inl f_a_above)))]) (wr := [(o, Sum.inr (4, [Value.ref a_above, Value.long v_aboveLower, Value.ref o_table, Value.ref a_columnSign, Value.ref a_columnRate, Value.ref a_columnRoom, Value.int v_columns, Value.int v_rooms, Value.ref o_hire, Value.int v_work, Value.int v_keptSign, Value.int v_joinedSign])), (o_table, Sum.inr (8, [Value.ref table_a_entry, Value.ref table_a_lineName, Value.ref table_a_columnName, Value.int table_v_goals, Value.int table_v_lines, Value.int table_v_columns, Value.long table_v_base])), (table_a_entry, Sum.inl (k_table_a_entry, 18, Sum.inr (Sum.inr (Sum.inr (Sum.inr (rows_of 18 R_table_a_entry)))))), (table_a_lineName, Sum.inl (k_table_a_lineName, 18, Sum.inl f_table_a_lineName)), (a_columnSign, Sum.inl (k_a_columnSign, 12, Sum.inl f_a_columnSign)), (a_columnRate, Sum.inl (k_a_columnRate, 12, Sum.inl f_a_columnRate))]) (w1 := [(a_above, Sum.inl (k_a_above, 4, Sum.inr (Sum.inl f2)))]) hP hD [1] [0, 2, 3, 4, 5, 6] rfl rfl (by decide) (by decide) hk1 hFc hP1 hD1
  clear hPc hDc hKc hFc hP1 hD1 hk1 hz1
  generalize H1 = H at hP hS ⊢
  have hP : va_P (dC, dI) vwCl ([(o, Sum.inr (4, [Value.ref a_above, Value.long v_aboveLower, Value.ref o_table, Value.ref a_columnSign, Value.ref a_columnRate, Value.ref a_columnRoom, Value.int v_columns, Value.int v_rooms, Value.ref o_hire, Value.int v_work, Value.int v_keptSign, Value.int v_joinedSign])), (o_table, Sum.inr (8, [Value.ref table_a_entry, Value.ref table_a_lineName, Value.ref table_a_columnName, Value.int table_v_goals, Value.int table_v_lines, Value.int table_v_columns, Value.long table_v_base])), (table_a_entry, Sum.inl (k_table_a_entry, 18, Sum.inr (Sum.inr (Sum.inr (Sum.inr (rows_of 18 R_table_a_entry)))))), (table_a_lineName, Sum.inl (k_table_a_lineName, 18, Sum.inl f_table_a_lineName)), (a_columnSign, Sum.inl (k_a_columnSign, 12, Sum.inl f_a_columnSign)), (a_columnRate, Sum.inl (k_a_columnRate, 12, Sum.inl f_a_columnRate)), (a_above, Sum.inl (k_a_above, 4, Sum.inr (Sum.inl f2)))] ++ va_pl LP fp) H := hP
  have hD : va_D A ([(o, Sum.inr (4, [Value.ref a_above, Value.long v_aboveLower, Value.ref o_table, Value.ref a_columnSign, Value.ref a_columnRate, Value.ref a_columnRoom, Value.int v_columns, Value.int v_rooms, Value.ref o_hire, Value.int v_work, Value.int v_keptSign, Value.int v_joinedSign])), (o_table, Sum.inr (8, [Value.ref table_a_entry, Value.ref table_a_lineName, Value.ref table_a_columnName, Value.int table_v_goals, Value.int table_v_lines, Value.int table_v_columns, Value.long table_v_base])), (table_a_entry, Sum.inl (k_table_a_entry, 18, Sum.inr (Sum.inr (Sum.inr (Sum.inr (rows_of 18 R_table_a_entry)))))), (table_a_lineName, Sum.inl (k_table_a_lineName, 18, Sum.inl f_table_a_lineName)), (a_columnSign, Sum.inl (k_a_columnSign, 12, Sum.inl f_a_columnSign)), (a_columnRate, Sum.inl (k_a_columnRate, 12, Sum.inl f_a_columnRate)), (a_above, Sum.inl (k_a_above, 4, Sum.inr (Sum.inl f2)))] ++ va_pl LP fp) := hD
  refine W.widen (k := 0) (n := 0) (by decide) (by decide) ?_
  refine lv_aload_n hx hb dX4_readWages_8 rfl (lv_at hl 0 rfl) ?_
  refine lv_ldc2 (v := 60) hx hb hown (hts _ kk_X4_readWages_1) dX4_readWages_9 ?_
  refine lv_aload_n hx hb dX4_readWages_12 rfl (lv_at hl 0 rfl) ?_
  refine va_get (D := (dC, dI)) (ci := 4) (v := Value.ref o_table) (C := RX4) (T := TX4) (N := 12) hx hb hts iw_X4_readWages_X4 hown hK hP 0 rfl rfl 2 (by decide) (hts _ kk_X4_readWages_2) (fun _ h9 => h9) rfl dX4_readWages_13 ?_
  refine va_get (D := (dC, dI)) (ci := 8) (v := Value.long table_v_base) (C := RX8) (T := TX8) (N := 7) hx hb hts iw_X4_readWages_X8 hown hK hP 1 rfl rfl 6 (by decide) (hts _ kk_X4_readWages_3) (fun _ h9 => h9) rfl dX4_readWages_16 ?_
  refine lv_lmul hx hb dX4_readWages_19 ?_
  refine lv_topl (fun y3 ey3 => ?_)
  refine va_put (D := (dC, dI)) (ci := 4) (v := Value.long y3) (ty := FieldType.long) (C := RX4) (T := TX4) (N := 12) hx hb hts iw_X4_readWages_X4 tyX4 tyX4_ok nmX4 hown hK hP hD hS 0 rfl rfl 1 (by decide) (hts _ kk_X4_readWages_4) (fun _ h9 => h9) rfl (by decide +kernel) rfl rfl (Nat.le_of_ble_eq_true rfl) dX4_readWages_20 (fun H locs hP hD hS => ?_)
  have hP : va_P (dC, dI) vwCl ([(o, Sum.inr (4, [Value.ref a_above, Value.long y3, Value.ref o_table, Value.ref a_columnSign, Value.ref a_columnRate, Value.ref a_columnRoom, Value.int v_columns, Value.int v_rooms, Value.ref o_hire, Value.int v_work, Value.int v_keptSign, Value.int v_joinedSign])), (o_table, Sum.inr (8, [Value.ref table_a_entry, Value.ref table_a_lineName, Value.ref table_a_columnName, Value.int table_v_goals, Value.int table_v_lines, Value.int table_v_columns, Value.long table_v_base])), (table_a_entry, Sum.inl (k_table_a_entry, 18, Sum.inr (Sum.inr (Sum.inr (Sum.inr (rows_of 18 R_table_a_entry)))))), (table_a_lineName, Sum.inl (k_table_a_lineName, 18, Sum.inl f_table_a_lineName)), (a_columnSign, Sum.inl (k_a_columnSign, 12, Sum.inl f_a_columnSign)), (a_columnRate, Sum.inl (k_a_columnRate, 12, Sum.inl f_a_columnRate)), (a_above, Sum.inl (k_a_above, 4, Sum.inr (Sum.inl f2)))] ++ va_pl LP fp) H := hP
  have hD : va_D A ([(o, Sum.inr (4, [Value.ref a_above, Value.long y3, Value.ref o_table, Value.ref a_columnSign, Value.ref a_columnRate, Value.ref a_columnRoom, Value.int v_columns, Value.int v_rooms, Value.ref o_hire, Value.int v_work, Value.int v_keptSign, Value.int v_joinedSign])), (o_table, Sum.inr (8, [Value.ref table_a_entry, Value.ref table_a_lineName, Value.ref table_a_columnName, Value.int table_v_goals, Value.int table_v_lines, Value.int table_v_columns, Value.long table_v_base])), (table_a_entry, Sum.inl (k_table_a_entry, 18, Sum.inr (Sum.inr (Sum.inr (Sum.inr (rows_of 18 R_table_a_entry)))))), (table_a_lineName, Sum.inl (k_table_a_lineName, 18, Sum.inl f_table_a_lineName)), (a_columnSign, Sum.inl (k_a_columnSign, 12, Sum.inl f_a_columnSign)), (a_columnRate, Sum.inl (k_a_columnRate, 12, Sum.inl f_a_columnRate)), (a_above, Sum.inl (k_a_above, 4, Sum.inr (Sum.inl f2)))] ++ va_pl LP fp) := hD
  refine lv_aload_n hx hb dX4_readWages_23 rfl (lv_at hl 0 rfl) ?_
  refine va_get (D := (dC, dI)) (ci := 4) (v := Value.ref o_table) (C := RX4) (T := TX4) (N := 12) hx hb hts iw_X4_readWages_X4 hown hK hP 0 rfl rfl 2 (by decide) (hts _ kk_X4_readWages_2) (fun _ h9 => h9) rfl dX4_readWages_24 ?_
  refine va_get (D := (dC, dI)) (ci := 8) (v := Value.int table_v_goals) (C := RX8) (T := TX8) (N := 7) hx hb hts iw_X4_readWages_X8 hown hK hP 1 rfl rfl 3 (by decide) (hts _ kk_X4_readWages_5) (fun _ h9 => h9) rfl dX4_readWages_27 ?_
  refine lv_istore_n (lv' := [(1, Value.int table_v_goals), (0, Value.ref o)]) hx hb dX4_readWages_30 rfl hl (by decide) rfl (fun ls hl => ?_)
  refine tl_loop (I := fun nn H locs ls => ∃ (v4 : Int32) (f5 : Nat → Int64), nn = (18 - v4.toInt).toNat ∧ iv v4 0 18 ∧  va_P (dC, dI) vwCl ([(o, Sum.inr (4, [Value.ref a_above, Value.long y3, Value.ref o_table, Value.ref a_columnSign, Value.ref a_columnRate, Value.ref a_columnRoom, Value.int v_columns, Value.int v_rooms, Value.ref o_hire, Value.int v_work, Value.int v_keptSign, Value.int v_joinedSign])), (o_table, Sum.inr (8, [Value.ref table_a_entry, Value.ref table_a_lineName, Value.ref table_a_columnName, Value.int table_v_goals, Value.int table_v_lines, Value.int table_v_columns, Value.long table_v_base])), (table_a_entry, Sum.inl (k_table_a_entry, 18, Sum.inr (Sum.inr (Sum.inr (Sum.inr (rows_of 18 R_table_a_entry)))))), (table_a_lineName, Sum.inl (k_table_a_lineName, 18, Sum.inl f_table_a_lineName)), (a_columnSign, Sum.inl (k_a_columnSign, 12, Sum.inl f_a_columnSign)), (a_columnRate, Sum.inl (k_a_columnRate, 12, Sum.inl f_a_columnRate)), (a_above, Sum.inl (k_a_above, 4, Sum.inr (Sum.inl f5)))] ++ va_pl LP fp) H ∧ va_D A ([(o, Sum.inr (4, [Value.ref a_above, Value.long y3, Value.ref o_table, Value.ref a_columnSign, Value.ref a_columnRate, Value.ref a_columnRoom, Value.int v_columns, Value.int v_rooms, Value.ref o_hire, Value.int v_work, Value.int v_keptSign, Value.int v_joinedSign])), (o_table, Sum.inr (8, [Value.ref table_a_entry, Value.ref table_a_lineName, Value.ref table_a_columnName, Value.int table_v_goals, Value.int table_v_lines, Value.int table_v_columns, Value.long table_v_base])), (table_a_entry, Sum.inl (k_table_a_entry, 18, Sum.inr (Sum.inr (Sum.inr (Sum.inr (rows_of 18 R_table_a_entry)))))), (table_a_lineName, Sum.inl (k_table_a_lineName, 18, Sum.inl f_table_a_lineName)), (a_columnSign, Sum.inl (k_a_columnSign, 12, Sum.inl f_a_columnSign)), (a_columnRate, Sum.inl (k_a_columnRate, 12, Sum.inl f_a_columnRate)), (a_above, Sum.inl (k_a_above, 4, Sum.inr (Sum.inl f5)))] ++ va_pl LP fp) ∧ va_S A s.heap H locs ∧ lv_has ls 3 [(1, Value.int v4), (0, Value.ref o)]) ?_ ⟨table_v_goals, f2, rfl, htable_v_goals, hP, hD, hS, lv_sub hl [0, 1] rfl⟩
  clear hP hD hS hl
  intro nn31 H locs ls hI ih31
  obtain ⟨v4, f5, hn31, hv4, hP, hD, hS, hl⟩ := hI
  have bv4 := hv4.u
  refine lv_iload_n hx hb dX4_readWages_31 rfl (lv_at hl 0 rfl) ?_
  refine lv_aload_n hx hb dX4_readWages_32 rfl (lv_at hl 1 rfl) ?_
  refine va_get (D := (dC, dI)) (ci := 4) (v := Value.ref o_table) (C := RX4) (T := TX4) (N := 12) hx hb hts iw_X4_readWages_X4 hown hK hP 0 rfl rfl 2 (by decide) (hts _ kk_X4_readWages_2) (fun _ h9 => h9) rfl dX4_readWages_33 ?_
  refine va_get (D := (dC, dI)) (ci := 8) (v := Value.int table_v_lines) (C := RX8) (T := TX8) (N := 7) hx hb hts iw_X4_readWages_X8 hown hK hP 1 rfl rfl 4 (by decide) (hts _ kk_X4_readWages_6) (fun _ h9 => h9) rfl dX4_readWages_36 ?_
  have btable_v_lines := htable_v_lines.u
  refine lv_icmp_ge (tgt := 98) hx hb dX4_readWages_39 (by decide) (fun c6 => ?_) (fun c6 => ?_)
  · have c69 := i32_le c6 rfl rfl
    have hP9 := hP.part (cx := [(o, Sum.inr (4, [Value.ref a_above, Value.long y3, Value.ref o_table, Value.ref a_columnSign, Value.ref a_columnRate, Value.ref a_columnRoom, Value.int v_columns, Value.int v_rooms, Value.ref o_hire, Value.int v_work, Value.int v_keptSign, Value.int v_joinedSign])), (a_above, Sum.inl (k_a_above, 4, Sum.inr (Sum.inl f5))), (o_table, Sum.inr (8, [Value.ref table_a_entry, Value.ref table_a_lineName, Value.ref table_a_columnName, Value.int table_v_goals, Value.int table_v_lines, Value.int table_v_columns, Value.long table_v_base])), (table_a_entry, Sum.inl (k_table_a_entry, 18, Sum.inr (Sum.inr (Sum.inr (Sum.inr (rows_of 18 R_table_a_entry)))))), (table_a_lineName, Sum.inl (k_table_a_lineName, 18, Sum.inl f_table_a_lineName)), (a_columnSign, Sum.inl (k_a_columnSign, 12, Sum.inl f_a_columnSign)), (a_columnRate, Sum.inl (k_a_columnRate, 12, Sum.inl f_a_columnRate))]) [0, 6, 1, 2, 3, 4, 5] rfl
    have hD9 := hD.part (cx := [(o, Sum.inr (4, [Value.ref a_above, Value.long y3, Value.ref o_table, Value.ref a_columnSign, Value.ref a_columnRate, Value.ref a_columnRoom, Value.int v_columns, Value.int v_rooms, Value.ref o_hire, Value.int v_work, Value.int v_keptSign, Value.int v_joinedSign])), (a_above, Sum.inl (k_a_above, 4, Sum.inr (Sum.inl f5))), (o_table, Sum.inr (8, [Value.ref table_a_entry, Value.ref table_a_lineName, Value.ref table_a_columnName, Value.int table_v_goals, Value.int table_v_lines, Value.int table_v_columns, Value.long table_v_base])), (table_a_entry, Sum.inl (k_table_a_entry, 18, Sum.inr (Sum.inr (Sum.inr (Sum.inr (rows_of 18 R_table_a_entry)))))), (table_a_lineName, Sum.inl (k_table_a_lineName, 18, Sum.inl f_table_a_lineName)), (a_columnSign, Sum.inl (k_a_columnSign, 12, Sum.inl f_a_columnSign)), (a_columnRate, Sum.inl (k_a_columnRate, 12, Sum.inl f_a_columnRate))]) [0, 6, 1, 2, 3, 4, 5] (by decide) rfl
    exact W.vret hx hb hr (fun t ht hW => ⟨⟨(), rfl, trivial, y3, f5, by rw [ht]; exact hP9, hD9⟩, hS.F ht⟩) hS.2.2 dX4_readWages_98
  · have c69 := i32_nle c6 rfl rfl
    refine lv_aload_n hx hb dX4_readWages_42 rfl (lv_at hl 1 rfl) ?_
    refine va_get (D := (dC, dI)) (ci := 4) (v := Value.ref o_table) (C := RX4) (T := TX4) (N := 12) hx hb hts iw_X4_readWages_X4 hown hK hP 0 rfl rfl 2 (by decide) (hts _ kk_X4_readWages_2) (fun _ h9 => h9) rfl dX4_readWages_43 ?_
    refine va_get (D := (dC, dI)) (ci := 8) (v := Value.ref table_a_lineName) (C := RX8) (T := TX8) (N := 7) hx hb hts iw_X4_readWages_X8 hown hK hP 1 rfl rfl 1 (by decide) (hts _ kk_X4_readWages_7) (fun _ h9 => h9) rfl dX4_readWages_46 ?_
    refine lv_iload_n hx hb dX4_readWages_49 rfl (lv_at hl 0 rfl) ?_
    refine va_iald hx hb hK hP 3 2 rfl rfl (vq_in v4 18 (by omega)) dX4_readWages_50 ?_
    refine lv_topi (fun x7 ex7 => ?_)
    have hx7 : iv x7 0 99 := iv.of (hf_table_a_lineName _) ex7
    refine lv_istore_n (lv' := [(2, Value.int x7), (1, Value.int v4), (0, Value.ref o)]) hx hb dX4_readWages_51 rfl hl (by decide) rfl (fun ls hl => ?_)
    refine lv_iload_n hx hb dX4_readWages_52 rfl (lv_at hl 0 rfl) ?_
    refine lv_aload_n hx hb dX4_readWages_53 rfl (lv_at hl 2 rfl) ?_
    refine va_get (D := (dC, dI)) (ci := 4) (v := Value.int v_columns) (C := RX4) (T := TX4) (N := 12) hx hb hts iw_X4_readWages_X4 hown hK hP 0 rfl rfl 6 (by decide) (hts _ kk_X4_readWages_8) (fun _ h9 => h9) rfl dX4_readWages_54 ?_
    have bx7 := hx7.u
    have bv_columns := hv_columns.u
    refine lv_icmp_ge (tgt := 92) hx hb dX4_readWages_57 (by decide) (fun c8 => ?_) (fun c8 => ?_)
    · have c89 := i32_le c8 rfl rfl
      obtain ⟨x9, ex9⟩ : ∃ z : Int32, v4 + Int32.ofInt 1 = z := ⟨_, rfl⟩
      have tx9 := i32_inc ex9 rfl (by decide) (by omega) (by omega)
      refine lv_iinc (v := x9) (lv' := [(1, Value.int x9), (2, Value.int x7), (0, Value.ref o)]) hx hb dX4_readWages_92 hl (k := 1) rfl ex9 (by decide) rfl (fun ls hl => ?_)
      refine lv_goto (tgt := 31) hx hb dX4_readWages_95 (by decide) ?_
      exact ih31 _ _ _ _ (ms_up hn31 tx9 (by decide) (by omega)) ⟨x9, f5, rfl, (iv.m (by omega)), hP, hD, hS, lv_sub hl [0, 2] rfl⟩
    · have c89 := i32_nle c8 rfl rfl
      refine lv_aload_n hx hb dX4_readWages_60 rfl (lv_at hl 2 rfl) ?_
      refine va_get (D := (dC, dI)) (ci := 4) (v := Value.ref a_above) (C := RX4) (T := TX4) (N := 12) hx hb hts iw_X4_readWages_X4 hown hK hP 0 rfl rfl 0 (by decide) (hts _ kk_X4_readWages_0) (fun _ h9 => h9) rfl dX4_readWages_61 ?_
      refine lv_aload_n hx hb dX4_readWages_64 rfl (lv_at hl 2 rfl) ?_
      refine va_get (D := (dC, dI)) (ci := 4) (v := Value.ref a_columnSign) (C := RX4) (T := TX4) (N := 12) hx hb hts iw_X4_readWages_X4 hown hK hP 0 rfl rfl 3 (by decide) (hts _ kk_X4_readWages_9) (fun _ h9 => h9) rfl dX4_readWages_65 ?_
      refine lv_iload_n hx hb dX4_readWages_68 rfl (lv_at hl 0 rfl) ?_
      refine va_iald hx hb hK hP 4 3 rfl rfl (vq_in x7 12 (by omega)) dX4_readWages_69 ?_
      refine lv_topi (fun x10 ex10 => ?_)
      have hx10 : iv x10 0 3 := iv.of (hf_a_columnSign _) ex10
      refine lv_dup2_11 hx hb dX4_readWages_70 rfl rfl ?_
      have bx10 := hx10.u
      refine va_lald hx hb hK hP 6 0 rfl rfl (vq_in x10 4 (by omega)) dX4_readWages_71 ?_
      refine lv_topl (fun y11 ey11 => ?_)
      refine lv_aload_n hx hb dX4_readWages_72 rfl (lv_at hl 2 rfl) ?_
      refine va_get (D := (dC, dI)) (ci := 4) (v := Value.ref o_table) (C := RX4) (T := TX4) (N := 12) hx hb hts iw_X4_readWages_X4 hown hK hP 0 rfl rfl 2 (by decide) (hts _ kk_X4_readWages_2) (fun _ h9 => h9) rfl dX4_readWages_73 ?_
      refine va_get (D := (dC, dI)) (ci := 8) (v := Value.ref table_a_entry) (C := RX8) (T := TX8) (N := 7) hx hb hts iw_X4_readWages_X8 hown hK hP 1 rfl rfl 0 (by decide) (hts _ kk_X4_readWages_10) (fun _ h9 => h9) rfl dX4_readWages_76 ?_
      refine lv_iload_n hx hb dX4_readWages_79 rfl (lv_at hl 1 rfl) ?_
      have hinrw12 : vp_in v4 18 := (vq_in v4 18 (by omega))
      refine va_aldA hx hb hK hP 2 1 rfl rfl hinrw12 dX4_readWages_80 ?_
      obtain ⟨rw12, erw12⟩ : ∃ z : Nat, z = R_table_a_entry (Int32.toNatClampNeg v4) := ⟨_, rfl⟩
      refine px_v ((row_sel hinrw12).trans (congrArg Value.ref erw12.symm)) ?_
      have mrw12 : rw12 ∈ LP ∧ sh rw12 = 13 := by rw [erw12]; exact hRR_table_a_entry _ (vin_lt hinrw12)
      refine lv_iconst (v := 0) hx hb dX4_readWages_81 (by decide) ?_
      obtain ⟨gk13, hgk13⟩ := pok_13 (hfp) mrw12
      obtain ⟨kk14, hkk14⟩ := va_pl_get (X := [(o, Sum.inr (4, [Value.ref a_above, Value.long y3, Value.ref o_table, Value.ref a_columnSign, Value.ref a_columnRate, Value.ref a_columnRoom, Value.int v_columns, Value.int v_rooms, Value.ref o_hire, Value.int v_work, Value.int v_keptSign, Value.int v_joinedSign])), (o_table, Sum.inr (8, [Value.ref table_a_entry, Value.ref table_a_lineName, Value.ref table_a_columnName, Value.int table_v_goals, Value.int table_v_lines, Value.int table_v_columns, Value.long table_v_base])), (table_a_entry, Sum.inl (k_table_a_entry, 18, Sum.inr (Sum.inr (Sum.inr (Sum.inr (rows_of 18 R_table_a_entry)))))), (table_a_lineName, Sum.inl (k_table_a_lineName, 18, Sum.inl f_table_a_lineName)), (a_columnSign, Sum.inl (k_a_columnSign, 12, Sum.inl f_a_columnSign)), (a_columnRate, Sum.inl (k_a_columnRate, 12, Sum.inl f_a_columnRate)), (a_above, Sum.inl (k_a_above, 4, Sum.inr (Sum.inl f5)))]) (f := fp) mrw12.1
      have qkk14 := hkk14
      rw [hgk13] at qkk14
      refine va_lald hx hb hK hP kk14 6 qkk14 rfl (vq_in 0 13 (by decide)) dX4_readWages_82 ?_
      refine lv_topl (fun y15 ey15 => ?_)
      refine lv_aload_n hx hb dX4_readWages_83 rfl (lv_at hl 2 rfl) ?_
      refine lv_iload_n hx hb dX4_readWages_84 rfl (lv_at hl 0 rfl) ?_
      have hPc := hP.sub (ws' := [(o, Sum.inr (4, [Value.ref a_above, Value.long y3, Value.ref o_table, Value.ref a_columnSign, Value.ref a_columnRate, Value.ref a_columnRoom, Value.int v_columns, Value.int v_rooms, Value.ref o_hire, Value.int v_work, Value.int v_keptSign, Value.int v_joinedSign])), (a_columnRate, Sum.inl (k_a_columnRate, 12, Sum.inl f_a_columnRate))]) [0, 5] rfl
      have hDc := hD.sub (ws' := [(o, Sum.inr (4, [Value.ref a_above, Value.long y3, Value.ref o_table, Value.ref a_columnSign, Value.ref a_columnRate, Value.ref a_columnRoom, Value.int v_columns, Value.int v_rooms, Value.ref o_hire, Value.int v_work, Value.int v_keptSign, Value.int v_joinedSign])), (a_columnRate, Sum.inl (k_a_columnRate, 12, Sum.inl f_a_columnRate))]) [0, 5] (by decide) rfl
      have hKc := hK.sub (tys' := [(k_a_columnRate, FieldType.int)]) [4] rfl
      have hFc := va_free (wc := [(o, Sum.inr (4, [Value.ref a_above, Value.long y3, Value.ref o_table, Value.ref a_columnSign, Value.ref a_columnRate, Value.ref a_columnRoom, Value.int v_columns, Value.int v_rooms, Value.ref o_hire, Value.int v_work, Value.int v_keptSign, Value.int v_joinedSign])), (a_columnRate, Sum.inl (k_a_columnRate, 12, Sum.inl f_a_columnRate))]) hD hS hA [0, 5] rfl
      refine va_calli (va_runV (As := [Value.int x7]) (rest := [Value.long y15, Value.long y11, Value.int x10, Value.ref a_above]) ⟨hx, hb, hml, hown, hts⟩ (ct_X4_partsOf l dC dI o x7 a_above y3 o_table a_columnSign a_columnRate a_columnRoom v_columns v_rooms o_hire v_work v_keptSign v_joinedSign k_a_columnRate f_a_columnRate (iv.m (by omega)) H.size) (cwV 1 hts gX4_readWages_X4_partsOf rfl rfl rfl ⟨rfl, cn_X4.1, cn_X4.2, ds_5⟩ ⟨Nat.le_of_ble_eq_true rfl, Nat.le_of_ble_eq_true rfl⟩) ⟨fun a U g mk q => by obtain ⟨q0, q1, qP, qK, qD⟩ := q; exact ⟨q0, q1, qP, va_K.moved (u := U) (U := U.calling g mk a) (Vm.Alike.refl U.vm) qK, qD⟩, va_recv hKc hPc (ci := 4) (q0 := 0) rfl rfl, fun U hU hW => ⟨rfl, by rw [hU], by rw [hU]; exact hPc, va_K.moved hW.alike hKc, hDc.weaken (fun _ _ _ _ => trivial)⟩⟩ rfl rfl hl.1 rfl (lv_room (Nat.le_of_ble_eq_true rfl)) dX4_readWages_85 ⟨Nat.le_of_ble_eq_true rfl, Nat.le_of_ble_eq_true rfl⟩) hS (fun q _ h => hFc q h) hFc (fun r16 u t H1 locs ht hvm hw hB hz1 hk1 hS => ?_)
      have hw : r16 = u := hw.symm
      subst hw
      obtain ⟨hP1, hD1⟩ := hB
      rw [ht] at hP1
      obtain ⟨hP, hD⟩ := va_joinQ (X := [(o, Sum.inr (4, [Value.ref a_above, Value.long y3, Value.ref o_table, Value.ref a_columnSign, Value.ref a_columnRate, Value.ref a_columnRoom, Value.int v_columns, Value.int v_rooms, Value.ref o_hire, Value.int v_work, Value.int v_keptSign, Value.int v_joinedSign])), (o_table, Sum.inr (8, [Value.ref table_a_entry, Value.ref table_a_lineName, Value.ref table_a_columnName, Value.int table_v_goals, Value.int table_v_lines, Value.int table_v_columns, Value.long table_v_base])), (table_a_entry, Sum.inl (k_table_a_entry, 18, Sum.inr (Sum.inr (Sum.inr (Sum.inr (rows_of 18 R_table_a_entry)))))), (table_a_lineName, Sum.inl (k_table_a_lineName, 18, Sum.inl f_table_a_lineName)), (a_columnSign, Sum.inl (k_a_columnSign, 12, Sum.inl f_a_columnSign)), (a_columnRate, Sum.inl (k_a_columnRate, 12, Sum.inl f_a_columnRate)), (a_above, Sum.inl (k_a_above, 4, Sum.inr (Sum.inl f5)))]) (cx := [(o, Sum.inr (4, [Value.ref a_above, Value.long y3, Value.ref o_table, Value.ref a_columnSign, Value.ref a_columnRate, Value.ref a_columnRoom, Value.int v_columns, Value.int v_rooms, Value.ref o_hire, Value.int v_work, Value.int v_keptSign, Value.int v_joinedSign])), (a_columnRate, Sum.inl (k_a_columnRate, 12, Sum.inl f_a_columnRate))]) (wr := [(o_table, Sum.inr (8, [Value.ref table_a_entry, Value.ref table_a_lineName, Value.ref table_a_columnName, Value.int table_v_goals, Value.int table_v_lines, Value.int table_v_columns, Value.long table_v_base])), (table_a_entry, Sum.inl (k_table_a_entry, 18, Sum.inr (Sum.inr (Sum.inr (Sum.inr (rows_of 18 R_table_a_entry)))))), (table_a_lineName, Sum.inl (k_table_a_lineName, 18, Sum.inl f_table_a_lineName)), (a_columnSign, Sum.inl (k_a_columnSign, 12, Sum.inl f_a_columnSign)), (a_above, Sum.inl (k_a_above, 4, Sum.inr (Sum.inl f5)))]) (w1 := [(o, Sum.inr (4, [Value.ref a_above, Value.long y3, Value.ref o_table, Value.ref a_columnSign, Value.ref a_columnRate, Value.ref a_columnRoom, Value.int v_columns, Value.int v_rooms, Value.ref o_hire, Value.int v_work, Value.int v_keptSign, Value.int v_joinedSign])), (a_columnRate, Sum.inl (k_a_columnRate, 12, Sum.inl f_a_columnRate))]) hP hD [0, 5] [1, 2, 3, 4, 6] rfl rfl (by decide) (by decide) hk1 hFc hP1 hD1
      clear hPc hDc hKc hFc hP1 hD1 hk1 hz1
      generalize H1 = H at hP hS ⊢
      have hP : va_P (dC, dI) vwCl ([(o_table, Sum.inr (8, [Value.ref table_a_entry, Value.ref table_a_lineName, Value.ref table_a_columnName, Value.int table_v_goals, Value.int table_v_lines, Value.int table_v_columns, Value.long table_v_base])), (table_a_entry, Sum.inl (k_table_a_entry, 18, Sum.inr (Sum.inr (Sum.inr (Sum.inr (rows_of 18 R_table_a_entry)))))), (table_a_lineName, Sum.inl (k_table_a_lineName, 18, Sum.inl f_table_a_lineName)), (a_columnSign, Sum.inl (k_a_columnSign, 12, Sum.inl f_a_columnSign)), (a_above, Sum.inl (k_a_above, 4, Sum.inr (Sum.inl f5))), (o, Sum.inr (4, [Value.ref a_above, Value.long y3, Value.ref o_table, Value.ref a_columnSign, Value.ref a_columnRate, Value.ref a_columnRoom, Value.int v_columns, Value.int v_rooms, Value.ref o_hire, Value.int v_work, Value.int v_keptSign, Value.int v_joinedSign])), (a_columnRate, Sum.inl (k_a_columnRate, 12, Sum.inl f_a_columnRate))] ++ va_pl LP fp) H := hP
      have hD : va_D A ([(o_table, Sum.inr (8, [Value.ref table_a_entry, Value.ref table_a_lineName, Value.ref table_a_columnName, Value.int table_v_goals, Value.int table_v_lines, Value.int table_v_columns, Value.long table_v_base])), (table_a_entry, Sum.inl (k_table_a_entry, 18, Sum.inr (Sum.inr (Sum.inr (Sum.inr (rows_of 18 R_table_a_entry)))))), (table_a_lineName, Sum.inl (k_table_a_lineName, 18, Sum.inl f_table_a_lineName)), (a_columnSign, Sum.inl (k_a_columnSign, 12, Sum.inl f_a_columnSign)), (a_above, Sum.inl (k_a_above, 4, Sum.inr (Sum.inl f5))), (o, Sum.inr (4, [Value.ref a_above, Value.long y3, Value.ref o_table, Value.ref a_columnSign, Value.ref a_columnRate, Value.ref a_columnRoom, Value.int v_columns, Value.int v_rooms, Value.ref o_hire, Value.int v_work, Value.int v_keptSign, Value.int v_joinedSign])), (a_columnRate, Sum.inl (k_a_columnRate, 12, Sum.inl f_a_columnRate))] ++ va_pl LP fp) := hD
      refine W.widen (k := 0) (n := 0) (by decide) (by decide) ?_
      refine lv_i2l (v := (r16).toInt64) hx hb dX4_readWages_88 rfl ?_
      refine lv_lmul hx hb dX4_readWages_89 ?_
      refine lv_topl (fun y17 ey17 => ?_)
      refine lv_ladd hx hb dX4_readWages_90 ?_
      refine lv_topl (fun y18 ey18 => ?_)
      refine va_last hx hb hK hP hD hS 4 0 rfl rfl (vq_in x10 4 (by omega)) dX4_readWages_91 (fun H locs hP hD hS => ?_)
      have hP : va_P (dC, dI) vwCl ([(o_table, Sum.inr (8, [Value.ref table_a_entry, Value.ref table_a_lineName, Value.ref table_a_columnName, Value.int table_v_goals, Value.int table_v_lines, Value.int table_v_columns, Value.long table_v_base])), (table_a_entry, Sum.inl (k_table_a_entry, 18, Sum.inr (Sum.inr (Sum.inr (Sum.inr (rows_of 18 R_table_a_entry)))))), (table_a_lineName, Sum.inl (k_table_a_lineName, 18, Sum.inl f_table_a_lineName)), (a_columnSign, Sum.inl (k_a_columnSign, 12, Sum.inl f_a_columnSign)), (a_above, Sum.inl (k_a_above, 4, Sum.inr (Sum.inl (vp_updL f5 (Int32.toNatClampNeg x10) y18)))), (o, Sum.inr (4, [Value.ref a_above, Value.long y3, Value.ref o_table, Value.ref a_columnSign, Value.ref a_columnRate, Value.ref a_columnRoom, Value.int v_columns, Value.int v_rooms, Value.ref o_hire, Value.int v_work, Value.int v_keptSign, Value.int v_joinedSign])), (a_columnRate, Sum.inl (k_a_columnRate, 12, Sum.inl f_a_columnRate))] ++ va_pl LP fp) H := hP
      have hD : va_D A ([(o_table, Sum.inr (8, [Value.ref table_a_entry, Value.ref table_a_lineName, Value.ref table_a_columnName, Value.int table_v_goals, Value.int table_v_lines, Value.int table_v_columns, Value.long table_v_base])), (table_a_entry, Sum.inl (k_table_a_entry, 18, Sum.inr (Sum.inr (Sum.inr (Sum.inr (rows_of 18 R_table_a_entry)))))), (table_a_lineName, Sum.inl (k_table_a_lineName, 18, Sum.inl f_table_a_lineName)), (a_columnSign, Sum.inl (k_a_columnSign, 12, Sum.inl f_a_columnSign)), (a_above, Sum.inl (k_a_above, 4, Sum.inr (Sum.inl (vp_updL f5 (Int32.toNatClampNeg x10) y18)))), (o, Sum.inr (4, [Value.ref a_above, Value.long y3, Value.ref o_table, Value.ref a_columnSign, Value.ref a_columnRate, Value.ref a_columnRoom, Value.int v_columns, Value.int v_rooms, Value.ref o_hire, Value.int v_work, Value.int v_keptSign, Value.int v_joinedSign])), (a_columnRate, Sum.inl (k_a_columnRate, 12, Sum.inl f_a_columnRate))] ++ va_pl LP fp) := hD
      have wf19 : (vp_updL f5 (Int32.toNatClampNeg x10) y18) (Int32.toNatClampNeg x10) = y18 := pk_uLs
      generalize vp_updL f5 (Int32.toNatClampNeg x10) y18 = f19 at hP hD wf19
      have hP : va_P (dC, dI) vwCl ([(o_table, Sum.inr (8, [Value.ref table_a_entry, Value.ref table_a_lineName, Value.ref table_a_columnName, Value.int table_v_goals, Value.int table_v_lines, Value.int table_v_columns, Value.long table_v_base])), (table_a_entry, Sum.inl (k_table_a_entry, 18, Sum.inr (Sum.inr (Sum.inr (Sum.inr (rows_of 18 R_table_a_entry)))))), (table_a_lineName, Sum.inl (k_table_a_lineName, 18, Sum.inl f_table_a_lineName)), (a_columnSign, Sum.inl (k_a_columnSign, 12, Sum.inl f_a_columnSign)), (a_above, Sum.inl (k_a_above, 4, Sum.inr (Sum.inl f19))), (o, Sum.inr (4, [Value.ref a_above, Value.long y3, Value.ref o_table, Value.ref a_columnSign, Value.ref a_columnRate, Value.ref a_columnRoom, Value.int v_columns, Value.int v_rooms, Value.ref o_hire, Value.int v_work, Value.int v_keptSign, Value.int v_joinedSign])), (a_columnRate, Sum.inl (k_a_columnRate, 12, Sum.inl f_a_columnRate))] ++ va_pl LP fp) H := hP
      have hD : va_D A ([(o_table, Sum.inr (8, [Value.ref table_a_entry, Value.ref table_a_lineName, Value.ref table_a_columnName, Value.int table_v_goals, Value.int table_v_lines, Value.int table_v_columns, Value.long table_v_base])), (table_a_entry, Sum.inl (k_table_a_entry, 18, Sum.inr (Sum.inr (Sum.inr (Sum.inr (rows_of 18 R_table_a_entry)))))), (table_a_lineName, Sum.inl (k_table_a_lineName, 18, Sum.inl f_table_a_lineName)), (a_columnSign, Sum.inl (k_a_columnSign, 12, Sum.inl f_a_columnSign)), (a_above, Sum.inl (k_a_above, 4, Sum.inr (Sum.inl f19))), (o, Sum.inr (4, [Value.ref a_above, Value.long y3, Value.ref o_table, Value.ref a_columnSign, Value.ref a_columnRate, Value.ref a_columnRoom, Value.int v_columns, Value.int v_rooms, Value.ref o_hire, Value.int v_work, Value.int v_keptSign, Value.int v_joinedSign])), (a_columnRate, Sum.inl (k_a_columnRate, 12, Sum.inl f_a_columnRate))] ++ va_pl LP fp) := hD
      obtain ⟨x20, ex20⟩ : ∃ z : Int32, v4 + Int32.ofInt 1 = z := ⟨_, rfl⟩
      have tx20 := i32_inc ex20 rfl (by decide) (by omega) (by omega)
      refine lv_iinc (v := x20) (lv' := [(1, Value.int x20), (2, Value.int x7), (0, Value.ref o)]) hx hb dX4_readWages_92 hl (k := 1) rfl ex20 (by decide) rfl (fun ls hl => ?_)
      refine lv_goto (tgt := 31) hx hb dX4_readWages_95 (by decide) ?_
      exact ih31 _ _ _ _ (ms_up hn31 tx20 (by decide) (by omega)) ⟨x20, f19, rfl, (iv.m (by omega)), hP.part [5, 0, 1, 2, 3, 6, 4] rfl, hD.part [5, 0, 1, 2, 3, 6, 4] (by decide) rfl, hS, lv_sub hl [0, 2] rfl⟩

