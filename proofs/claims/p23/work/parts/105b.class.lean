set_option maxHeartbeats 4000000 in
set_option maxRecDepth 100000 in
theorem ct_X0_isShort (l : Launch) (dC : Nat → ClassId) (dI : Nat → Nat → Nat) (o : Nat) (p0 : Int32) (p1 : Int32) (p2 : Int32) (a_chosen : Nat) (v_bestCost : Int32) (a_felt : Nat) (a_own : Nat) (a_share : Nat) (a_rest : Nat) (a_left : Nat) (a_tried : Nat) (v_signs : Int32) (v_lines : Int32) (v_most : Int32) (k_a_felt : ClassId) (f_a_felt : Nat → Int32) (k_a_share : ClassId) (R_a_share : Nat → Nat) (k_a_rest : ClassId) (R_a_rest : Nat → Nat) (k_a_left : ClassId) (R_a_left : Nat → Nat) (LP : List Nat) (sh : Nat → Nat) (fp : Nat → va_E) (cI : ClassId) (cJ : ClassId) (CT : Nat → Nat → Int32) (hp0 : iv p0 0 4) (hp1 : iv p1 0 3) (hp2 : iv p2 0 20) (hfp : pok cI cJ LP sh CT fp) (hRR_a_share : ∀ i : Nat, i < 5 → R_a_share i ∈ LP ∧ sh (R_a_share i) = 4) (hRR_a_rest : ∀ i : Nat, i < 5 → R_a_rest i ∈ LP ∧ sh (R_a_rest i) = 5) (hRR_a_left : ∀ i : Nat, i < 5 → R_a_left i ∈ LP ∧ sh (R_a_left i) = 5) (sz : Nat) : Met l yX0_isShort wsX0_isShort ({ frames := 0, cells := 0, slots := 0, locals := 0 }) (va_Pc [Value.ref o, Value.int p0, Value.int p1, Value.int p2] (fun U => U.heap.size = sz ∧ va_P (dC, dI) vwCl ([(o, Sum.inr (0, [Value.ref a_chosen, Value.int v_bestCost, Value.ref a_felt, Value.ref a_own, Value.ref a_share, Value.ref a_rest, Value.ref a_left, Value.ref a_tried, Value.int v_signs, Value.int v_lines, Value.int v_most])), (a_felt, Sum.inl (k_a_felt, 21, Sum.inl f_a_felt)), (a_share, Sum.inl (k_a_share, 5, Sum.inr (Sum.inr (Sum.inr (Sum.inr (rows_of 5 R_a_share)))))), (a_rest, Sum.inl (k_a_rest, 5, Sum.inr (Sum.inr (Sum.inr (Sum.inr (rows_of 5 R_a_rest)))))), (a_left, Sum.inl (k_a_left, 5, Sum.inr (Sum.inr (Sum.inr (Sum.inr (rows_of 5 R_a_left))))))] ++ va_pl LP fp) U.heap ∧ va_K (dC, dI) vwCl [(k_a_felt, FieldType.int), (k_a_share, (FieldType.array FieldType.int)), (k_a_rest, (FieldType.array FieldType.int)), (k_a_left, (FieldType.array FieldType.int)), (cI, FieldType.int), (cJ, FieldType.long)] U ∧ va_D (fun _ => True) ([(o, Sum.inr (0, [Value.ref a_chosen, Value.int v_bestCost, Value.ref a_felt, Value.ref a_own, Value.ref a_share, Value.ref a_rest, Value.ref a_left, Value.ref a_tried, Value.int v_signs, Value.int v_lines, Value.int v_most])), (a_felt, Sum.inl (k_a_felt, 21, Sum.inl f_a_felt)), (a_share, Sum.inl (k_a_share, 5, Sum.inr (Sum.inr (Sum.inr (Sum.inr (rows_of 5 R_a_share)))))), (a_rest, Sum.inl (k_a_rest, 5, Sum.inr (Sum.inr (Sum.inr (Sum.inr (rows_of 5 R_a_rest)))))), (a_left, Sum.inl (k_a_left, 5, Sum.inr (Sum.inr (Sum.inr (Sum.inr (rows_of 5 R_a_left))))))] ++ va_pl LP fp))) (va_Qi (fun (r u : Int32) => u = r) (fun (r : Int32) t => ((r = 0) ∨ (r = 1)) ∧ va_P (dC, dI) vwCl ([(o, Sum.inr (0, [Value.ref a_chosen, Value.int v_bestCost, Value.ref a_felt, Value.ref a_own, Value.ref a_share, Value.ref a_rest, Value.ref a_left, Value.ref a_tried, Value.int v_signs, Value.int v_lines, Value.int v_most])), (a_felt, Sum.inl (k_a_felt, 21, Sum.inl f_a_felt)), (a_share, Sum.inl (k_a_share, 5, Sum.inr (Sum.inr (Sum.inr (Sum.inr (rows_of 5 R_a_share)))))), (a_rest, Sum.inl (k_a_rest, 5, Sum.inr (Sum.inr (Sum.inr (Sum.inr (rows_of 5 R_a_rest)))))), (a_left, Sum.inl (k_a_left, 5, Sum.inr (Sum.inr (Sum.inr (Sum.inr (rows_of 5 R_a_left))))))] ++ va_pl LP fp) t.heap ∧ va_D (va_A ([(o, Sum.inr (0, [Value.ref a_chosen, Value.int v_bestCost, Value.ref a_felt, Value.ref a_own, Value.ref a_share, Value.ref a_rest, Value.ref a_left, Value.ref a_tried, Value.int v_signs, Value.int v_lines, Value.int v_most])), (a_felt, Sum.inl (k_a_felt, 21, Sum.inl f_a_felt)), (a_share, Sum.inl (k_a_share, 5, Sum.inr (Sum.inr (Sum.inr (Sum.inr (rows_of 5 R_a_share)))))), (a_rest, Sum.inl (k_a_rest, 5, Sum.inr (Sum.inr (Sum.inr (Sum.inr (rows_of 5 R_a_rest)))))), (a_left, Sum.inl (k_a_left, 5, Sum.inr (Sum.inr (Sum.inr (Sum.inr (rows_of 5 R_a_left))))))] ++ va_pl LP fp) sz) ([(o, Sum.inr (0, [Value.ref a_chosen, Value.int v_bestCost, Value.ref a_felt, Value.ref a_own, Value.ref a_share, Value.ref a_rest, Value.ref a_left, Value.ref a_tried, Value.int v_signs, Value.int v_lines, Value.int v_most])), (a_felt, Sum.inl (k_a_felt, 21, Sum.inl f_a_felt)), (a_share, Sum.inl (k_a_share, 5, Sum.inr (Sum.inr (Sum.inr (Sum.inr (rows_of 5 R_a_share)))))), (a_rest, Sum.inl (k_a_rest, 5, Sum.inr (Sum.inr (Sum.inr (Sum.inr (rows_of 5 R_a_rest)))))), (a_left, Sum.inl (k_a_left, 5, Sum.inr (Sum.inr (Sum.inr (Sum.inr (rows_of 5 R_a_left))))))] ++ va_pl LP fp)) (va_A ([(o, Sum.inr (0, [Value.ref a_chosen, Value.int v_bestCost, Value.ref a_felt, Value.ref a_own, Value.ref a_share, Value.ref a_rest, Value.ref a_left, Value.ref a_tried, Value.int v_signs, Value.int v_lines, Value.int v_most])), (a_felt, Sum.inl (k_a_felt, 21, Sum.inl f_a_felt)), (a_share, Sum.inl (k_a_share, 5, Sum.inr (Sum.inr (Sum.inr (Sum.inr (rows_of 5 R_a_share)))))), (a_rest, Sum.inl (k_a_rest, 5, Sum.inr (Sum.inr (Sum.inr (Sum.inr (rows_of 5 R_a_rest)))))), (a_left, Sum.inl (k_a_left, 5, Sum.inr (Sum.inr (Sum.inr (Sum.inr (rows_of 5 R_a_left))))))] ++ va_pl LP fp) sz)) 0 0 (va_A ([(o, Sum.inr (0, [Value.ref a_chosen, Value.int v_bestCost, Value.ref a_felt, Value.ref a_own, Value.ref a_share, Value.ref a_rest, Value.ref a_left, Value.ref a_tried, Value.int v_signs, Value.int v_lines, Value.int v_most])), (a_felt, Sum.inl (k_a_felt, 21, Sum.inl f_a_felt)), (a_share, Sum.inl (k_a_share, 5, Sum.inr (Sum.inr (Sum.inr (Sum.inr (rows_of 5 R_a_share)))))), (a_rest, Sum.inl (k_a_rest, 5, Sum.inr (Sum.inr (Sum.inr (Sum.inr (rows_of 5 R_a_rest)))))), (a_left, Sum.inl (k_a_left, 5, Sum.inr (Sum.inr (Sum.inr (Sum.inr (rows_of 5 R_a_left))))))] ++ va_pl LP fp) sz) := by
  refine Met.ofW (cc := cX0_isShort) (maxL := 4) (ret := (some .boolean)) pn_X0 rfl ?_
  intro p e s m args below meth c s₁ B hml hv
  obtain ⟨rfl, hsz, hP, hK, hD0⟩ := hv
  have hx := B.exec
  have hb := B.bytes
  have hr := B.returns
  have hts := atoms_spec (ws := wsX0_isShort) B.pre
  have hown : s.vm.findClass RX0 = some m.cls := findClass_of_methodNamed B.named
  have hlocks := B.notSynchronized
  subst hsz
  have hD := hD0.self (sz := s.heap.size)
  generalize hAe : va_A ([(o, Sum.inr (0, [Value.ref a_chosen, Value.int v_bestCost, Value.ref a_felt, Value.ref a_own, Value.ref a_share, Value.ref a_rest, Value.ref a_left, Value.ref a_tried, Value.int v_signs, Value.int v_lines, Value.int v_most])), (a_felt, Sum.inl (k_a_felt, 21, Sum.inl f_a_felt)), (a_share, Sum.inl (k_a_share, 5, Sum.inr (Sum.inr (Sum.inr (Sum.inr (rows_of 5 R_a_share)))))), (a_rest, Sum.inl (k_a_rest, 5, Sum.inr (Sum.inr (Sum.inr (Sum.inr (rows_of 5 R_a_rest)))))), (a_left, Sum.inl (k_a_left, 5, Sum.inr (Sum.inr (Sum.inr (Sum.inr (rows_of 5 R_a_left))))))] ++ va_pl LP fp) s.heap.size = A at hD ⊢
  have hA : ∀ q : Nat, s.heap.size ≤ q → A q := fun q h => by rw [← hAe]; exact Or.inr h
  have hS : va_S A s.heap s.heap [] := va_S.rf
  have hP : va_P (dC, dI) vwCl ([(o, Sum.inr (0, [Value.ref a_chosen, Value.int v_bestCost, Value.ref a_felt, Value.ref a_own, Value.ref a_share, Value.ref a_rest, Value.ref a_left, Value.ref a_tried, Value.int v_signs, Value.int v_lines, Value.int v_most])), (a_felt, Sum.inl (k_a_felt, 21, Sum.inl f_a_felt)), (a_share, Sum.inl (k_a_share, 5, Sum.inr (Sum.inr (Sum.inr (Sum.inr (rows_of 5 R_a_share)))))), (a_rest, Sum.inl (k_a_rest, 5, Sum.inr (Sum.inr (Sum.inr (Sum.inr (rows_of 5 R_a_rest)))))), (a_left, Sum.inl (k_a_left, 5, Sum.inr (Sum.inr (Sum.inr (Sum.inr (rows_of 5 R_a_left))))))] ++ va_pl LP fp) s.heap := hP
  have hl := lv_entry ([Value.ref o, Value.int p0, Value.int p1, Value.int p2]) (n := 4) (Nat.le_of_ble_eq_true rfl)
  rw [lg_entry_eq]
  generalize (lg_sl ([Value.ref o, Value.int p0, Value.int p1, Value.int p2]) ++ List.replicate (4 - (lg_sl ([Value.ref o, Value.int p0, Value.int p1, Value.int p2])).length) Slot.unset).toArray = ls at hl ⊢
  have hl : lv_has ls 4 [(0, Value.ref o), (1, Value.int p0), (2, Value.int p1), (3, Value.int p2)] := hl
  refine lv_aload_n hx hb dX0_isShort_0 rfl (lv_at hl 0 rfl) ?_
  refine va_get (D := (dC, dI)) (ci := 0) (v := Value.ref a_left) (C := RX0) (T := TX0) (N := 11) hx hb hts iw_X0_isShort_X0 hown hK hP 0 rfl rfl 6 (by decide) (hts _ kk_X0_isShort_0) (fun _ h9 => h9) rfl dX0_isShort_1 ?_
  refine lv_iload_n hx hb dX0_isShort_4 rfl (lv_at hl 2 rfl) ?_
  have bp1 := hp1.u
  have hinrw1 : vp_in p1 5 := (vq_in p1 5 (by omega))
  refine va_aldA hx hb hK hP 4 3 rfl rfl hinrw1 dX0_isShort_5 ?_
  obtain ⟨rw1, erw1⟩ : ∃ z : Nat, z = R_a_left (Int32.toNatClampNeg p1) := ⟨_, rfl⟩
  refine px_v ((row_sel hinrw1).trans (congrArg Value.ref erw1.symm)) ?_
  have mrw1 : rw1 ∈ LP ∧ sh rw1 = 5 := by rw [erw1]; exact hRR_a_left _ (vin_lt hinrw1)
  refine lv_iload_n hx hb dX0_isShort_6 rfl (lv_at hl 1 rfl) ?_
  have bp0 := hp0.u
  obtain ⟨gk2, hgk2⟩ := pok_5 (hfp) mrw1
  obtain ⟨kk3, hkk3⟩ := va_pl_get (X := [(o, Sum.inr (0, [Value.ref a_chosen, Value.int v_bestCost, Value.ref a_felt, Value.ref a_own, Value.ref a_share, Value.ref a_rest, Value.ref a_left, Value.ref a_tried, Value.int v_signs, Value.int v_lines, Value.int v_most])), (a_felt, Sum.inl (k_a_felt, 21, Sum.inl f_a_felt)), (a_share, Sum.inl (k_a_share, 5, Sum.inr (Sum.inr (Sum.inr (Sum.inr (rows_of 5 R_a_share)))))), (a_rest, Sum.inl (k_a_rest, 5, Sum.inr (Sum.inr (Sum.inr (Sum.inr (rows_of 5 R_a_rest)))))), (a_left, Sum.inl (k_a_left, 5, Sum.inr (Sum.inr (Sum.inr (Sum.inr (rows_of 5 R_a_left))))))]) (f := fp) mrw1.1
  have qkk3 := hkk3
  rw [hgk2] at qkk3
  refine va_iald hx hb hK hP kk3 4 qkk3 rfl (vq_in p0 5 (by omega)) dX0_isShort_7 ?_
  refine lv_topi (fun x4 ex4 => ?_)
  refine lv_aload_n hx hb dX0_isShort_8 rfl (lv_at hl 0 rfl) ?_
  refine va_get (D := (dC, dI)) (ci := 0) (v := Value.ref a_share) (C := RX0) (T := TX0) (N := 11) hx hb hts iw_X0_isShort_X0 hown hK hP 0 rfl rfl 4 (by decide) (hts _ kk_X0_isShort_1) (fun _ h9 => h9) rfl dX0_isShort_9 ?_
  refine lv_iload_n hx hb dX0_isShort_12 rfl (lv_at hl 1 rfl) ?_
  have hinrw5 : vp_in p0 5 := (vq_in p0 5 (by omega))
  refine va_aldA hx hb hK hP 2 1 rfl rfl hinrw5 dX0_isShort_13 ?_
  obtain ⟨rw5, erw5⟩ : ∃ z : Nat, z = R_a_share (Int32.toNatClampNeg p0) := ⟨_, rfl⟩
  refine px_v ((row_sel hinrw5).trans (congrArg Value.ref erw5.symm)) ?_
  have mrw5 : rw5 ∈ LP ∧ sh rw5 = 4 := by rw [erw5]; exact hRR_a_share _ (vin_lt hinrw5)
  refine lv_iload_n hx hb dX0_isShort_14 rfl (lv_at hl 2 rfl) ?_
  obtain ⟨gk6, hgk6⟩ := pok_4 (hfp) mrw5
  obtain ⟨kk7, hkk7⟩ := va_pl_get (X := [(o, Sum.inr (0, [Value.ref a_chosen, Value.int v_bestCost, Value.ref a_felt, Value.ref a_own, Value.ref a_share, Value.ref a_rest, Value.ref a_left, Value.ref a_tried, Value.int v_signs, Value.int v_lines, Value.int v_most])), (a_felt, Sum.inl (k_a_felt, 21, Sum.inl f_a_felt)), (a_share, Sum.inl (k_a_share, 5, Sum.inr (Sum.inr (Sum.inr (Sum.inr (rows_of 5 R_a_share)))))), (a_rest, Sum.inl (k_a_rest, 5, Sum.inr (Sum.inr (Sum.inr (Sum.inr (rows_of 5 R_a_rest)))))), (a_left, Sum.inl (k_a_left, 5, Sum.inr (Sum.inr (Sum.inr (Sum.inr (rows_of 5 R_a_left))))))]) (f := fp) mrw5.1
  have qkk7 := hkk7
  rw [hgk6] at qkk7
  refine va_iald hx hb hK hP kk7 4 qkk7 rfl (vq_in p1 4 (by omega)) dX0_isShort_15 ?_
  refine lv_topi (fun x8 ex8 => ?_)
  refine lv_aload_n hx hb dX0_isShort_16 rfl (lv_at hl 0 rfl) ?_
  refine va_get (D := (dC, dI)) (ci := 0) (v := Value.ref a_felt) (C := RX0) (T := TX0) (N := 11) hx hb hts iw_X0_isShort_X0 hown hK hP 0 rfl rfl 2 (by decide) (hts _ kk_X0_isShort_2) (fun _ h9 => h9) rfl dX0_isShort_17 ?_
  refine lv_iload_n hx hb dX0_isShort_20 rfl (lv_at hl 3 rfl) ?_
  have bp2 := hp2.u
  refine va_iald hx hb hK hP 1 0 rfl rfl (vq_in p2 21 (by omega)) dX0_isShort_21 ?_
  refine lv_topi (fun x9 ex9 => ?_)
  refine lv_imul hx hb dX0_isShort_22 ?_
  refine lv_topi (fun x10 ex10 => ?_)
  refine lv_aload_n hx hb dX0_isShort_23 rfl (lv_at hl 0 rfl) ?_
  refine va_get (D := (dC, dI)) (ci := 0) (v := Value.ref a_rest) (C := RX0) (T := TX0) (N := 11) hx hb hts iw_X0_isShort_X0 hown hK hP 0 rfl rfl 5 (by decide) (hts _ kk_X0_isShort_3) (fun _ h9 => h9) rfl dX0_isShort_24 ?_
  refine lv_iload_n hx hb dX0_isShort_27 rfl (lv_at hl 1 rfl) ?_
  have hinrw11 : vp_in p0 5 := (vq_in p0 5 (by omega))
  refine va_aldA hx hb hK hP 3 2 rfl rfl hinrw11 dX0_isShort_28 ?_
  obtain ⟨rw11, erw11⟩ : ∃ z : Nat, z = R_a_rest (Int32.toNatClampNeg p0) := ⟨_, rfl⟩
  refine px_v ((row_sel hinrw11).trans (congrArg Value.ref erw11.symm)) ?_
  have mrw11 : rw11 ∈ LP ∧ sh rw11 = 5 := by rw [erw11]; exact hRR_a_rest _ (vin_lt hinrw11)
  refine lv_iload_n hx hb dX0_isShort_29 rfl (lv_at hl 2 rfl) ?_
  refine lv_iconst (v := 1) hx hb dX0_isShort_30 (by decide) ?_
  refine lv_iadd hx hb dX0_isShort_31 ?_
  refine lv_topi (fun x12 ex12 => ?_)
  have tx12 := i32_add ex12 rfl (show (1 : Int32).toInt = 1 by decide) (by omega) (by omega)
  obtain ⟨gk13, hgk13⟩ := pok_5 (hfp) mrw11
  obtain ⟨kk14, hkk14⟩ := va_pl_get (X := [(o, Sum.inr (0, [Value.ref a_chosen, Value.int v_bestCost, Value.ref a_felt, Value.ref a_own, Value.ref a_share, Value.ref a_rest, Value.ref a_left, Value.ref a_tried, Value.int v_signs, Value.int v_lines, Value.int v_most])), (a_felt, Sum.inl (k_a_felt, 21, Sum.inl f_a_felt)), (a_share, Sum.inl (k_a_share, 5, Sum.inr (Sum.inr (Sum.inr (Sum.inr (rows_of 5 R_a_share)))))), (a_rest, Sum.inl (k_a_rest, 5, Sum.inr (Sum.inr (Sum.inr (Sum.inr (rows_of 5 R_a_rest)))))), (a_left, Sum.inl (k_a_left, 5, Sum.inr (Sum.inr (Sum.inr (Sum.inr (rows_of 5 R_a_left))))))]) (f := fp) mrw11.1
  have qkk14 := hkk14
  rw [hgk13] at qkk14
  refine va_iald hx hb hK hP kk14 4 qkk14 rfl (vq_in x12 5 (by omega)) dX0_isShort_32 ?_
  refine lv_topi (fun x15 ex15 => ?_)
  refine lv_iadd hx hb dX0_isShort_33 ?_
  refine lv_topi (fun x16 ex16 => ?_)
  have bx4 := i32_rng x4
  have bx16 := i32_rng x16
  refine lv_icmp_le (tgt := 41) hx hb dX0_isShort_34 (by decide) (fun c17 => ?_) (fun c17 => ?_)
  · have c179 := i32_le c17 rfl rfl
    refine lv_iconst (v := 0) hx hb dX0_isShort_41 (by decide) ?_
    have hP9 := hP.part (cx := [(o, Sum.inr (0, [Value.ref a_chosen, Value.int v_bestCost, Value.ref a_felt, Value.ref a_own, Value.ref a_share, Value.ref a_rest, Value.ref a_left, Value.ref a_tried, Value.int v_signs, Value.int v_lines, Value.int v_most])), (a_felt, Sum.inl (k_a_felt, 21, Sum.inl f_a_felt)), (a_share, Sum.inl (k_a_share, 5, Sum.inr (Sum.inr (Sum.inr (Sum.inr (rows_of 5 R_a_share)))))), (a_rest, Sum.inl (k_a_rest, 5, Sum.inr (Sum.inr (Sum.inr (Sum.inr (rows_of 5 R_a_rest)))))), (a_left, Sum.inl (k_a_left, 5, Sum.inr (Sum.inr (Sum.inr (Sum.inr (rows_of 5 R_a_left))))))]) [0, 1, 2, 3, 4] rfl
    have hD9 := hD.part (cx := [(o, Sum.inr (0, [Value.ref a_chosen, Value.int v_bestCost, Value.ref a_felt, Value.ref a_own, Value.ref a_share, Value.ref a_rest, Value.ref a_left, Value.ref a_tried, Value.int v_signs, Value.int v_lines, Value.int v_most])), (a_felt, Sum.inl (k_a_felt, 21, Sum.inl f_a_felt)), (a_share, Sum.inl (k_a_share, 5, Sum.inr (Sum.inr (Sum.inr (Sum.inr (rows_of 5 R_a_share)))))), (a_rest, Sum.inl (k_a_rest, 5, Sum.inr (Sum.inr (Sum.inr (Sum.inr (rows_of 5 R_a_rest)))))), (a_left, Sum.inl (k_a_left, 5, Sum.inr (Sum.inr (Sum.inr (Sum.inr (rows_of 5 R_a_left))))))]) [0, 1, 2, 3, 4] (by decide) rfl
    exact W.zret (v := 0) hx hb hr rfl (fun t ht hW => ⟨⟨0, 0, rfl, rfl, (Or.inl rfl), by rw [ht]; exact hP9, hD9⟩, hS.F ht⟩) hS.2.2 dX0_isShort_42
  · have c179 := i32_nle c17 rfl rfl
    refine lv_iconst (v := 1) hx hb dX0_isShort_37 (by decide) ?_
    refine lv_goto (tgt := 42) hx hb dX0_isShort_38 (by decide) ?_
    have hP9 := hP.part (cx := [(o, Sum.inr (0, [Value.ref a_chosen, Value.int v_bestCost, Value.ref a_felt, Value.ref a_own, Value.ref a_share, Value.ref a_rest, Value.ref a_left, Value.ref a_tried, Value.int v_signs, Value.int v_lines, Value.int v_most])), (a_felt, Sum.inl (k_a_felt, 21, Sum.inl f_a_felt)), (a_share, Sum.inl (k_a_share, 5, Sum.inr (Sum.inr (Sum.inr (Sum.inr (rows_of 5 R_a_share)))))), (a_rest, Sum.inl (k_a_rest, 5, Sum.inr (Sum.inr (Sum.inr (Sum.inr (rows_of 5 R_a_rest)))))), (a_left, Sum.inl (k_a_left, 5, Sum.inr (Sum.inr (Sum.inr (Sum.inr (rows_of 5 R_a_left))))))]) [0, 1, 2, 3, 4] rfl
    have hD9 := hD.part (cx := [(o, Sum.inr (0, [Value.ref a_chosen, Value.int v_bestCost, Value.ref a_felt, Value.ref a_own, Value.ref a_share, Value.ref a_rest, Value.ref a_left, Value.ref a_tried, Value.int v_signs, Value.int v_lines, Value.int v_most])), (a_felt, Sum.inl (k_a_felt, 21, Sum.inl f_a_felt)), (a_share, Sum.inl (k_a_share, 5, Sum.inr (Sum.inr (Sum.inr (Sum.inr (rows_of 5 R_a_share)))))), (a_rest, Sum.inl (k_a_rest, 5, Sum.inr (Sum.inr (Sum.inr (Sum.inr (rows_of 5 R_a_rest)))))), (a_left, Sum.inl (k_a_left, 5, Sum.inr (Sum.inr (Sum.inr (Sum.inr (rows_of 5 R_a_left))))))]) [0, 1, 2, 3, 4] (by decide) rfl
    exact W.zret (v := 1) hx hb hr rfl (fun t ht hW => ⟨⟨1, 1, rfl, rfl, (Or.inr (rfl)), by rw [ht]; exact hP9, hD9⟩, hS.F ht⟩) hS.2.2 dX0_isShort_42

set_option maxHeartbeats 4000000 in
set_option maxRecDepth 100000 in
theorem ct_X0_lastCoin (l : Launch) (dC : Nat → ClassId) (dI : Nat → Nat → Nat) (o : Nat) (p0 : Int32) (a_chosen : Nat) (v_bestCost : Int32) (a_felt : Nat) (a_own : Nat) (a_share : Nat) (a_rest : Nat) (a_left : Nat) (a_tried : Nat) (v_signs : Int32) (v_lines : Int32) (v_most : Int32) (k_a_felt : ClassId) (f_a_felt : Nat → Int32) (k_a_own : ClassId) (f_a_own : Nat → Int32) (k_a_share : ClassId) (R_a_share : Nat → Nat) (k_a_rest : ClassId) (R_a_rest : Nat → Nat) (k_a_left : ClassId) (R_a_left : Nat → Nat) (LP : List Nat) (sh : Nat → Nat) (fp : Nat → va_E) (cI : ClassId) (cJ : ClassId) (CT : Nat → Nat → Int32) (hp0 : iv p0 0 3) (hv_lines : iv v_lines 0 5) (hv_most : iv v_most 0 20) (hfp : pok cI cJ LP sh CT fp) (hRR_a_share : ∀ i : Nat, i < 5 → R_a_share i ∈ LP ∧ sh (R_a_share i) = 4) (hRR_a_rest : ∀ i : Nat, i < 5 → R_a_rest i ∈ LP ∧ sh (R_a_rest i) = 5) (hRR_a_left : ∀ i : Nat, i < 5 → R_a_left i ∈ LP ∧ sh (R_a_left i) = 5) (sz : Nat) : Met l yX0_lastCoin wsX0_lastCoin ({ frames := 1, cells := 0, slots := 0, locals := 23 }) (va_Pc [Value.ref o, Value.int p0] (fun U => U.heap.size = sz ∧ va_P (dC, dI) vwCl ([(o, Sum.inr (0, [Value.ref a_chosen, Value.int v_bestCost, Value.ref a_felt, Value.ref a_own, Value.ref a_share, Value.ref a_rest, Value.ref a_left, Value.ref a_tried, Value.int v_signs, Value.int v_lines, Value.int v_most])), (a_felt, Sum.inl (k_a_felt, 21, Sum.inl f_a_felt)), (a_own, Sum.inl (k_a_own, 4, Sum.inl f_a_own)), (a_share, Sum.inl (k_a_share, 5, Sum.inr (Sum.inr (Sum.inr (Sum.inr (rows_of 5 R_a_share)))))), (a_rest, Sum.inl (k_a_rest, 5, Sum.inr (Sum.inr (Sum.inr (Sum.inr (rows_of 5 R_a_rest)))))), (a_left, Sum.inl (k_a_left, 5, Sum.inr (Sum.inr (Sum.inr (Sum.inr (rows_of 5 R_a_left))))))] ++ va_pl LP fp) U.heap ∧ va_K (dC, dI) vwCl [(k_a_felt, FieldType.int), (k_a_own, FieldType.int), (k_a_share, (FieldType.array FieldType.int)), (k_a_rest, (FieldType.array FieldType.int)), (k_a_left, (FieldType.array FieldType.int)), (cI, FieldType.int), (cJ, FieldType.long)] U ∧ va_D (fun _ => True) ([(o, Sum.inr (0, [Value.ref a_chosen, Value.int v_bestCost, Value.ref a_felt, Value.ref a_own, Value.ref a_share, Value.ref a_rest, Value.ref a_left, Value.ref a_tried, Value.int v_signs, Value.int v_lines, Value.int v_most])), (a_felt, Sum.inl (k_a_felt, 21, Sum.inl f_a_felt)), (a_own, Sum.inl (k_a_own, 4, Sum.inl f_a_own)), (a_share, Sum.inl (k_a_share, 5, Sum.inr (Sum.inr (Sum.inr (Sum.inr (rows_of 5 R_a_share)))))), (a_rest, Sum.inl (k_a_rest, 5, Sum.inr (Sum.inr (Sum.inr (Sum.inr (rows_of 5 R_a_rest)))))), (a_left, Sum.inl (k_a_left, 5, Sum.inr (Sum.inr (Sum.inr (Sum.inr (rows_of 5 R_a_left))))))] ++ va_pl LP fp))) (va_Qi (fun (r u : Int32) => u = r) (fun (r : Int32) t => iv r (-1) 20 ∧ va_P (dC, dI) vwCl ([(o, Sum.inr (0, [Value.ref a_chosen, Value.int v_bestCost, Value.ref a_felt, Value.ref a_own, Value.ref a_share, Value.ref a_rest, Value.ref a_left, Value.ref a_tried, Value.int v_signs, Value.int v_lines, Value.int v_most])), (a_felt, Sum.inl (k_a_felt, 21, Sum.inl f_a_felt)), (a_own, Sum.inl (k_a_own, 4, Sum.inl f_a_own)), (a_share, Sum.inl (k_a_share, 5, Sum.inr (Sum.inr (Sum.inr (Sum.inr (rows_of 5 R_a_share)))))), (a_rest, Sum.inl (k_a_rest, 5, Sum.inr (Sum.inr (Sum.inr (Sum.inr (rows_of 5 R_a_rest)))))), (a_left, Sum.inl (k_a_left, 5, Sum.inr (Sum.inr (Sum.inr (Sum.inr (rows_of 5 R_a_left))))))] ++ va_pl LP fp) t.heap ∧ va_D (va_A ([(o, Sum.inr (0, [Value.ref a_chosen, Value.int v_bestCost, Value.ref a_felt, Value.ref a_own, Value.ref a_share, Value.ref a_rest, Value.ref a_left, Value.ref a_tried, Value.int v_signs, Value.int v_lines, Value.int v_most])), (a_felt, Sum.inl (k_a_felt, 21, Sum.inl f_a_felt)), (a_own, Sum.inl (k_a_own, 4, Sum.inl f_a_own)), (a_share, Sum.inl (k_a_share, 5, Sum.inr (Sum.inr (Sum.inr (Sum.inr (rows_of 5 R_a_share)))))), (a_rest, Sum.inl (k_a_rest, 5, Sum.inr (Sum.inr (Sum.inr (Sum.inr (rows_of 5 R_a_rest)))))), (a_left, Sum.inl (k_a_left, 5, Sum.inr (Sum.inr (Sum.inr (Sum.inr (rows_of 5 R_a_left))))))] ++ va_pl LP fp) sz) ([(o, Sum.inr (0, [Value.ref a_chosen, Value.int v_bestCost, Value.ref a_felt, Value.ref a_own, Value.ref a_share, Value.ref a_rest, Value.ref a_left, Value.ref a_tried, Value.int v_signs, Value.int v_lines, Value.int v_most])), (a_felt, Sum.inl (k_a_felt, 21, Sum.inl f_a_felt)), (a_own, Sum.inl (k_a_own, 4, Sum.inl f_a_own)), (a_share, Sum.inl (k_a_share, 5, Sum.inr (Sum.inr (Sum.inr (Sum.inr (rows_of 5 R_a_share)))))), (a_rest, Sum.inl (k_a_rest, 5, Sum.inr (Sum.inr (Sum.inr (Sum.inr (rows_of 5 R_a_rest)))))), (a_left, Sum.inl (k_a_left, 5, Sum.inr (Sum.inr (Sum.inr (Sum.inr (rows_of 5 R_a_left))))))] ++ va_pl LP fp)) (va_A ([(o, Sum.inr (0, [Value.ref a_chosen, Value.int v_bestCost, Value.ref a_felt, Value.ref a_own, Value.ref a_share, Value.ref a_rest, Value.ref a_left, Value.ref a_tried, Value.int v_signs, Value.int v_lines, Value.int v_most])), (a_felt, Sum.inl (k_a_felt, 21, Sum.inl f_a_felt)), (a_own, Sum.inl (k_a_own, 4, Sum.inl f_a_own)), (a_share, Sum.inl (k_a_share, 5, Sum.inr (Sum.inr (Sum.inr (Sum.inr (rows_of 5 R_a_share)))))), (a_rest, Sum.inl (k_a_rest, 5, Sum.inr (Sum.inr (Sum.inr (Sum.inr (rows_of 5 R_a_rest)))))), (a_left, Sum.inl (k_a_left, 5, Sum.inr (Sum.inr (Sum.inr (Sum.inr (rows_of 5 R_a_left))))))] ++ va_pl LP fp) sz)) 0 0 (va_A ([(o, Sum.inr (0, [Value.ref a_chosen, Value.int v_bestCost, Value.ref a_felt, Value.ref a_own, Value.ref a_share, Value.ref a_rest, Value.ref a_left, Value.ref a_tried, Value.int v_signs, Value.int v_lines, Value.int v_most])), (a_felt, Sum.inl (k_a_felt, 21, Sum.inl f_a_felt)), (a_own, Sum.inl (k_a_own, 4, Sum.inl f_a_own)), (a_share, Sum.inl (k_a_share, 5, Sum.inr (Sum.inr (Sum.inr (Sum.inr (rows_of 5 R_a_share)))))), (a_rest, Sum.inl (k_a_rest, 5, Sum.inr (Sum.inr (Sum.inr (Sum.inr (rows_of 5 R_a_rest)))))), (a_left, Sum.inl (k_a_left, 5, Sum.inr (Sum.inr (Sum.inr (Sum.inr (rows_of 5 R_a_left))))))] ++ va_pl LP fp) sz) := by
  refine Met.ofW (cc := cX0_lastCoin) (maxL := 4) (ret := (some .int)) pn_X0 rfl ?_
  intro p e s m args below meth c s₁ B hml hv
  obtain ⟨rfl, hsz, hP, hK, hD0⟩ := hv
  have hx := B.exec
  have hb := B.bytes
  have hr := B.returns
  have hts := atoms_spec (ws := wsX0_lastCoin) B.pre
  have hown : s.vm.findClass RX0 = some m.cls := findClass_of_methodNamed B.named
  have hlocks := B.notSynchronized
  subst hsz
  have hD := hD0.self (sz := s.heap.size)
  generalize hAe : va_A ([(o, Sum.inr (0, [Value.ref a_chosen, Value.int v_bestCost, Value.ref a_felt, Value.ref a_own, Value.ref a_share, Value.ref a_rest, Value.ref a_left, Value.ref a_tried, Value.int v_signs, Value.int v_lines, Value.int v_most])), (a_felt, Sum.inl (k_a_felt, 21, Sum.inl f_a_felt)), (a_own, Sum.inl (k_a_own, 4, Sum.inl f_a_own)), (a_share, Sum.inl (k_a_share, 5, Sum.inr (Sum.inr (Sum.inr (Sum.inr (rows_of 5 R_a_share)))))), (a_rest, Sum.inl (k_a_rest, 5, Sum.inr (Sum.inr (Sum.inr (Sum.inr (rows_of 5 R_a_rest)))))), (a_left, Sum.inl (k_a_left, 5, Sum.inr (Sum.inr (Sum.inr (Sum.inr (rows_of 5 R_a_left))))))] ++ va_pl LP fp) s.heap.size = A at hD ⊢
  have hA : ∀ q : Nat, s.heap.size ≤ q → A q := fun q h => by rw [← hAe]; exact Or.inr h
  have hS : va_S A s.heap s.heap [] := va_S.rf
  have hP : va_P (dC, dI) vwCl ([(o, Sum.inr (0, [Value.ref a_chosen, Value.int v_bestCost, Value.ref a_felt, Value.ref a_own, Value.ref a_share, Value.ref a_rest, Value.ref a_left, Value.ref a_tried, Value.int v_signs, Value.int v_lines, Value.int v_most])), (a_felt, Sum.inl (k_a_felt, 21, Sum.inl f_a_felt)), (a_own, Sum.inl (k_a_own, 4, Sum.inl f_a_own)), (a_share, Sum.inl (k_a_share, 5, Sum.inr (Sum.inr (Sum.inr (Sum.inr (rows_of 5 R_a_share)))))), (a_rest, Sum.inl (k_a_rest, 5, Sum.inr (Sum.inr (Sum.inr (Sum.inr (rows_of 5 R_a_rest)))))), (a_left, Sum.inl (k_a_left, 5, Sum.inr (Sum.inr (Sum.inr (Sum.inr (rows_of 5 R_a_left))))))] ++ va_pl LP fp) s.heap := hP
  have hl := lv_entry ([Value.ref o, Value.int p0]) (n := 4) (Nat.le_of_ble_eq_true rfl)
  rw [lg_entry_eq]
  generalize (lg_sl ([Value.ref o, Value.int p0]) ++ List.replicate (4 - (lg_sl ([Value.ref o, Value.int p0])).length) Slot.unset).toArray = ls at hl ⊢
  have hl : lv_has ls 4 [(0, Value.ref o), (1, Value.int p0)] := hl
  refine lv_aload_n hx hb dX0_lastCoin_0 rfl (lv_at hl 0 rfl) ?_
  refine va_get (D := (dC, dI)) (ci := 0) (v := Value.ref a_own) (C := RX0) (T := TX0) (N := 11) hx hb hts iw_X0_lastCoin_X0 hown hK hP 0 rfl rfl 3 (by decide) (hts _ kk_X0_lastCoin_0) (fun _ h9 => h9) rfl dX0_lastCoin_1 ?_
  refine lv_iload_n hx hb dX0_lastCoin_4 rfl (lv_at hl 1 rfl) ?_
  have bp0 := hp0.u
  refine va_iald hx hb hK hP 2 1 rfl rfl (vq_in p0 4 (by omega)) dX0_lastCoin_5 ?_
  refine lv_topi (fun x1 ex1 => ?_)
  have bx1 := i32_rng x1
  refine lv_if_ne (tgt := 13) hx hb dX0_lastCoin_6 (by decide) (fun c2 => ?_) (fun c2 => ?_)
  · have c29 := i32_ne c2 rfl (show (0 : Int32).toInt = 0 by decide)
    refine lv_aload_n hx hb dX0_lastCoin_13 rfl (lv_at hl 0 rfl) ?_
    refine va_get (D := (dC, dI)) (ci := 0) (v := Value.int v_most) (C := RX0) (T := TX0) (N := 11) hx hb hts iw_X0_lastCoin_X0 hown hK hP 0 rfl rfl 10 (by decide) (hts _ kk_X0_lastCoin_1) (fun _ h9 => h9) rfl dX0_lastCoin_14 ?_
    refine lv_istore_n (lv' := [(2, Value.int v_most), (0, Value.ref o), (1, Value.int p0)]) hx hb dX0_lastCoin_17 rfl hl (by decide) rfl (fun ls hl => ?_)
    refine lv_iconst (v := 0) hx hb dX0_lastCoin_18 (by decide) ?_
    refine lv_istore_n (lv' := [(3, Value.int 0), (2, Value.int v_most), (0, Value.ref o), (1, Value.int p0)]) hx hb dX0_lastCoin_19 rfl hl (by decide) rfl (fun ls hl => ?_)
    refine tl_loop (I := fun nn H locs ls => ∃ (v3 : Int32) (v4 : Int32), nn = (5 - v3.toInt).toNat ∧ iv v3 0 5 ∧ iv v4 (-1) 20 ∧  va_P (dC, dI) vwCl ([(o, Sum.inr (0, [Value.ref a_chosen, Value.int v_bestCost, Value.ref a_felt, Value.ref a_own, Value.ref a_share, Value.ref a_rest, Value.ref a_left, Value.ref a_tried, Value.int v_signs, Value.int v_lines, Value.int v_most])), (a_felt, Sum.inl (k_a_felt, 21, Sum.inl f_a_felt)), (a_own, Sum.inl (k_a_own, 4, Sum.inl f_a_own)), (a_share, Sum.inl (k_a_share, 5, Sum.inr (Sum.inr (Sum.inr (Sum.inr (rows_of 5 R_a_share)))))), (a_rest, Sum.inl (k_a_rest, 5, Sum.inr (Sum.inr (Sum.inr (Sum.inr (rows_of 5 R_a_rest)))))), (a_left, Sum.inl (k_a_left, 5, Sum.inr (Sum.inr (Sum.inr (Sum.inr (rows_of 5 R_a_left))))))] ++ va_pl LP fp) H ∧ va_D A ([(o, Sum.inr (0, [Value.ref a_chosen, Value.int v_bestCost, Value.ref a_felt, Value.ref a_own, Value.ref a_share, Value.ref a_rest, Value.ref a_left, Value.ref a_tried, Value.int v_signs, Value.int v_lines, Value.int v_most])), (a_felt, Sum.inl (k_a_felt, 21, Sum.inl f_a_felt)), (a_own, Sum.inl (k_a_own, 4, Sum.inl f_a_own)), (a_share, Sum.inl (k_a_share, 5, Sum.inr (Sum.inr (Sum.inr (Sum.inr (rows_of 5 R_a_share)))))), (a_rest, Sum.inl (k_a_rest, 5, Sum.inr (Sum.inr (Sum.inr (Sum.inr (rows_of 5 R_a_rest)))))), (a_left, Sum.inl (k_a_left, 5, Sum.inr (Sum.inr (Sum.inr (Sum.inr (rows_of 5 R_a_left))))))] ++ va_pl LP fp) ∧ va_S A s.heap H locs ∧ lv_has ls 4 [(3, Value.int v3), (2, Value.int v4), (0, Value.ref o), (1, Value.int p0)]) ?_ ⟨0, v_most, rfl, (iv.m (by decide)), (hv_most.w (by decide) (by decide)), hP, hD, hS, lv_sub hl [0, 1, 2, 3] rfl⟩
    clear hP hD hS hl
    intro nn20 H locs ls hI ih20
    obtain ⟨v3, v4, hn20, hv3, hv4, hP, hD, hS, hl⟩ := hI
    have bv3 := hv3.u
    have bv4 := hv4.u
    refine lv_iload_n hx hb dX0_lastCoin_20 rfl (lv_at hl 0 rfl) ?_
    refine lv_aload_n hx hb dX0_lastCoin_21 rfl (lv_at hl 2 rfl) ?_
    refine va_get (D := (dC, dI)) (ci := 0) (v := Value.int v_lines) (C := RX0) (T := TX0) (N := 11) hx hb hts iw_X0_lastCoin_X0 hown hK hP 0 rfl rfl 9 (by decide) (hts _ kk_X0_lastCoin_2) (fun _ h9 => h9) rfl dX0_lastCoin_22 ?_
    have bv_lines := hv_lines.u
    refine lv_icmp_ge (tgt := 65) hx hb dX0_lastCoin_25 (by decide) (fun c5 => ?_) (fun c5 => ?_)
    · have c59 := i32_le c5 rfl rfl
      refine lv_iload_n hx hb dX0_lastCoin_65 rfl (lv_at hl 1 rfl) ?_
      have hP9 := hP.part (cx := [(o, Sum.inr (0, [Value.ref a_chosen, Value.int v_bestCost, Value.ref a_felt, Value.ref a_own, Value.ref a_share, Value.ref a_rest, Value.ref a_left, Value.ref a_tried, Value.int v_signs, Value.int v_lines, Value.int v_most])), (a_felt, Sum.inl (k_a_felt, 21, Sum.inl f_a_felt)), (a_own, Sum.inl (k_a_own, 4, Sum.inl f_a_own)), (a_share, Sum.inl (k_a_share, 5, Sum.inr (Sum.inr (Sum.inr (Sum.inr (rows_of 5 R_a_share)))))), (a_rest, Sum.inl (k_a_rest, 5, Sum.inr (Sum.inr (Sum.inr (Sum.inr (rows_of 5 R_a_rest)))))), (a_left, Sum.inl (k_a_left, 5, Sum.inr (Sum.inr (Sum.inr (Sum.inr (rows_of 5 R_a_left))))))]) [0, 1, 2, 3, 4, 5] rfl
      have hD9 := hD.part (cx := [(o, Sum.inr (0, [Value.ref a_chosen, Value.int v_bestCost, Value.ref a_felt, Value.ref a_own, Value.ref a_share, Value.ref a_rest, Value.ref a_left, Value.ref a_tried, Value.int v_signs, Value.int v_lines, Value.int v_most])), (a_felt, Sum.inl (k_a_felt, 21, Sum.inl f_a_felt)), (a_own, Sum.inl (k_a_own, 4, Sum.inl f_a_own)), (a_share, Sum.inl (k_a_share, 5, Sum.inr (Sum.inr (Sum.inr (Sum.inr (rows_of 5 R_a_share)))))), (a_rest, Sum.inl (k_a_rest, 5, Sum.inr (Sum.inr (Sum.inr (Sum.inr (rows_of 5 R_a_rest)))))), (a_left, Sum.inl (k_a_left, 5, Sum.inr (Sum.inr (Sum.inr (Sum.inr (rows_of 5 R_a_left))))))]) [0, 1, 2, 3, 4, 5] (by decide) rfl
      exact W.iret (v := v4) hx hb hr (fun t ht hW => ⟨⟨v4, v4, rfl, rfl, hv4, by rw [ht]; exact hP9, hD9⟩, hS.F ht⟩) hS.2.2 dX0_lastCoin_66
    · have c59 := i32_nle c5 rfl rfl
      refine tl_loop (I := fun nn H locs ls => ∃ (v6 : Int32), nn = (v6.toInt - (-1)).toNat ∧ iv v6 (-1) 20 ∧  va_P (dC, dI) vwCl ([(o, Sum.inr (0, [Value.ref a_chosen, Value.int v_bestCost, Value.ref a_felt, Value.ref a_own, Value.ref a_share, Value.ref a_rest, Value.ref a_left, Value.ref a_tried, Value.int v_signs, Value.int v_lines, Value.int v_most])), (a_felt, Sum.inl (k_a_felt, 21, Sum.inl f_a_felt)), (a_own, Sum.inl (k_a_own, 4, Sum.inl f_a_own)), (a_share, Sum.inl (k_a_share, 5, Sum.inr (Sum.inr (Sum.inr (Sum.inr (rows_of 5 R_a_share)))))), (a_rest, Sum.inl (k_a_rest, 5, Sum.inr (Sum.inr (Sum.inr (Sum.inr (rows_of 5 R_a_rest)))))), (a_left, Sum.inl (k_a_left, 5, Sum.inr (Sum.inr (Sum.inr (Sum.inr (rows_of 5 R_a_left))))))] ++ va_pl LP fp) H ∧ va_D A ([(o, Sum.inr (0, [Value.ref a_chosen, Value.int v_bestCost, Value.ref a_felt, Value.ref a_own, Value.ref a_share, Value.ref a_rest, Value.ref a_left, Value.ref a_tried, Value.int v_signs, Value.int v_lines, Value.int v_most])), (a_felt, Sum.inl (k_a_felt, 21, Sum.inl f_a_felt)), (a_own, Sum.inl (k_a_own, 4, Sum.inl f_a_own)), (a_share, Sum.inl (k_a_share, 5, Sum.inr (Sum.inr (Sum.inr (Sum.inr (rows_of 5 R_a_share)))))), (a_rest, Sum.inl (k_a_rest, 5, Sum.inr (Sum.inr (Sum.inr (Sum.inr (rows_of 5 R_a_rest)))))), (a_left, Sum.inl (k_a_left, 5, Sum.inr (Sum.inr (Sum.inr (Sum.inr (rows_of 5 R_a_left))))))] ++ va_pl LP fp) ∧ va_S A s.heap H locs ∧ lv_has ls 4 [(3, Value.int v3), (2, Value.int v6), (0, Value.ref o), (1, Value.int p0)]) ?_ ⟨v4, rfl, hv4, hP, hD, hS, lv_sub hl [0, 1, 2, 3] rfl⟩
      clear hP hD hS hl
      intro nn28 H locs ls hI ih28
      obtain ⟨v6, hn28, hv6, hP, hD, hS, hl⟩ := hI
      have bv6 := hv6.u
      refine lv_iload_n hx hb dX0_lastCoin_28 rfl (lv_at hl 1 rfl) ?_
      refine lv_if_lt (tgt := 59) hx hb dX0_lastCoin_29 (by decide) (fun c7 => ?_) (fun c7 => ?_)
      · have c79 := i32_lt c7 rfl (show (0 : Int32).toInt = 0 by decide)
        obtain ⟨x8, ex8⟩ : ∃ z : Int32, v3 + Int32.ofInt 1 = z := ⟨_, rfl⟩
        have tx8 := i32_inc ex8 rfl (by decide) (by omega) (by omega)
        refine lv_iinc (v := x8) (lv' := [(3, Value.int x8), (2, Value.int v6), (0, Value.ref o), (1, Value.int p0)]) hx hb dX0_lastCoin_59 hl (k := 0) rfl ex8 (by decide) rfl (fun ls hl => ?_)
        refine lv_goto (tgt := 20) hx hb dX0_lastCoin_62 (by decide) ?_
        exact ih20 _ _ _ _ (ms_up hn20 tx8 (by decide) (by omega)) ⟨x8, v6, rfl, (iv.m (by omega)), (iv.m (by omega)), hP, hD, hS, lv_sub hl [0, 1, 2, 3] rfl⟩
      · have c79 := i32_nlt c7 rfl (show (0 : Int32).toInt = 0 by decide)
        refine lv_aload_n hx hb dX0_lastCoin_32 rfl (lv_at hl 2 rfl) ?_
        refine va_get (D := (dC, dI)) (ci := 0) (v := Value.ref a_share) (C := RX0) (T := TX0) (N := 11) hx hb hts iw_X0_lastCoin_X0 hown hK hP 0 rfl rfl 4 (by decide) (hts _ kk_X0_lastCoin_3) (fun _ h9 => h9) rfl dX0_lastCoin_33 ?_
        refine lv_iload_n hx hb dX0_lastCoin_36 rfl (lv_at hl 0 rfl) ?_
        have hinrw9 : vp_in v3 5 := (vq_in v3 5 (by omega))
        refine va_aldA hx hb hK hP 3 2 rfl rfl hinrw9 dX0_lastCoin_37 ?_
        obtain ⟨rw9, erw9⟩ : ∃ z : Nat, z = R_a_share (Int32.toNatClampNeg v3) := ⟨_, rfl⟩
        refine px_v ((row_sel hinrw9).trans (congrArg Value.ref erw9.symm)) ?_
        have mrw9 : rw9 ∈ LP ∧ sh rw9 = 4 := by rw [erw9]; exact hRR_a_share _ (vin_lt hinrw9)
        refine lv_iload_n hx hb dX0_lastCoin_38 rfl (lv_at hl 3 rfl) ?_
        obtain ⟨gk10, hgk10⟩ := pok_4 (hfp) mrw9
        obtain ⟨kk11, hkk11⟩ := va_pl_get (X := [(o, Sum.inr (0, [Value.ref a_chosen, Value.int v_bestCost, Value.ref a_felt, Value.ref a_own, Value.ref a_share, Value.ref a_rest, Value.ref a_left, Value.ref a_tried, Value.int v_signs, Value.int v_lines, Value.int v_most])), (a_felt, Sum.inl (k_a_felt, 21, Sum.inl f_a_felt)), (a_own, Sum.inl (k_a_own, 4, Sum.inl f_a_own)), (a_share, Sum.inl (k_a_share, 5, Sum.inr (Sum.inr (Sum.inr (Sum.inr (rows_of 5 R_a_share)))))), (a_rest, Sum.inl (k_a_rest, 5, Sum.inr (Sum.inr (Sum.inr (Sum.inr (rows_of 5 R_a_rest)))))), (a_left, Sum.inl (k_a_left, 5, Sum.inr (Sum.inr (Sum.inr (Sum.inr (rows_of 5 R_a_left))))))]) (f := fp) mrw9.1
        have qkk11 := hkk11
        rw [hgk10] at qkk11
        refine va_iald hx hb hK hP kk11 5 qkk11 rfl (vq_in p0 4 (by omega)) dX0_lastCoin_39 ?_
        refine lv_topi (fun x12 ex12 => ?_)
        have bx12 := i32_rng x12
        refine lv_if_ge (tgt := 59) hx hb dX0_lastCoin_40 (by decide) (fun c13 => ?_) (fun c13 => ?_)
        · have c139 := i32_le c13 (show (0 : Int32).toInt = 0 by decide) rfl
          obtain ⟨x14, ex14⟩ : ∃ z : Int32, v3 + Int32.ofInt 1 = z := ⟨_, rfl⟩
          have tx14 := i32_inc ex14 rfl (by decide) (by omega) (by omega)
          refine lv_iinc (v := x14) (lv' := [(3, Value.int x14), (2, Value.int v6), (0, Value.ref o), (1, Value.int p0)]) hx hb dX0_lastCoin_59 hl (k := 0) rfl ex14 (by decide) rfl (fun ls hl => ?_)
          refine lv_goto (tgt := 20) hx hb dX0_lastCoin_62 (by decide) ?_
          exact ih20 _ _ _ _ (ms_up hn20 tx14 (by decide) (by omega)) ⟨x14, v6, rfl, (iv.m (by omega)), (iv.m (by omega)), hP, hD, hS, lv_sub hl [0, 1, 2, 3] rfl⟩
        · have c139 := i32_nle c13 (show (0 : Int32).toInt = 0 by decide) rfl
          refine lv_aload_n hx hb dX0_lastCoin_43 rfl (lv_at hl 2 rfl) ?_
          refine lv_iload_n hx hb dX0_lastCoin_44 rfl (lv_at hl 0 rfl) ?_
          refine lv_iload_n hx hb dX0_lastCoin_45 rfl (lv_at hl 3 rfl) ?_
          refine lv_iload_n hx hb dX0_lastCoin_46 rfl (lv_at hl 1 rfl) ?_
          have hPc := hP.part (cx := [(o, Sum.inr (0, [Value.ref a_chosen, Value.int v_bestCost, Value.ref a_felt, Value.ref a_own, Value.ref a_share, Value.ref a_rest, Value.ref a_left, Value.ref a_tried, Value.int v_signs, Value.int v_lines, Value.int v_most])), (a_felt, Sum.inl (k_a_felt, 21, Sum.inl f_a_felt)), (a_share, Sum.inl (k_a_share, 5, Sum.inr (Sum.inr (Sum.inr (Sum.inr (rows_of 5 R_a_share)))))), (a_rest, Sum.inl (k_a_rest, 5, Sum.inr (Sum.inr (Sum.inr (Sum.inr (rows_of 5 R_a_rest)))))), (a_left, Sum.inl (k_a_left, 5, Sum.inr (Sum.inr (Sum.inr (Sum.inr (rows_of 5 R_a_left))))))]) [0, 1, 3, 4, 5] rfl
          have hDc := hD.part (cx := [(o, Sum.inr (0, [Value.ref a_chosen, Value.int v_bestCost, Value.ref a_felt, Value.ref a_own, Value.ref a_share, Value.ref a_rest, Value.ref a_left, Value.ref a_tried, Value.int v_signs, Value.int v_lines, Value.int v_most])), (a_felt, Sum.inl (k_a_felt, 21, Sum.inl f_a_felt)), (a_share, Sum.inl (k_a_share, 5, Sum.inr (Sum.inr (Sum.inr (Sum.inr (rows_of 5 R_a_share)))))), (a_rest, Sum.inl (k_a_rest, 5, Sum.inr (Sum.inr (Sum.inr (Sum.inr (rows_of 5 R_a_rest)))))), (a_left, Sum.inl (k_a_left, 5, Sum.inr (Sum.inr (Sum.inr (Sum.inr (rows_of 5 R_a_left))))))]) [0, 1, 3, 4, 5] (by decide) rfl
          have hKc := hK.sub (tys' := [(k_a_felt, FieldType.int), (k_a_share, (FieldType.array FieldType.int)), (k_a_rest, (FieldType.array FieldType.int)), (k_a_left, (FieldType.array FieldType.int)), (cI, FieldType.int), (cJ, FieldType.long)]) [0, 2, 3, 4, 5, 6] rfl
          have hFc := va_freeP (cx := [(o, Sum.inr (0, [Value.ref a_chosen, Value.int v_bestCost, Value.ref a_felt, Value.ref a_own, Value.ref a_share, Value.ref a_rest, Value.ref a_left, Value.ref a_tried, Value.int v_signs, Value.int v_lines, Value.int v_most])), (a_felt, Sum.inl (k_a_felt, 21, Sum.inl f_a_felt)), (a_share, Sum.inl (k_a_share, 5, Sum.inr (Sum.inr (Sum.inr (Sum.inr (rows_of 5 R_a_share)))))), (a_rest, Sum.inl (k_a_rest, 5, Sum.inr (Sum.inr (Sum.inr (Sum.inr (rows_of 5 R_a_rest)))))), (a_left, Sum.inl (k_a_left, 5, Sum.inr (Sum.inr (Sum.inr (Sum.inr (rows_of 5 R_a_left))))))]) hD hS hA [0, 1, 3, 4, 5] rfl
          refine va_calli (va_runV (As := [Value.int v3, Value.int p0, Value.int v6]) (rest := []) ⟨hx, hb, hml, hown, hts⟩ (ct_X0_isShort l dC dI o v3 p0 v6 a_chosen v_bestCost a_felt a_own a_share a_rest a_left a_tried v_signs v_lines v_most k_a_felt f_a_felt k_a_share R_a_share k_a_rest R_a_rest k_a_left R_a_left LP sh fp cI cJ CT (iv.m (by omega)) hp0 (iv.m (by omega)) hfp hRR_a_share hRR_a_rest hRR_a_left H.size) (cwV 3 hts gX0_lastCoin_X0_isShort rfl rfl rfl ⟨rfl, cn_X0.1, cn_X0.2, ds_6⟩ ⟨Nat.le_of_ble_eq_true rfl, Nat.le_of_ble_eq_true rfl⟩) ⟨fun a U g mk q => by obtain ⟨q0, q1, qP, qK, qD⟩ := q; exact ⟨q0, q1, qP, va_K.moved (u := U) (U := U.calling g mk a) (Vm.Alike.refl U.vm) qK, qD⟩, va_recv hKc hPc (ci := 0) (q0 := 0) rfl rfl, fun U hU hW => ⟨rfl, by rw [hU], by rw [hU]; exact hPc, va_K.moved hW.alike hKc, hDc.weaken (fun _ _ _ _ => trivial)⟩⟩ rfl rfl hl.1 rfl (lv_room (Nat.le_of_ble_eq_true rfl)) dX0_lastCoin_47 ⟨Nat.le_of_ble_eq_true rfl, Nat.le_of_ble_eq_true rfl⟩) hS (fun q _ h => hFc q h) hFc (fun r15 u t H1 locs ht hvm hw hB hz1 hk1 hS => ?_)
          have hw : r15 = u := hw.symm
          subst hw
          obtain ⟨w16, hP1, hD1⟩ := hB
          rw [ht] at hP1
          obtain ⟨hP, hD⟩ := va_joinP (X := [(o, Sum.inr (0, [Value.ref a_chosen, Value.int v_bestCost, Value.ref a_felt, Value.ref a_own, Value.ref a_share, Value.ref a_rest, Value.ref a_left, Value.ref a_tried, Value.int v_signs, Value.int v_lines, Value.int v_most])), (a_felt, Sum.inl (k_a_felt, 21, Sum.inl f_a_felt)), (a_own, Sum.inl (k_a_own, 4, Sum.inl f_a_own)), (a_share, Sum.inl (k_a_share, 5, Sum.inr (Sum.inr (Sum.inr (Sum.inr (rows_of 5 R_a_share)))))), (a_rest, Sum.inl (k_a_rest, 5, Sum.inr (Sum.inr (Sum.inr (Sum.inr (rows_of 5 R_a_rest)))))), (a_left, Sum.inl (k_a_left, 5, Sum.inr (Sum.inr (Sum.inr (Sum.inr (rows_of 5 R_a_left))))))]) (cx := [(o, Sum.inr (0, [Value.ref a_chosen, Value.int v_bestCost, Value.ref a_felt, Value.ref a_own, Value.ref a_share, Value.ref a_rest, Value.ref a_left, Value.ref a_tried, Value.int v_signs, Value.int v_lines, Value.int v_most])), (a_felt, Sum.inl (k_a_felt, 21, Sum.inl f_a_felt)), (a_share, Sum.inl (k_a_share, 5, Sum.inr (Sum.inr (Sum.inr (Sum.inr (rows_of 5 R_a_share)))))), (a_rest, Sum.inl (k_a_rest, 5, Sum.inr (Sum.inr (Sum.inr (Sum.inr (rows_of 5 R_a_rest)))))), (a_left, Sum.inl (k_a_left, 5, Sum.inr (Sum.inr (Sum.inr (Sum.inr (rows_of 5 R_a_left))))))]) (wr := [(a_own, Sum.inl (k_a_own, 4, Sum.inl f_a_own))]) (rx := [(o, Sum.inr (0, [Value.ref a_chosen, Value.int v_bestCost, Value.ref a_felt, Value.ref a_own, Value.ref a_share, Value.ref a_rest, Value.ref a_left, Value.ref a_tried, Value.int v_signs, Value.int v_lines, Value.int v_most])), (a_felt, Sum.inl (k_a_felt, 21, Sum.inl f_a_felt)), (a_share, Sum.inl (k_a_share, 5, Sum.inr (Sum.inr (Sum.inr (Sum.inr (rows_of 5 R_a_share)))))), (a_rest, Sum.inl (k_a_rest, 5, Sum.inr (Sum.inr (Sum.inr (Sum.inr (rows_of 5 R_a_rest)))))), (a_left, Sum.inl (k_a_left, 5, Sum.inr (Sum.inr (Sum.inr (Sum.inr (rows_of 5 R_a_left))))))]) hP hD [0, 1, 3, 4, 5] [2] rfl rfl (by decide) (by decide) hk1 hFc hP1 hD1
          clear hPc hDc hKc hFc hP1 hD1 hk1 hz1
          generalize H1 = H at hP hS ⊢
          have hP : va_P (dC, dI) vwCl ([(a_own, Sum.inl (k_a_own, 4, Sum.inl f_a_own)), (o, Sum.inr (0, [Value.ref a_chosen, Value.int v_bestCost, Value.ref a_felt, Value.ref a_own, Value.ref a_share, Value.ref a_rest, Value.ref a_left, Value.ref a_tried, Value.int v_signs, Value.int v_lines, Value.int v_most])), (a_felt, Sum.inl (k_a_felt, 21, Sum.inl f_a_felt)), (a_share, Sum.inl (k_a_share, 5, Sum.inr (Sum.inr (Sum.inr (Sum.inr (rows_of 5 R_a_share)))))), (a_rest, Sum.inl (k_a_rest, 5, Sum.inr (Sum.inr (Sum.inr (Sum.inr (rows_of 5 R_a_rest)))))), (a_left, Sum.inl (k_a_left, 5, Sum.inr (Sum.inr (Sum.inr (Sum.inr (rows_of 5 R_a_left))))))] ++ va_pl LP fp) H := hP
          have hD : va_D A ([(a_own, Sum.inl (k_a_own, 4, Sum.inl f_a_own)), (o, Sum.inr (0, [Value.ref a_chosen, Value.int v_bestCost, Value.ref a_felt, Value.ref a_own, Value.ref a_share, Value.ref a_rest, Value.ref a_left, Value.ref a_tried, Value.int v_signs, Value.int v_lines, Value.int v_most])), (a_felt, Sum.inl (k_a_felt, 21, Sum.inl f_a_felt)), (a_share, Sum.inl (k_a_share, 5, Sum.inr (Sum.inr (Sum.inr (Sum.inr (rows_of 5 R_a_share)))))), (a_rest, Sum.inl (k_a_rest, 5, Sum.inr (Sum.inr (Sum.inr (Sum.inr (rows_of 5 R_a_rest)))))), (a_left, Sum.inl (k_a_left, 5, Sum.inr (Sum.inr (Sum.inr (Sum.inr (rows_of 5 R_a_left))))))] ++ va_pl LP fp) := hD
          refine W.widen (k := 0) (n := 0) (by decide) (by decide) ?_
          rcases w16 with hr9 | hr9
          · subst hr9
            refine lv_if_eq (tgt := 59) hx hb dX0_lastCoin_50 (by decide) (fun _ => ?_) (fun cz => absurd cz (by decide))
            obtain ⟨x17, ex17⟩ : ∃ z : Int32, v3 + Int32.ofInt 1 = z := ⟨_, rfl⟩
            have tx17 := i32_inc ex17 rfl (by decide) (by omega) (by omega)
            refine lv_iinc (v := x17) (lv' := [(3, Value.int x17), (2, Value.int v6), (0, Value.ref o), (1, Value.int p0)]) hx hb dX0_lastCoin_59 hl (k := 0) rfl ex17 (by decide) rfl (fun ls hl => ?_)
            refine lv_goto (tgt := 20) hx hb dX0_lastCoin_62 (by decide) ?_
            exact ih20 _ _ _ _ (ms_up hn20 tx17 (by decide) (by omega)) ⟨x17, v6, rfl, (iv.m (by omega)), (iv.m (by omega)), hP.part [1, 2, 0, 3, 4, 5] rfl, hD.part [1, 2, 0, 3, 4, 5] (by decide) rfl, hS, lv_sub hl [0, 1, 2, 3] rfl⟩
          · subst hr9
            refine lv_if_eq (tgt := 59) hx hb dX0_lastCoin_50 (by decide) (fun cz => absurd cz (by decide)) (fun _ => ?_)
            obtain ⟨x18, ex18⟩ : ∃ z : Int32, v6 + Int32.ofInt (-1) = z := ⟨_, rfl⟩
            have tx18 := i32_inc ex18 rfl (by decide) (by omega) (by omega)
            refine lv_iinc (v := x18) (lv' := [(2, Value.int x18), (3, Value.int v3), (0, Value.ref o), (1, Value.int p0)]) hx hb dX0_lastCoin_53 hl (k := 1) rfl ex18 (by decide) rfl (fun ls hl => ?_)
            refine lv_goto (tgt := 28) hx hb dX0_lastCoin_56 (by decide) ?_
            exact ih28 _ _ _ _ (by omega) ⟨x18, rfl, (iv.m (by omega)), hP.part [1, 2, 0, 3, 4, 5] rfl, hD.part [1, 2, 0, 3, 4, 5] (by decide) rfl, hS, lv_sub hl [1, 0, 2, 3] rfl⟩
  · have c29 := i32_eq c2 rfl (show (0 : Int32).toInt = 0 by decide)
    refine lv_iconst (v := 0) hx hb dX0_lastCoin_9 (by decide) ?_
    refine lv_goto (tgt := 17) hx hb dX0_lastCoin_10 (by decide) ?_
    refine lv_istore_n (lv' := [(2, Value.int 0), (0, Value.ref o), (1, Value.int p0)]) hx hb dX0_lastCoin_17 rfl hl (by decide) rfl (fun ls hl => ?_)
    refine lv_iconst (v := 0) hx hb dX0_lastCoin_18 (by decide) ?_
    refine lv_istore_n (lv' := [(3, Value.int 0), (2, Value.int 0), (0, Value.ref o), (1, Value.int p0)]) hx hb dX0_lastCoin_19 rfl hl (by decide) rfl (fun ls hl => ?_)
    refine tl_loop (I := fun nn H locs ls => ∃ (v19 : Int32) (v20 : Int32), nn = (5 - v19.toInt).toNat ∧ iv v19 0 5 ∧ iv v20 (-1) 0 ∧  va_P (dC, dI) vwCl ([(o, Sum.inr (0, [Value.ref a_chosen, Value.int v_bestCost, Value.ref a_felt, Value.ref a_own, Value.ref a_share, Value.ref a_rest, Value.ref a_left, Value.ref a_tried, Value.int v_signs, Value.int v_lines, Value.int v_most])), (a_felt, Sum.inl (k_a_felt, 21, Sum.inl f_a_felt)), (a_own, Sum.inl (k_a_own, 4, Sum.inl f_a_own)), (a_share, Sum.inl (k_a_share, 5, Sum.inr (Sum.inr (Sum.inr (Sum.inr (rows_of 5 R_a_share)))))), (a_rest, Sum.inl (k_a_rest, 5, Sum.inr (Sum.inr (Sum.inr (Sum.inr (rows_of 5 R_a_rest)))))), (a_left, Sum.inl (k_a_left, 5, Sum.inr (Sum.inr (Sum.inr (Sum.inr (rows_of 5 R_a_left))))))] ++ va_pl LP fp) H ∧ va_D A ([(o, Sum.inr (0, [Value.ref a_chosen, Value.int v_bestCost, Value.ref a_felt, Value.ref a_own, Value.ref a_share, Value.ref a_rest, Value.ref a_left, Value.ref a_tried, Value.int v_signs, Value.int v_lines, Value.int v_most])), (a_felt, Sum.inl (k_a_felt, 21, Sum.inl f_a_felt)), (a_own, Sum.inl (k_a_own, 4, Sum.inl f_a_own)), (a_share, Sum.inl (k_a_share, 5, Sum.inr (Sum.inr (Sum.inr (Sum.inr (rows_of 5 R_a_share)))))), (a_rest, Sum.inl (k_a_rest, 5, Sum.inr (Sum.inr (Sum.inr (Sum.inr (rows_of 5 R_a_rest)))))), (a_left, Sum.inl (k_a_left, 5, Sum.inr (Sum.inr (Sum.inr (Sum.inr (rows_of 5 R_a_left))))))] ++ va_pl LP fp) ∧ va_S A s.heap H locs ∧ lv_has ls 4 [(3, Value.int v19), (2, Value.int v20), (0, Value.ref o), (1, Value.int p0)]) ?_ ⟨0, 0, rfl, (iv.m (by decide)), (iv.m (by decide)), hP, hD, hS, lv_sub hl [0, 1, 2, 3] rfl⟩
    clear hP hD hS hl
    intro nn20 H locs ls hI ih20
    obtain ⟨v19, v20, hn20, hv19, hv20, hP, hD, hS, hl⟩ := hI
    have bv19 := hv19.u
    have bv20 := hv20.u
    refine lv_iload_n hx hb dX0_lastCoin_20 rfl (lv_at hl 0 rfl) ?_
    refine lv_aload_n hx hb dX0_lastCoin_21 rfl (lv_at hl 2 rfl) ?_
    refine va_get (D := (dC, dI)) (ci := 0) (v := Value.int v_lines) (C := RX0) (T := TX0) (N := 11) hx hb hts iw_X0_lastCoin_X0 hown hK hP 0 rfl rfl 9 (by decide) (hts _ kk_X0_lastCoin_2) (fun _ h9 => h9) rfl dX0_lastCoin_22 ?_
    have bv_lines := hv_lines.u
    refine lv_icmp_ge (tgt := 65) hx hb dX0_lastCoin_25 (by decide) (fun c21 => ?_) (fun c21 => ?_)
    · have c219 := i32_le c21 rfl rfl
      refine lv_iload_n hx hb dX0_lastCoin_65 rfl (lv_at hl 1 rfl) ?_
      have hP9 := hP.part (cx := [(o, Sum.inr (0, [Value.ref a_chosen, Value.int v_bestCost, Value.ref a_felt, Value.ref a_own, Value.ref a_share, Value.ref a_rest, Value.ref a_left, Value.ref a_tried, Value.int v_signs, Value.int v_lines, Value.int v_most])), (a_felt, Sum.inl (k_a_felt, 21, Sum.inl f_a_felt)), (a_own, Sum.inl (k_a_own, 4, Sum.inl f_a_own)), (a_share, Sum.inl (k_a_share, 5, Sum.inr (Sum.inr (Sum.inr (Sum.inr (rows_of 5 R_a_share)))))), (a_rest, Sum.inl (k_a_rest, 5, Sum.inr (Sum.inr (Sum.inr (Sum.inr (rows_of 5 R_a_rest)))))), (a_left, Sum.inl (k_a_left, 5, Sum.inr (Sum.inr (Sum.inr (Sum.inr (rows_of 5 R_a_left))))))]) [0, 1, 2, 3, 4, 5] rfl
      have hD9 := hD.part (cx := [(o, Sum.inr (0, [Value.ref a_chosen, Value.int v_bestCost, Value.ref a_felt, Value.ref a_own, Value.ref a_share, Value.ref a_rest, Value.ref a_left, Value.ref a_tried, Value.int v_signs, Value.int v_lines, Value.int v_most])), (a_felt, Sum.inl (k_a_felt, 21, Sum.inl f_a_felt)), (a_own, Sum.inl (k_a_own, 4, Sum.inl f_a_own)), (a_share, Sum.inl (k_a_share, 5, Sum.inr (Sum.inr (Sum.inr (Sum.inr (rows_of 5 R_a_share)))))), (a_rest, Sum.inl (k_a_rest, 5, Sum.inr (Sum.inr (Sum.inr (Sum.inr (rows_of 5 R_a_rest)))))), (a_left, Sum.inl (k_a_left, 5, Sum.inr (Sum.inr (Sum.inr (Sum.inr (rows_of 5 R_a_left))))))]) [0, 1, 2, 3, 4, 5] (by decide) rfl
      exact W.iret (v := v20) hx hb hr (fun t ht hW => ⟨⟨v20, v20, rfl, rfl, (hv20.w (by decide) (by decide)), by rw [ht]; exact hP9, hD9⟩, hS.F ht⟩) hS.2.2 dX0_lastCoin_66
    · have c219 := i32_nle c21 rfl rfl
      refine tl_loop (I := fun nn H locs ls => ∃ (v22 : Int32), nn = (v22.toInt - (-1)).toNat ∧ iv v22 (-1) 0 ∧  va_P (dC, dI) vwCl ([(o, Sum.inr (0, [Value.ref a_chosen, Value.int v_bestCost, Value.ref a_felt, Value.ref a_own, Value.ref a_share, Value.ref a_rest, Value.ref a_left, Value.ref a_tried, Value.int v_signs, Value.int v_lines, Value.int v_most])), (a_felt, Sum.inl (k_a_felt, 21, Sum.inl f_a_felt)), (a_own, Sum.inl (k_a_own, 4, Sum.inl f_a_own)), (a_share, Sum.inl (k_a_share, 5, Sum.inr (Sum.inr (Sum.inr (Sum.inr (rows_of 5 R_a_share)))))), (a_rest, Sum.inl (k_a_rest, 5, Sum.inr (Sum.inr (Sum.inr (Sum.inr (rows_of 5 R_a_rest)))))), (a_left, Sum.inl (k_a_left, 5, Sum.inr (Sum.inr (Sum.inr (Sum.inr (rows_of 5 R_a_left))))))] ++ va_pl LP fp) H ∧ va_D A ([(o, Sum.inr (0, [Value.ref a_chosen, Value.int v_bestCost, Value.ref a_felt, Value.ref a_own, Value.ref a_share, Value.ref a_rest, Value.ref a_left, Value.ref a_tried, Value.int v_signs, Value.int v_lines, Value.int v_most])), (a_felt, Sum.inl (k_a_felt, 21, Sum.inl f_a_felt)), (a_own, Sum.inl (k_a_own, 4, Sum.inl f_a_own)), (a_share, Sum.inl (k_a_share, 5, Sum.inr (Sum.inr (Sum.inr (Sum.inr (rows_of 5 R_a_share)))))), (a_rest, Sum.inl (k_a_rest, 5, Sum.inr (Sum.inr (Sum.inr (Sum.inr (rows_of 5 R_a_rest)))))), (a_left, Sum.inl (k_a_left, 5, Sum.inr (Sum.inr (Sum.inr (Sum.inr (rows_of 5 R_a_left))))))] ++ va_pl LP fp) ∧ va_S A s.heap H locs ∧ lv_has ls 4 [(3, Value.int v19), (2, Value.int v22), (0, Value.ref o), (1, Value.int p0)]) ?_ ⟨v20, rfl, hv20, hP, hD, hS, lv_sub hl [0, 1, 2, 3] rfl⟩
      clear hP hD hS hl
      intro nn28 H locs ls hI ih28
      obtain ⟨v22, hn28, hv22, hP, hD, hS, hl⟩ := hI
      have bv22 := hv22.u
      refine lv_iload_n hx hb dX0_lastCoin_28 rfl (lv_at hl 1 rfl) ?_
      refine lv_if_lt (tgt := 59) hx hb dX0_lastCoin_29 (by decide) (fun c23 => ?_) (fun c23 => ?_)
      · have c239 := i32_lt c23 rfl (show (0 : Int32).toInt = 0 by decide)
        obtain ⟨x24, ex24⟩ : ∃ z : Int32, v19 + Int32.ofInt 1 = z := ⟨_, rfl⟩
        have tx24 := i32_inc ex24 rfl (by decide) (by omega) (by omega)
        refine lv_iinc (v := x24) (lv' := [(3, Value.int x24), (2, Value.int v22), (0, Value.ref o), (1, Value.int p0)]) hx hb dX0_lastCoin_59 hl (k := 0) rfl ex24 (by decide) rfl (fun ls hl => ?_)
        refine lv_goto (tgt := 20) hx hb dX0_lastCoin_62 (by decide) ?_
        exact ih20 _ _ _ _ (ms_up hn20 tx24 (by decide) (by omega)) ⟨x24, v22, rfl, (iv.m (by omega)), (iv.m (by omega)), hP, hD, hS, lv_sub hl [0, 1, 2, 3] rfl⟩
      · have c239 := i32_nlt c23 rfl (show (0 : Int32).toInt = 0 by decide)
        refine lv_aload_n hx hb dX0_lastCoin_32 rfl (lv_at hl 2 rfl) ?_
        refine va_get (D := (dC, dI)) (ci := 0) (v := Value.ref a_share) (C := RX0) (T := TX0) (N := 11) hx hb hts iw_X0_lastCoin_X0 hown hK hP 0 rfl rfl 4 (by decide) (hts _ kk_X0_lastCoin_3) (fun _ h9 => h9) rfl dX0_lastCoin_33 ?_
        refine lv_iload_n hx hb dX0_lastCoin_36 rfl (lv_at hl 0 rfl) ?_
        have hinrw25 : vp_in v19 5 := (vq_in v19 5 (by omega))
        refine va_aldA hx hb hK hP 3 2 rfl rfl hinrw25 dX0_lastCoin_37 ?_
        obtain ⟨rw25, erw25⟩ : ∃ z : Nat, z = R_a_share (Int32.toNatClampNeg v19) := ⟨_, rfl⟩
        refine px_v ((row_sel hinrw25).trans (congrArg Value.ref erw25.symm)) ?_
        have mrw25 : rw25 ∈ LP ∧ sh rw25 = 4 := by rw [erw25]; exact hRR_a_share _ (vin_lt hinrw25)
        refine lv_iload_n hx hb dX0_lastCoin_38 rfl (lv_at hl 3 rfl) ?_
        obtain ⟨gk26, hgk26⟩ := pok_4 (hfp) mrw25
        obtain ⟨kk27, hkk27⟩ := va_pl_get (X := [(o, Sum.inr (0, [Value.ref a_chosen, Value.int v_bestCost, Value.ref a_felt, Value.ref a_own, Value.ref a_share, Value.ref a_rest, Value.ref a_left, Value.ref a_tried, Value.int v_signs, Value.int v_lines, Value.int v_most])), (a_felt, Sum.inl (k_a_felt, 21, Sum.inl f_a_felt)), (a_own, Sum.inl (k_a_own, 4, Sum.inl f_a_own)), (a_share, Sum.inl (k_a_share, 5, Sum.inr (Sum.inr (Sum.inr (Sum.inr (rows_of 5 R_a_share)))))), (a_rest, Sum.inl (k_a_rest, 5, Sum.inr (Sum.inr (Sum.inr (Sum.inr (rows_of 5 R_a_rest)))))), (a_left, Sum.inl (k_a_left, 5, Sum.inr (Sum.inr (Sum.inr (Sum.inr (rows_of 5 R_a_left))))))]) (f := fp) mrw25.1
        have qkk27 := hkk27
        rw [hgk26] at qkk27
        refine va_iald hx hb hK hP kk27 5 qkk27 rfl (vq_in p0 4 (by omega)) dX0_lastCoin_39 ?_
        refine lv_topi (fun x28 ex28 => ?_)
        have bx28 := i32_rng x28
        refine lv_if_ge (tgt := 59) hx hb dX0_lastCoin_40 (by decide) (fun c29 => ?_) (fun c29 => ?_)
        · have c299 := i32_le c29 (show (0 : Int32).toInt = 0 by decide) rfl
          obtain ⟨x30, ex30⟩ : ∃ z : Int32, v19 + Int32.ofInt 1 = z := ⟨_, rfl⟩
          have tx30 := i32_inc ex30 rfl (by decide) (by omega) (by omega)
          refine lv_iinc (v := x30) (lv' := [(3, Value.int x30), (2, Value.int v22), (0, Value.ref o), (1, Value.int p0)]) hx hb dX0_lastCoin_59 hl (k := 0) rfl ex30 (by decide) rfl (fun ls hl => ?_)
          refine lv_goto (tgt := 20) hx hb dX0_lastCoin_62 (by decide) ?_
          exact ih20 _ _ _ _ (ms_up hn20 tx30 (by decide) (by omega)) ⟨x30, v22, rfl, (iv.m (by omega)), (iv.m (by omega)), hP, hD, hS, lv_sub hl [0, 1, 2, 3] rfl⟩
        · have c299 := i32_nle c29 (show (0 : Int32).toInt = 0 by decide) rfl
          refine lv_aload_n hx hb dX0_lastCoin_43 rfl (lv_at hl 2 rfl) ?_
          refine lv_iload_n hx hb dX0_lastCoin_44 rfl (lv_at hl 0 rfl) ?_
          refine lv_iload_n hx hb dX0_lastCoin_45 rfl (lv_at hl 3 rfl) ?_
          refine lv_iload_n hx hb dX0_lastCoin_46 rfl (lv_at hl 1 rfl) ?_
          have hPc := hP.part (cx := [(o, Sum.inr (0, [Value.ref a_chosen, Value.int v_bestCost, Value.ref a_felt, Value.ref a_own, Value.ref a_share, Value.ref a_rest, Value.ref a_left, Value.ref a_tried, Value.int v_signs, Value.int v_lines, Value.int v_most])), (a_felt, Sum.inl (k_a_felt, 21, Sum.inl f_a_felt)), (a_share, Sum.inl (k_a_share, 5, Sum.inr (Sum.inr (Sum.inr (Sum.inr (rows_of 5 R_a_share)))))), (a_rest, Sum.inl (k_a_rest, 5, Sum.inr (Sum.inr (Sum.inr (Sum.inr (rows_of 5 R_a_rest)))))), (a_left, Sum.inl (k_a_left, 5, Sum.inr (Sum.inr (Sum.inr (Sum.inr (rows_of 5 R_a_left))))))]) [0, 1, 3, 4, 5] rfl
          have hDc := hD.part (cx := [(o, Sum.inr (0, [Value.ref a_chosen, Value.int v_bestCost, Value.ref a_felt, Value.ref a_own, Value.ref a_share, Value.ref a_rest, Value.ref a_left, Value.ref a_tried, Value.int v_signs, Value.int v_lines, Value.int v_most])), (a_felt, Sum.inl (k_a_felt, 21, Sum.inl f_a_felt)), (a_share, Sum.inl (k_a_share, 5, Sum.inr (Sum.inr (Sum.inr (Sum.inr (rows_of 5 R_a_share)))))), (a_rest, Sum.inl (k_a_rest, 5, Sum.inr (Sum.inr (Sum.inr (Sum.inr (rows_of 5 R_a_rest)))))), (a_left, Sum.inl (k_a_left, 5, Sum.inr (Sum.inr (Sum.inr (Sum.inr (rows_of 5 R_a_left))))))]) [0, 1, 3, 4, 5] (by decide) rfl
          have hKc := hK.sub (tys' := [(k_a_felt, FieldType.int), (k_a_share, (FieldType.array FieldType.int)), (k_a_rest, (FieldType.array FieldType.int)), (k_a_left, (FieldType.array FieldType.int)), (cI, FieldType.int), (cJ, FieldType.long)]) [0, 2, 3, 4, 5, 6] rfl
          have hFc := va_freeP (cx := [(o, Sum.inr (0, [Value.ref a_chosen, Value.int v_bestCost, Value.ref a_felt, Value.ref a_own, Value.ref a_share, Value.ref a_rest, Value.ref a_left, Value.ref a_tried, Value.int v_signs, Value.int v_lines, Value.int v_most])), (a_felt, Sum.inl (k_a_felt, 21, Sum.inl f_a_felt)), (a_share, Sum.inl (k_a_share, 5, Sum.inr (Sum.inr (Sum.inr (Sum.inr (rows_of 5 R_a_share)))))), (a_rest, Sum.inl (k_a_rest, 5, Sum.inr (Sum.inr (Sum.inr (Sum.inr (rows_of 5 R_a_rest)))))), (a_left, Sum.inl (k_a_left, 5, Sum.inr (Sum.inr (Sum.inr (Sum.inr (rows_of 5 R_a_left))))))]) hD hS hA [0, 1, 3, 4, 5] rfl
          refine va_calli (va_runV (As := [Value.int v19, Value.int p0, Value.int v22]) (rest := []) ⟨hx, hb, hml, hown, hts⟩ (ct_X0_isShort l dC dI o v19 p0 v22 a_chosen v_bestCost a_felt a_own a_share a_rest a_left a_tried v_signs v_lines v_most k_a_felt f_a_felt k_a_share R_a_share k_a_rest R_a_rest k_a_left R_a_left LP sh fp cI cJ CT (iv.m (by omega)) hp0 (iv.m (by omega)) hfp hRR_a_share hRR_a_rest hRR_a_left H.size) (cwV 3 hts gX0_lastCoin_X0_isShort rfl rfl rfl ⟨rfl, cn_X0.1, cn_X0.2, ds_6⟩ ⟨Nat.le_of_ble_eq_true rfl, Nat.le_of_ble_eq_true rfl⟩) ⟨fun a U g mk q => by obtain ⟨q0, q1, qP, qK, qD⟩ := q; exact ⟨q0, q1, qP, va_K.moved (u := U) (U := U.calling g mk a) (Vm.Alike.refl U.vm) qK, qD⟩, va_recv hKc hPc (ci := 0) (q0 := 0) rfl rfl, fun U hU hW => ⟨rfl, by rw [hU], by rw [hU]; exact hPc, va_K.moved hW.alike hKc, hDc.weaken (fun _ _ _ _ => trivial)⟩⟩ rfl rfl hl.1 rfl (lv_room (Nat.le_of_ble_eq_true rfl)) dX0_lastCoin_47 ⟨Nat.le_of_ble_eq_true rfl, Nat.le_of_ble_eq_true rfl⟩) hS (fun q _ h => hFc q h) hFc (fun r31 u t H1 locs ht hvm hw hB hz1 hk1 hS => ?_)
          have hw : r31 = u := hw.symm
          subst hw
          obtain ⟨w32, hP1, hD1⟩ := hB
          rw [ht] at hP1
          obtain ⟨hP, hD⟩ := va_joinP (X := [(o, Sum.inr (0, [Value.ref a_chosen, Value.int v_bestCost, Value.ref a_felt, Value.ref a_own, Value.ref a_share, Value.ref a_rest, Value.ref a_left, Value.ref a_tried, Value.int v_signs, Value.int v_lines, Value.int v_most])), (a_felt, Sum.inl (k_a_felt, 21, Sum.inl f_a_felt)), (a_own, Sum.inl (k_a_own, 4, Sum.inl f_a_own)), (a_share, Sum.inl (k_a_share, 5, Sum.inr (Sum.inr (Sum.inr (Sum.inr (rows_of 5 R_a_share)))))), (a_rest, Sum.inl (k_a_rest, 5, Sum.inr (Sum.inr (Sum.inr (Sum.inr (rows_of 5 R_a_rest)))))), (a_left, Sum.inl (k_a_left, 5, Sum.inr (Sum.inr (Sum.inr (Sum.inr (rows_of 5 R_a_left))))))]) (cx := [(o, Sum.inr (0, [Value.ref a_chosen, Value.int v_bestCost, Value.ref a_felt, Value.ref a_own, Value.ref a_share, Value.ref a_rest, Value.ref a_left, Value.ref a_tried, Value.int v_signs, Value.int v_lines, Value.int v_most])), (a_felt, Sum.inl (k_a_felt, 21, Sum.inl f_a_felt)), (a_share, Sum.inl (k_a_share, 5, Sum.inr (Sum.inr (Sum.inr (Sum.inr (rows_of 5 R_a_share)))))), (a_rest, Sum.inl (k_a_rest, 5, Sum.inr (Sum.inr (Sum.inr (Sum.inr (rows_of 5 R_a_rest)))))), (a_left, Sum.inl (k_a_left, 5, Sum.inr (Sum.inr (Sum.inr (Sum.inr (rows_of 5 R_a_left))))))]) (wr := [(a_own, Sum.inl (k_a_own, 4, Sum.inl f_a_own))]) (rx := [(o, Sum.inr (0, [Value.ref a_chosen, Value.int v_bestCost, Value.ref a_felt, Value.ref a_own, Value.ref a_share, Value.ref a_rest, Value.ref a_left, Value.ref a_tried, Value.int v_signs, Value.int v_lines, Value.int v_most])), (a_felt, Sum.inl (k_a_felt, 21, Sum.inl f_a_felt)), (a_share, Sum.inl (k_a_share, 5, Sum.inr (Sum.inr (Sum.inr (Sum.inr (rows_of 5 R_a_share)))))), (a_rest, Sum.inl (k_a_rest, 5, Sum.inr (Sum.inr (Sum.inr (Sum.inr (rows_of 5 R_a_rest)))))), (a_left, Sum.inl (k_a_left, 5, Sum.inr (Sum.inr (Sum.inr (Sum.inr (rows_of 5 R_a_left))))))]) hP hD [0, 1, 3, 4, 5] [2] rfl rfl (by decide) (by decide) hk1 hFc hP1 hD1
          clear hPc hDc hKc hFc hP1 hD1 hk1 hz1
          generalize H1 = H at hP hS ⊢
          have hP : va_P (dC, dI) vwCl ([(a_own, Sum.inl (k_a_own, 4, Sum.inl f_a_own)), (o, Sum.inr (0, [Value.ref a_chosen, Value.int v_bestCost, Value.ref a_felt, Value.ref a_own, Value.ref a_share, Value.ref a_rest, Value.ref a_left, Value.ref a_tried, Value.int v_signs, Value.int v_lines, Value.int v_most])), (a_felt, Sum.inl (k_a_felt, 21, Sum.inl f_a_felt)), (a_share, Sum.inl (k_a_share, 5, Sum.inr (Sum.inr (Sum.inr (Sum.inr (rows_of 5 R_a_share)))))), (a_rest, Sum.inl (k_a_rest, 5, Sum.inr (Sum.inr (Sum.inr (Sum.inr (rows_of 5 R_a_rest)))))), (a_left, Sum.inl (k_a_left, 5, Sum.inr (Sum.inr (Sum.inr (Sum.inr (rows_of 5 R_a_left))))))] ++ va_pl LP fp) H := hP
          have hD : va_D A ([(a_own, Sum.inl (k_a_own, 4, Sum.inl f_a_own)), (o, Sum.inr (0, [Value.ref a_chosen, Value.int v_bestCost, Value.ref a_felt, Value.ref a_own, Value.ref a_share, Value.ref a_rest, Value.ref a_left, Value.ref a_tried, Value.int v_signs, Value.int v_lines, Value.int v_most])), (a_felt, Sum.inl (k_a_felt, 21, Sum.inl f_a_felt)), (a_share, Sum.inl (k_a_share, 5, Sum.inr (Sum.inr (Sum.inr (Sum.inr (rows_of 5 R_a_share)))))), (a_rest, Sum.inl (k_a_rest, 5, Sum.inr (Sum.inr (Sum.inr (Sum.inr (rows_of 5 R_a_rest)))))), (a_left, Sum.inl (k_a_left, 5, Sum.inr (Sum.inr (Sum.inr (Sum.inr (rows_of 5 R_a_left))))))] ++ va_pl LP fp) := hD
          refine W.widen (k := 0) (n := 0) (by decide) (by decide) ?_
          rcases w32 with hr9 | hr9
          · subst hr9
            refine lv_if_eq (tgt := 59) hx hb dX0_lastCoin_50 (by decide) (fun _ => ?_) (fun cz => absurd cz (by decide))
            obtain ⟨x33, ex33⟩ : ∃ z : Int32, v19 + Int32.ofInt 1 = z := ⟨_, rfl⟩
            have tx33 := i32_inc ex33 rfl (by decide) (by omega) (by omega)
            refine lv_iinc (v := x33) (lv' := [(3, Value.int x33), (2, Value.int v22), (0, Value.ref o), (1, Value.int p0)]) hx hb dX0_lastCoin_59 hl (k := 0) rfl ex33 (by decide) rfl (fun ls hl => ?_)
            refine lv_goto (tgt := 20) hx hb dX0_lastCoin_62 (by decide) ?_
            exact ih20 _ _ _ _ (ms_up hn20 tx33 (by decide) (by omega)) ⟨x33, v22, rfl, (iv.m (by omega)), (iv.m (by omega)), hP.part [1, 2, 0, 3, 4, 5] rfl, hD.part [1, 2, 0, 3, 4, 5] (by decide) rfl, hS, lv_sub hl [0, 1, 2, 3] rfl⟩
          · subst hr9
            refine lv_if_eq (tgt := 59) hx hb dX0_lastCoin_50 (by decide) (fun cz => absurd cz (by decide)) (fun _ => ?_)
            obtain ⟨x34, ex34⟩ : ∃ z : Int32, v22 + Int32.ofInt (-1) = z := ⟨_, rfl⟩
            have tx34 := i32_inc ex34 rfl (by decide) (by omega) (by omega)
            refine lv_iinc (v := x34) (lv' := [(2, Value.int x34), (3, Value.int v19), (0, Value.ref o), (1, Value.int p0)]) hx hb dX0_lastCoin_53 hl (k := 1) rfl ex34 (by decide) rfl (fun ls hl => ?_)
            refine lv_goto (tgt := 28) hx hb dX0_lastCoin_56 (by decide) ?_
            exact ih28 _ _ _ _ (by omega) ⟨x34, rfl, (iv.m (by omega)), hP.part [1, 2, 0, 3, 4, 5] rfl, hD.part [1, 2, 0, 3, 4, 5] (by decide) rfl, hS, lv_sub hl [1, 0, 2, 3] rfl⟩

set_option maxHeartbeats 4000000 in
set_option maxRecDepth 100000 in
theorem ct_X0_firstCoin (l : Launch) (dC : Nat → ClassId) (dI : Nat → Nat → Nat) (o : Nat) (p0 : Int32) (a_chosen : Nat) (v_bestCost : Int32) (a_felt : Nat) (a_own : Nat) (a_share : Nat) (a_rest : Nat) (a_left : Nat) (a_tried : Nat) (v_signs : Int32) (v_lines : Int32) (v_most : Int32) (k_a_felt : ClassId) (f_a_felt : Nat → Int32) (k_a_share : ClassId) (R_a_share : Nat → Nat) (k_a_rest : ClassId) (R_a_rest : Nat → Nat) (k_a_left : ClassId) (R_a_left : Nat → Nat) (LP : List Nat) (sh : Nat → Nat) (fp : Nat → va_E) (cI : ClassId) (cJ : ClassId) (CT : Nat → Nat → Int32) (hp0 : iv p0 0 3) (hv_lines : iv v_lines 0 5) (hv_most : iv v_most 0 20) (hfp : pok cI cJ LP sh CT fp) (hRR_a_share : ∀ i : Nat, i < 5 → R_a_share i ∈ LP ∧ sh (R_a_share i) = 4) (hRR_a_rest : ∀ i : Nat, i < 5 → R_a_rest i ∈ LP ∧ sh (R_a_rest i) = 5) (hRR_a_left : ∀ i : Nat, i < 5 → R_a_left i ∈ LP ∧ sh (R_a_left i) = 5) (sz : Nat) : Met l yX0_firstCoin wsX0_firstCoin ({ frames := 1, cells := 0, slots := 0, locals := 23 }) (va_Pc [Value.ref o, Value.int p0] (fun U => U.heap.size = sz ∧ va_P (dC, dI) vwCl ([(o, Sum.inr (0, [Value.ref a_chosen, Value.int v_bestCost, Value.ref a_felt, Value.ref a_own, Value.ref a_share, Value.ref a_rest, Value.ref a_left, Value.ref a_tried, Value.int v_signs, Value.int v_lines, Value.int v_most])), (a_felt, Sum.inl (k_a_felt, 21, Sum.inl f_a_felt)), (a_share, Sum.inl (k_a_share, 5, Sum.inr (Sum.inr (Sum.inr (Sum.inr (rows_of 5 R_a_share)))))), (a_rest, Sum.inl (k_a_rest, 5, Sum.inr (Sum.inr (Sum.inr (Sum.inr (rows_of 5 R_a_rest)))))), (a_left, Sum.inl (k_a_left, 5, Sum.inr (Sum.inr (Sum.inr (Sum.inr (rows_of 5 R_a_left))))))] ++ va_pl LP fp) U.heap ∧ va_K (dC, dI) vwCl [(k_a_felt, FieldType.int), (k_a_share, (FieldType.array FieldType.int)), (k_a_rest, (FieldType.array FieldType.int)), (k_a_left, (FieldType.array FieldType.int)), (cI, FieldType.int), (cJ, FieldType.long)] U ∧ va_D (fun _ => True) ([(o, Sum.inr (0, [Value.ref a_chosen, Value.int v_bestCost, Value.ref a_felt, Value.ref a_own, Value.ref a_share, Value.ref a_rest, Value.ref a_left, Value.ref a_tried, Value.int v_signs, Value.int v_lines, Value.int v_most])), (a_felt, Sum.inl (k_a_felt, 21, Sum.inl f_a_felt)), (a_share, Sum.inl (k_a_share, 5, Sum.inr (Sum.inr (Sum.inr (Sum.inr (rows_of 5 R_a_share)))))), (a_rest, Sum.inl (k_a_rest, 5, Sum.inr (Sum.inr (Sum.inr (Sum.inr (rows_of 5 R_a_rest)))))), (a_left, Sum.inl (k_a_left, 5, Sum.inr (Sum.inr (Sum.inr (Sum.inr (rows_of 5 R_a_left))))))] ++ va_pl LP fp))) (va_Qi (fun (r u : Int32) => u = r) (fun (r : Int32) t => iv r 0 21 ∧ va_P (dC, dI) vwCl ([(o, Sum.inr (0, [Value.ref a_chosen, Value.int v_bestCost, Value.ref a_felt, Value.ref a_own, Value.ref a_share, Value.ref a_rest, Value.ref a_left, Value.ref a_tried, Value.int v_signs, Value.int v_lines, Value.int v_most])), (a_felt, Sum.inl (k_a_felt, 21, Sum.inl f_a_felt)), (a_share, Sum.inl (k_a_share, 5, Sum.inr (Sum.inr (Sum.inr (Sum.inr (rows_of 5 R_a_share)))))), (a_rest, Sum.inl (k_a_rest, 5, Sum.inr (Sum.inr (Sum.inr (Sum.inr (rows_of 5 R_a_rest)))))), (a_left, Sum.inl (k_a_left, 5, Sum.inr (Sum.inr (Sum.inr (Sum.inr (rows_of 5 R_a_left))))))] ++ va_pl LP fp) t.heap ∧ va_D (va_A ([(o, Sum.inr (0, [Value.ref a_chosen, Value.int v_bestCost, Value.ref a_felt, Value.ref a_own, Value.ref a_share, Value.ref a_rest, Value.ref a_left, Value.ref a_tried, Value.int v_signs, Value.int v_lines, Value.int v_most])), (a_felt, Sum.inl (k_a_felt, 21, Sum.inl f_a_felt)), (a_share, Sum.inl (k_a_share, 5, Sum.inr (Sum.inr (Sum.inr (Sum.inr (rows_of 5 R_a_share)))))), (a_rest, Sum.inl (k_a_rest, 5, Sum.inr (Sum.inr (Sum.inr (Sum.inr (rows_of 5 R_a_rest)))))), (a_left, Sum.inl (k_a_left, 5, Sum.inr (Sum.inr (Sum.inr (Sum.inr (rows_of 5 R_a_left))))))] ++ va_pl LP fp) sz) ([(o, Sum.inr (0, [Value.ref a_chosen, Value.int v_bestCost, Value.ref a_felt, Value.ref a_own, Value.ref a_share, Value.ref a_rest, Value.ref a_left, Value.ref a_tried, Value.int v_signs, Value.int v_lines, Value.int v_most])), (a_felt, Sum.inl (k_a_felt, 21, Sum.inl f_a_felt)), (a_share, Sum.inl (k_a_share, 5, Sum.inr (Sum.inr (Sum.inr (Sum.inr (rows_of 5 R_a_share)))))), (a_rest, Sum.inl (k_a_rest, 5, Sum.inr (Sum.inr (Sum.inr (Sum.inr (rows_of 5 R_a_rest)))))), (a_left, Sum.inl (k_a_left, 5, Sum.inr (Sum.inr (Sum.inr (Sum.inr (rows_of 5 R_a_left))))))] ++ va_pl LP fp)) (va_A ([(o, Sum.inr (0, [Value.ref a_chosen, Value.int v_bestCost, Value.ref a_felt, Value.ref a_own, Value.ref a_share, Value.ref a_rest, Value.ref a_left, Value.ref a_tried, Value.int v_signs, Value.int v_lines, Value.int v_most])), (a_felt, Sum.inl (k_a_felt, 21, Sum.inl f_a_felt)), (a_share, Sum.inl (k_a_share, 5, Sum.inr (Sum.inr (Sum.inr (Sum.inr (rows_of 5 R_a_share)))))), (a_rest, Sum.inl (k_a_rest, 5, Sum.inr (Sum.inr (Sum.inr (Sum.inr (rows_of 5 R_a_rest)))))), (a_left, Sum.inl (k_a_left, 5, Sum.inr (Sum.inr (Sum.inr (Sum.inr (rows_of 5 R_a_left))))))] ++ va_pl LP fp) sz)) 0 0 (va_A ([(o, Sum.inr (0, [Value.ref a_chosen, Value.int v_bestCost, Value.ref a_felt, Value.ref a_own, Value.ref a_share, Value.ref a_rest, Value.ref a_left, Value.ref a_tried, Value.int v_signs, Value.int v_lines, Value.int v_most])), (a_felt, Sum.inl (k_a_felt, 21, Sum.inl f_a_felt)), (a_share, Sum.inl (k_a_share, 5, Sum.inr (Sum.inr (Sum.inr (Sum.inr (rows_of 5 R_a_share)))))), (a_rest, Sum.inl (k_a_rest, 5, Sum.inr (Sum.inr (Sum.inr (Sum.inr (rows_of 5 R_a_rest)))))), (a_left, Sum.inl (k_a_left, 5, Sum.inr (Sum.inr (Sum.inr (Sum.inr (rows_of 5 R_a_left))))))] ++ va_pl LP fp) sz) := by
  refine Met.ofW (cc := cX0_firstCoin) (maxL := 4) (ret := (some .int)) pn_X0 rfl ?_
  intro p e s m args below meth c s₁ B hml hv
  obtain ⟨rfl, hsz, hP, hK, hD0⟩ := hv
  have hx := B.exec
  have hb := B.bytes
  have hr := B.returns
  have hts := atoms_spec (ws := wsX0_firstCoin) B.pre
  have hown : s.vm.findClass RX0 = some m.cls := findClass_of_methodNamed B.named
  have hlocks := B.notSynchronized
  subst hsz
  have hD := hD0.self (sz := s.heap.size)
  generalize hAe : va_A ([(o, Sum.inr (0, [Value.ref a_chosen, Value.int v_bestCost, Value.ref a_felt, Value.ref a_own, Value.ref a_share, Value.ref a_rest, Value.ref a_left, Value.ref a_tried, Value.int v_signs, Value.int v_lines, Value.int v_most])), (a_felt, Sum.inl (k_a_felt, 21, Sum.inl f_a_felt)), (a_share, Sum.inl (k_a_share, 5, Sum.inr (Sum.inr (Sum.inr (Sum.inr (rows_of 5 R_a_share)))))), (a_rest, Sum.inl (k_a_rest, 5, Sum.inr (Sum.inr (Sum.inr (Sum.inr (rows_of 5 R_a_rest)))))), (a_left, Sum.inl (k_a_left, 5, Sum.inr (Sum.inr (Sum.inr (Sum.inr (rows_of 5 R_a_left))))))] ++ va_pl LP fp) s.heap.size = A at hD ⊢
  have hA : ∀ q : Nat, s.heap.size ≤ q → A q := fun q h => by rw [← hAe]; exact Or.inr h
  have hS : va_S A s.heap s.heap [] := va_S.rf
  have hP : va_P (dC, dI) vwCl ([(o, Sum.inr (0, [Value.ref a_chosen, Value.int v_bestCost, Value.ref a_felt, Value.ref a_own, Value.ref a_share, Value.ref a_rest, Value.ref a_left, Value.ref a_tried, Value.int v_signs, Value.int v_lines, Value.int v_most])), (a_felt, Sum.inl (k_a_felt, 21, Sum.inl f_a_felt)), (a_share, Sum.inl (k_a_share, 5, Sum.inr (Sum.inr (Sum.inr (Sum.inr (rows_of 5 R_a_share)))))), (a_rest, Sum.inl (k_a_rest, 5, Sum.inr (Sum.inr (Sum.inr (Sum.inr (rows_of 5 R_a_rest)))))), (a_left, Sum.inl (k_a_left, 5, Sum.inr (Sum.inr (Sum.inr (Sum.inr (rows_of 5 R_a_left))))))] ++ va_pl LP fp) s.heap := hP
  have hl := lv_entry ([Value.ref o, Value.int p0]) (n := 4) (Nat.le_of_ble_eq_true rfl)
  rw [lg_entry_eq]
  generalize (lg_sl ([Value.ref o, Value.int p0]) ++ List.replicate (4 - (lg_sl ([Value.ref o, Value.int p0])).length) Slot.unset).toArray = ls at hl ⊢
  have hl : lv_has ls 4 [(0, Value.ref o), (1, Value.int p0)] := hl
  refine lv_iconst (v := 0) hx hb dX0_firstCoin_0 (by decide) ?_
  refine lv_istore_n (lv' := [(2, Value.int 0), (0, Value.ref o), (1, Value.int p0)]) hx hb dX0_firstCoin_1 rfl hl (by decide) rfl (fun ls hl => ?_)
  refine lv_iconst (v := 0) hx hb dX0_firstCoin_2 (by decide) ?_
  refine lv_istore_n (lv' := [(3, Value.int 0), (2, Value.int 0), (0, Value.ref o), (1, Value.int p0)]) hx hb dX0_firstCoin_3 rfl hl (by decide) rfl (fun ls hl => ?_)
  refine tl_loop (I := fun nn H locs ls => ∃ (v1 : Int32) (v2 : Int32), nn = (5 - v1.toInt).toNat ∧ iv v1 0 5 ∧ iv v2 0 21 ∧  va_P (dC, dI) vwCl ([(o, Sum.inr (0, [Value.ref a_chosen, Value.int v_bestCost, Value.ref a_felt, Value.ref a_own, Value.ref a_share, Value.ref a_rest, Value.ref a_left, Value.ref a_tried, Value.int v_signs, Value.int v_lines, Value.int v_most])), (a_felt, Sum.inl (k_a_felt, 21, Sum.inl f_a_felt)), (a_share, Sum.inl (k_a_share, 5, Sum.inr (Sum.inr (Sum.inr (Sum.inr (rows_of 5 R_a_share)))))), (a_rest, Sum.inl (k_a_rest, 5, Sum.inr (Sum.inr (Sum.inr (Sum.inr (rows_of 5 R_a_rest)))))), (a_left, Sum.inl (k_a_left, 5, Sum.inr (Sum.inr (Sum.inr (Sum.inr (rows_of 5 R_a_left))))))] ++ va_pl LP fp) H ∧ va_D A ([(o, Sum.inr (0, [Value.ref a_chosen, Value.int v_bestCost, Value.ref a_felt, Value.ref a_own, Value.ref a_share, Value.ref a_rest, Value.ref a_left, Value.ref a_tried, Value.int v_signs, Value.int v_lines, Value.int v_most])), (a_felt, Sum.inl (k_a_felt, 21, Sum.inl f_a_felt)), (a_share, Sum.inl (k_a_share, 5, Sum.inr (Sum.inr (Sum.inr (Sum.inr (rows_of 5 R_a_share)))))), (a_rest, Sum.inl (k_a_rest, 5, Sum.inr (Sum.inr (Sum.inr (Sum.inr (rows_of 5 R_a_rest)))))), (a_left, Sum.inl (k_a_left, 5, Sum.inr (Sum.inr (Sum.inr (Sum.inr (rows_of 5 R_a_left))))))] ++ va_pl LP fp) ∧ va_S A s.heap H locs ∧ lv_has ls 4 [(3, Value.int v1), (2, Value.int v2), (0, Value.ref o), (1, Value.int p0)]) ?_ ⟨0, 0, rfl, (iv.m (by decide)), (iv.m (by decide)), hP, hD, hS, lv_sub hl [0, 1, 2, 3] rfl⟩
  clear hP hD hS hl
  intro nn4 H locs ls hI ih4
  obtain ⟨v1, v2, hn4, hv1, hv2, hP, hD, hS, hl⟩ := hI
  have bv1 := hv1.u
  have bv2 := hv2.u
  refine lv_iload_n hx hb dX0_firstCoin_4 rfl (lv_at hl 0 rfl) ?_
  refine lv_aload_n hx hb dX0_firstCoin_5 rfl (lv_at hl 2 rfl) ?_
  refine va_get (D := (dC, dI)) (ci := 0) (v := Value.int v_lines) (C := RX0) (T := TX0) (N := 11) hx hb hts iw_X0_firstCoin_X0 hown hK hP 0 rfl rfl 9 (by decide) (hts _ kk_X0_firstCoin_0) (fun _ h9 => h9) rfl dX0_firstCoin_6 ?_
  have bv_lines := hv_lines.u
  refine lv_icmp_ge (tgt := 53) hx hb dX0_firstCoin_9 (by decide) (fun c3 => ?_) (fun c3 => ?_)
  · have c39 := i32_le c3 rfl rfl
    refine lv_iload_n hx hb dX0_firstCoin_53 rfl (lv_at hl 1 rfl) ?_
    have hP9 := hP.part (cx := [(o, Sum.inr (0, [Value.ref a_chosen, Value.int v_bestCost, Value.ref a_felt, Value.ref a_own, Value.ref a_share, Value.ref a_rest, Value.ref a_left, Value.ref a_tried, Value.int v_signs, Value.int v_lines, Value.int v_most])), (a_felt, Sum.inl (k_a_felt, 21, Sum.inl f_a_felt)), (a_share, Sum.inl (k_a_share, 5, Sum.inr (Sum.inr (Sum.inr (Sum.inr (rows_of 5 R_a_share)))))), (a_rest, Sum.inl (k_a_rest, 5, Sum.inr (Sum.inr (Sum.inr (Sum.inr (rows_of 5 R_a_rest)))))), (a_left, Sum.inl (k_a_left, 5, Sum.inr (Sum.inr (Sum.inr (Sum.inr (rows_of 5 R_a_left))))))]) [0, 1, 2, 3, 4] rfl
    have hD9 := hD.part (cx := [(o, Sum.inr (0, [Value.ref a_chosen, Value.int v_bestCost, Value.ref a_felt, Value.ref a_own, Value.ref a_share, Value.ref a_rest, Value.ref a_left, Value.ref a_tried, Value.int v_signs, Value.int v_lines, Value.int v_most])), (a_felt, Sum.inl (k_a_felt, 21, Sum.inl f_a_felt)), (a_share, Sum.inl (k_a_share, 5, Sum.inr (Sum.inr (Sum.inr (Sum.inr (rows_of 5 R_a_share)))))), (a_rest, Sum.inl (k_a_rest, 5, Sum.inr (Sum.inr (Sum.inr (Sum.inr (rows_of 5 R_a_rest)))))), (a_left, Sum.inl (k_a_left, 5, Sum.inr (Sum.inr (Sum.inr (Sum.inr (rows_of 5 R_a_left))))))]) [0, 1, 2, 3, 4] (by decide) rfl
    exact W.iret (v := v2) hx hb hr (fun t ht hW => ⟨⟨v2, v2, rfl, rfl, hv2, by rw [ht]; exact hP9, hD9⟩, hS.F ht⟩) hS.2.2 dX0_firstCoin_54
  · have c39 := i32_nle c3 rfl rfl
    refine tl_loop (I := fun nn H locs ls => ∃ (v4 : Int32), nn = (21 - v4.toInt).toNat ∧ iv v4 0 21 ∧  va_P (dC, dI) vwCl ([(o, Sum.inr (0, [Value.ref a_chosen, Value.int v_bestCost, Value.ref a_felt, Value.ref a_own, Value.ref a_share, Value.ref a_rest, Value.ref a_left, Value.ref a_tried, Value.int v_signs, Value.int v_lines, Value.int v_most])), (a_felt, Sum.inl (k_a_felt, 21, Sum.inl f_a_felt)), (a_share, Sum.inl (k_a_share, 5, Sum.inr (Sum.inr (Sum.inr (Sum.inr (rows_of 5 R_a_share)))))), (a_rest, Sum.inl (k_a_rest, 5, Sum.inr (Sum.inr (Sum.inr (Sum.inr (rows_of 5 R_a_rest)))))), (a_left, Sum.inl (k_a_left, 5, Sum.inr (Sum.inr (Sum.inr (Sum.inr (rows_of 5 R_a_left))))))] ++ va_pl LP fp) H ∧ va_D A ([(o, Sum.inr (0, [Value.ref a_chosen, Value.int v_bestCost, Value.ref a_felt, Value.ref a_own, Value.ref a_share, Value.ref a_rest, Value.ref a_left, Value.ref a_tried, Value.int v_signs, Value.int v_lines, Value.int v_most])), (a_felt, Sum.inl (k_a_felt, 21, Sum.inl f_a_felt)), (a_share, Sum.inl (k_a_share, 5, Sum.inr (Sum.inr (Sum.inr (Sum.inr (rows_of 5 R_a_share)))))), (a_rest, Sum.inl (k_a_rest, 5, Sum.inr (Sum.inr (Sum.inr (Sum.inr (rows_of 5 R_a_rest)))))), (a_left, Sum.inl (k_a_left, 5, Sum.inr (Sum.inr (Sum.inr (Sum.inr (rows_of 5 R_a_left))))))] ++ va_pl LP fp) ∧ va_S A s.heap H locs ∧ lv_has ls 4 [(3, Value.int v1), (2, Value.int v4), (0, Value.ref o), (1, Value.int p0)]) ?_ ⟨v2, rfl, hv2, hP, hD, hS, lv_sub hl [0, 1, 2, 3] rfl⟩
    clear hP hD hS hl
    intro nn12 H locs ls hI ih12
    obtain ⟨v4, hn12, hv4, hP, hD, hS, hl⟩ := hI
    have bv4 := hv4.u
    refine lv_iload_n hx hb dX0_firstCoin_12 rfl (lv_at hl 1 rfl) ?_
    refine lv_aload_n hx hb dX0_firstCoin_13 rfl (lv_at hl 2 rfl) ?_
    refine va_get (D := (dC, dI)) (ci := 0) (v := Value.int v_most) (C := RX0) (T := TX0) (N := 11) hx hb hts iw_X0_firstCoin_X0 hown hK hP 0 rfl rfl 10 (by decide) (hts _ kk_X0_firstCoin_1) (fun _ h9 => h9) rfl dX0_firstCoin_14 ?_
    have bv_most := hv_most.u
    refine lv_icmp_gt (tgt := 47) hx hb dX0_firstCoin_17 (by decide) (fun c5 => ?_) (fun c5 => ?_)
    · have c59 := i32_lt c5 rfl rfl
      obtain ⟨x6, ex6⟩ : ∃ z : Int32, v1 + Int32.ofInt 1 = z := ⟨_, rfl⟩
      have tx6 := i32_inc ex6 rfl (by decide) (by omega) (by omega)
      refine lv_iinc (v := x6) (lv' := [(3, Value.int x6), (2, Value.int v4), (0, Value.ref o), (1, Value.int p0)]) hx hb dX0_firstCoin_47 hl (k := 0) rfl ex6 (by decide) rfl (fun ls hl => ?_)
      refine lv_goto (tgt := 4) hx hb dX0_firstCoin_50 (by decide) ?_
      exact ih4 _ _ _ _ (ms_up hn4 tx6 (by decide) (by omega)) ⟨x6, v4, rfl, (iv.m (by omega)), (iv.m (by omega)), hP, hD, hS, lv_sub hl [0, 1, 2, 3] rfl⟩
    · have c59 := i32_nlt c5 rfl rfl
      refine lv_aload_n hx hb dX0_firstCoin_20 rfl (lv_at hl 2 rfl) ?_
      refine va_get (D := (dC, dI)) (ci := 0) (v := Value.ref a_share) (C := RX0) (T := TX0) (N := 11) hx hb hts iw_X0_firstCoin_X0 hown hK hP 0 rfl rfl 4 (by decide) (hts _ kk_X0_firstCoin_2) (fun _ h9 => h9) rfl dX0_firstCoin_21 ?_
      refine lv_iload_n hx hb dX0_firstCoin_24 rfl (lv_at hl 0 rfl) ?_
      have hinrw7 : vp_in v1 5 := (vq_in v1 5 (by omega))
      refine va_aldA hx hb hK hP 2 1 rfl rfl hinrw7 dX0_firstCoin_25 ?_
      obtain ⟨rw7, erw7⟩ : ∃ z : Nat, z = R_a_share (Int32.toNatClampNeg v1) := ⟨_, rfl⟩
      refine px_v ((row_sel hinrw7).trans (congrArg Value.ref erw7.symm)) ?_
      have mrw7 : rw7 ∈ LP ∧ sh rw7 = 4 := by rw [erw7]; exact hRR_a_share _ (vin_lt hinrw7)
      refine lv_iload_n hx hb dX0_firstCoin_26 rfl (lv_at hl 3 rfl) ?_
      have bp0 := hp0.u
      obtain ⟨gk8, hgk8⟩ := pok_4 (hfp) mrw7
      obtain ⟨kk9, hkk9⟩ := va_pl_get (X := [(o, Sum.inr (0, [Value.ref a_chosen, Value.int v_bestCost, Value.ref a_felt, Value.ref a_own, Value.ref a_share, Value.ref a_rest, Value.ref a_left, Value.ref a_tried, Value.int v_signs, Value.int v_lines, Value.int v_most])), (a_felt, Sum.inl (k_a_felt, 21, Sum.inl f_a_felt)), (a_share, Sum.inl (k_a_share, 5, Sum.inr (Sum.inr (Sum.inr (Sum.inr (rows_of 5 R_a_share)))))), (a_rest, Sum.inl (k_a_rest, 5, Sum.inr (Sum.inr (Sum.inr (Sum.inr (rows_of 5 R_a_rest)))))), (a_left, Sum.inl (k_a_left, 5, Sum.inr (Sum.inr (Sum.inr (Sum.inr (rows_of 5 R_a_left))))))]) (f := fp) mrw7.1
      have qkk9 := hkk9
      rw [hgk8] at qkk9
      refine va_iald hx hb hK hP kk9 4 qkk9 rfl (vq_in p0 4 (by omega)) dX0_firstCoin_27 ?_
      refine lv_topi (fun x10 ex10 => ?_)
      have bx10 := i32_rng x10
      refine lv_if_lt (tgt := 47) hx hb dX0_firstCoin_28 (by decide) (fun c11 => ?_) (fun c11 => ?_)
      · have c119 := i32_lt c11 rfl (show (0 : Int32).toInt = 0 by decide)
        obtain ⟨x12, ex12⟩ : ∃ z : Int32, v1 + Int32.ofInt 1 = z := ⟨_, rfl⟩
        have tx12 := i32_inc ex12 rfl (by decide) (by omega) (by omega)
        refine lv_iinc (v := x12) (lv' := [(3, Value.int x12), (2, Value.int v4), (0, Value.ref o), (1, Value.int p0)]) hx hb dX0_firstCoin_47 hl (k := 0) rfl ex12 (by decide) rfl (fun ls hl => ?_)
        refine lv_goto (tgt := 4) hx hb dX0_firstCoin_50 (by decide) ?_
        exact ih4 _ _ _ _ (ms_up hn4 tx12 (by decide) (by omega)) ⟨x12, v4, rfl, (iv.m (by omega)), (iv.m (by omega)), hP, hD, hS, lv_sub hl [0, 1, 2, 3] rfl⟩
      · have c119 := i32_nlt c11 rfl (show (0 : Int32).toInt = 0 by decide)
        refine lv_aload_n hx hb dX0_firstCoin_31 rfl (lv_at hl 2 rfl) ?_
        refine lv_iload_n hx hb dX0_firstCoin_32 rfl (lv_at hl 0 rfl) ?_
        refine lv_iload_n hx hb dX0_firstCoin_33 rfl (lv_at hl 3 rfl) ?_
        refine lv_iload_n hx hb dX0_firstCoin_34 rfl (lv_at hl 1 rfl) ?_
        have hPc := hP.part (cx := [(o, Sum.inr (0, [Value.ref a_chosen, Value.int v_bestCost, Value.ref a_felt, Value.ref a_own, Value.ref a_share, Value.ref a_rest, Value.ref a_left, Value.ref a_tried, Value.int v_signs, Value.int v_lines, Value.int v_most])), (a_felt, Sum.inl (k_a_felt, 21, Sum.inl f_a_felt)), (a_share, Sum.inl (k_a_share, 5, Sum.inr (Sum.inr (Sum.inr (Sum.inr (rows_of 5 R_a_share)))))), (a_rest, Sum.inl (k_a_rest, 5, Sum.inr (Sum.inr (Sum.inr (Sum.inr (rows_of 5 R_a_rest)))))), (a_left, Sum.inl (k_a_left, 5, Sum.inr (Sum.inr (Sum.inr (Sum.inr (rows_of 5 R_a_left))))))]) [0, 1, 2, 3, 4] rfl
        have hDc := hD.part (cx := [(o, Sum.inr (0, [Value.ref a_chosen, Value.int v_bestCost, Value.ref a_felt, Value.ref a_own, Value.ref a_share, Value.ref a_rest, Value.ref a_left, Value.ref a_tried, Value.int v_signs, Value.int v_lines, Value.int v_most])), (a_felt, Sum.inl (k_a_felt, 21, Sum.inl f_a_felt)), (a_share, Sum.inl (k_a_share, 5, Sum.inr (Sum.inr (Sum.inr (Sum.inr (rows_of 5 R_a_share)))))), (a_rest, Sum.inl (k_a_rest, 5, Sum.inr (Sum.inr (Sum.inr (Sum.inr (rows_of 5 R_a_rest)))))), (a_left, Sum.inl (k_a_left, 5, Sum.inr (Sum.inr (Sum.inr (Sum.inr (rows_of 5 R_a_left))))))]) [0, 1, 2, 3, 4] (by decide) rfl
        have hKc := hK.sub (tys' := [(k_a_felt, FieldType.int), (k_a_share, (FieldType.array FieldType.int)), (k_a_rest, (FieldType.array FieldType.int)), (k_a_left, (FieldType.array FieldType.int)), (cI, FieldType.int), (cJ, FieldType.long)]) [0, 1, 2, 3, 4, 5] rfl
        have hFc := va_freeP (cx := [(o, Sum.inr (0, [Value.ref a_chosen, Value.int v_bestCost, Value.ref a_felt, Value.ref a_own, Value.ref a_share, Value.ref a_rest, Value.ref a_left, Value.ref a_tried, Value.int v_signs, Value.int v_lines, Value.int v_most])), (a_felt, Sum.inl (k_a_felt, 21, Sum.inl f_a_felt)), (a_share, Sum.inl (k_a_share, 5, Sum.inr (Sum.inr (Sum.inr (Sum.inr (rows_of 5 R_a_share)))))), (a_rest, Sum.inl (k_a_rest, 5, Sum.inr (Sum.inr (Sum.inr (Sum.inr (rows_of 5 R_a_rest)))))), (a_left, Sum.inl (k_a_left, 5, Sum.inr (Sum.inr (Sum.inr (Sum.inr (rows_of 5 R_a_left))))))]) hD hS hA [0, 1, 2, 3, 4] rfl
        refine va_calli (va_runV (As := [Value.int v1, Value.int p0, Value.int v4]) (rest := []) ⟨hx, hb, hml, hown, hts⟩ (ct_X0_isShort l dC dI o v1 p0 v4 a_chosen v_bestCost a_felt a_own a_share a_rest a_left a_tried v_signs v_lines v_most k_a_felt f_a_felt k_a_share R_a_share k_a_rest R_a_rest k_a_left R_a_left LP sh fp cI cJ CT (iv.m (by omega)) hp0 (iv.m (by omega)) hfp hRR_a_share hRR_a_rest hRR_a_left H.size) (cwV 3 hts gX0_firstCoin_X0_isShort rfl rfl rfl ⟨rfl, cn_X0.1, cn_X0.2, ds_6⟩ ⟨Nat.le_of_ble_eq_true rfl, Nat.le_of_ble_eq_true rfl⟩) ⟨fun a U g mk q => by obtain ⟨q0, q1, qP, qK, qD⟩ := q; exact ⟨q0, q1, qP, va_K.moved (u := U) (U := U.calling g mk a) (Vm.Alike.refl U.vm) qK, qD⟩, va_recv hKc hPc (ci := 0) (q0 := 0) rfl rfl, fun U hU hW => ⟨rfl, by rw [hU], by rw [hU]; exact hPc, va_K.moved hW.alike hKc, hDc.weaken (fun _ _ _ _ => trivial)⟩⟩ rfl rfl hl.1 rfl (lv_room (Nat.le_of_ble_eq_true rfl)) dX0_firstCoin_35 ⟨Nat.le_of_ble_eq_true rfl, Nat.le_of_ble_eq_true rfl⟩) hS (fun q _ h => hFc q h) hFc (fun r13 u t H1 locs ht hvm hw hB hz1 hk1 hS => ?_)
        have hw : r13 = u := hw.symm
        subst hw
        obtain ⟨w14, hP1, hD1⟩ := hB
        rw [ht] at hP1
        obtain ⟨hP, hD⟩ := va_joinP (X := [(o, Sum.inr (0, [Value.ref a_chosen, Value.int v_bestCost, Value.ref a_felt, Value.ref a_own, Value.ref a_share, Value.ref a_rest, Value.ref a_left, Value.ref a_tried, Value.int v_signs, Value.int v_lines, Value.int v_most])), (a_felt, Sum.inl (k_a_felt, 21, Sum.inl f_a_felt)), (a_share, Sum.inl (k_a_share, 5, Sum.inr (Sum.inr (Sum.inr (Sum.inr (rows_of 5 R_a_share)))))), (a_rest, Sum.inl (k_a_rest, 5, Sum.inr (Sum.inr (Sum.inr (Sum.inr (rows_of 5 R_a_rest)))))), (a_left, Sum.inl (k_a_left, 5, Sum.inr (Sum.inr (Sum.inr (Sum.inr (rows_of 5 R_a_left))))))]) (cx := [(o, Sum.inr (0, [Value.ref a_chosen, Value.int v_bestCost, Value.ref a_felt, Value.ref a_own, Value.ref a_share, Value.ref a_rest, Value.ref a_left, Value.ref a_tried, Value.int v_signs, Value.int v_lines, Value.int v_most])), (a_felt, Sum.inl (k_a_felt, 21, Sum.inl f_a_felt)), (a_share, Sum.inl (k_a_share, 5, Sum.inr (Sum.inr (Sum.inr (Sum.inr (rows_of 5 R_a_share)))))), (a_rest, Sum.inl (k_a_rest, 5, Sum.inr (Sum.inr (Sum.inr (Sum.inr (rows_of 5 R_a_rest)))))), (a_left, Sum.inl (k_a_left, 5, Sum.inr (Sum.inr (Sum.inr (Sum.inr (rows_of 5 R_a_left))))))]) (wr := []) (rx := [(o, Sum.inr (0, [Value.ref a_chosen, Value.int v_bestCost, Value.ref a_felt, Value.ref a_own, Value.ref a_share, Value.ref a_rest, Value.ref a_left, Value.ref a_tried, Value.int v_signs, Value.int v_lines, Value.int v_most])), (a_felt, Sum.inl (k_a_felt, 21, Sum.inl f_a_felt)), (a_share, Sum.inl (k_a_share, 5, Sum.inr (Sum.inr (Sum.inr (Sum.inr (rows_of 5 R_a_share)))))), (a_rest, Sum.inl (k_a_rest, 5, Sum.inr (Sum.inr (Sum.inr (Sum.inr (rows_of 5 R_a_rest)))))), (a_left, Sum.inl (k_a_left, 5, Sum.inr (Sum.inr (Sum.inr (Sum.inr (rows_of 5 R_a_left))))))]) hP hD [0, 1, 2, 3, 4] [] rfl rfl (by decide) (by decide) hk1 hFc hP1 hD1
        clear hPc hDc hKc hFc hP1 hD1 hk1 hz1
        generalize H1 = H at hP hS ⊢
        have hP : va_P (dC, dI) vwCl ([(o, Sum.inr (0, [Value.ref a_chosen, Value.int v_bestCost, Value.ref a_felt, Value.ref a_own, Value.ref a_share, Value.ref a_rest, Value.ref a_left, Value.ref a_tried, Value.int v_signs, Value.int v_lines, Value.int v_most])), (a_felt, Sum.inl (k_a_felt, 21, Sum.inl f_a_felt)), (a_share, Sum.inl (k_a_share, 5, Sum.inr (Sum.inr (Sum.inr (Sum.inr (rows_of 5 R_a_share)))))), (a_rest, Sum.inl (k_a_rest, 5, Sum.inr (Sum.inr (Sum.inr (Sum.inr (rows_of 5 R_a_rest)))))), (a_left, Sum.inl (k_a_left, 5, Sum.inr (Sum.inr (Sum.inr (Sum.inr (rows_of 5 R_a_left))))))] ++ va_pl LP fp) H := hP
        have hD : va_D A ([(o, Sum.inr (0, [Value.ref a_chosen, Value.int v_bestCost, Value.ref a_felt, Value.ref a_own, Value.ref a_share, Value.ref a_rest, Value.ref a_left, Value.ref a_tried, Value.int v_signs, Value.int v_lines, Value.int v_most])), (a_felt, Sum.inl (k_a_felt, 21, Sum.inl f_a_felt)), (a_share, Sum.inl (k_a_share, 5, Sum.inr (Sum.inr (Sum.inr (Sum.inr (rows_of 5 R_a_share)))))), (a_rest, Sum.inl (k_a_rest, 5, Sum.inr (Sum.inr (Sum.inr (Sum.inr (rows_of 5 R_a_rest)))))), (a_left, Sum.inl (k_a_left, 5, Sum.inr (Sum.inr (Sum.inr (Sum.inr (rows_of 5 R_a_left))))))] ++ va_pl LP fp) := hD
        refine W.widen (k := 0) (n := 0) (by decide) (by decide) ?_
        rcases w14 with hr9 | hr9
        · subst hr9
          refine lv_if_eq (tgt := 47) hx hb dX0_firstCoin_38 (by decide) (fun _ => ?_) (fun cz => absurd cz (by decide))
          obtain ⟨x15, ex15⟩ : ∃ z : Int32, v1 + Int32.ofInt 1 = z := ⟨_, rfl⟩
          have tx15 := i32_inc ex15 rfl (by decide) (by omega) (by omega)
          refine lv_iinc (v := x15) (lv' := [(3, Value.int x15), (2, Value.int v4), (0, Value.ref o), (1, Value.int p0)]) hx hb dX0_firstCoin_47 hl (k := 0) rfl ex15 (by decide) rfl (fun ls hl => ?_)
          refine lv_goto (tgt := 4) hx hb dX0_firstCoin_50 (by decide) ?_
          exact ih4 _ _ _ _ (ms_up hn4 tx15 (by decide) (by omega)) ⟨x15, v4, rfl, (iv.m (by omega)), (iv.m (by omega)), hP, hD, hS, lv_sub hl [0, 1, 2, 3] rfl⟩
        · subst hr9
          refine lv_if_eq (tgt := 47) hx hb dX0_firstCoin_38 (by decide) (fun cz => absurd cz (by decide)) (fun _ => ?_)
          obtain ⟨x16, ex16⟩ : ∃ z : Int32, v4 + Int32.ofInt 1 = z := ⟨_, rfl⟩
          have tx16 := i32_inc ex16 rfl (by decide) (by omega) (by omega)
          refine lv_iinc (v := x16) (lv' := [(2, Value.int x16), (3, Value.int v1), (0, Value.ref o), (1, Value.int p0)]) hx hb dX0_firstCoin_41 hl (k := 1) rfl ex16 (by decide) rfl (fun ls hl => ?_)
          refine lv_goto (tgt := 12) hx hb dX0_firstCoin_44 (by decide) ?_
          exact ih12 _ _ _ _ (ms_up hn12 tx16 (by decide) (by omega)) ⟨x16, rfl, (iv.m (by omega)), hP, hD, hS, lv_sub hl [1, 0, 2, 3] rfl⟩

set_option maxHeartbeats 4000000 in
set_option maxRecDepth 100000 in
theorem ct_X0_canBeCheaper (l : Launch) (dC : Nat → ClassId) (dI : Nat → Nat → Nat) (o : Nat) (p0 : Int32) (p1 : Int32) (a_chosen : Nat) (v_bestCost : Int32) (a_felt : Nat) (a_own : Nat) (a_share : Nat) (a_rest : Nat) (a_left : Nat) (a_tried : Nat) (v_signs : Int32) (v_lines : Int32) (v_most : Int32) (k_a_felt : ClassId) (f_a_felt : Nat → Int32) (k_a_own : ClassId) (f_a_own : Nat → Int32) (k_a_share : ClassId) (R_a_share : Nat → Nat) (k_a_left : ClassId) (R_a_left : Nat → Nat) (LP : List Nat) (sh : Nat → Nat) (fp : Nat → va_E) (cI : ClassId) (cJ : ClassId) (CT : Nat → Nat → Int32) (hp0 : iv p0 1 4) (hv_signs : iv v_signs 0 4) (hv_lines : iv v_lines 0 5) (hfp : pok cI cJ LP sh CT fp) (hRR_a_share : ∀ i : Nat, i < 5 → R_a_share i ∈ LP ∧ sh (R_a_share i) = 4) (hRR_a_left : ∀ i : Nat, i < 5 → R_a_left i ∈ LP ∧ sh (R_a_left i) = 5) (sz : Nat) : Met l yX0_canBeCheaper wsX0_canBeCheaper ({ frames := 0, cells := 0, slots := 0, locals := 0 }) (va_Pc [Value.ref o, Value.int p0, Value.int p1] (fun U => U.heap.size = sz ∧ va_P (dC, dI) vwCl ([(o, Sum.inr (0, [Value.ref a_chosen, Value.int v_bestCost, Value.ref a_felt, Value.ref a_own, Value.ref a_share, Value.ref a_rest, Value.ref a_left, Value.ref a_tried, Value.int v_signs, Value.int v_lines, Value.int v_most])), (a_felt, Sum.inl (k_a_felt, 21, Sum.inl f_a_felt)), (a_own, Sum.inl (k_a_own, 4, Sum.inl f_a_own)), (a_share, Sum.inl (k_a_share, 5, Sum.inr (Sum.inr (Sum.inr (Sum.inr (rows_of 5 R_a_share)))))), (a_left, Sum.inl (k_a_left, 5, Sum.inr (Sum.inr (Sum.inr (Sum.inr (rows_of 5 R_a_left))))))] ++ va_pl LP fp) U.heap ∧ va_K (dC, dI) vwCl [(k_a_felt, FieldType.int), (k_a_own, FieldType.int), (k_a_share, (FieldType.array FieldType.int)), (k_a_left, (FieldType.array FieldType.int)), (cI, FieldType.int), (cJ, FieldType.long)] U ∧ va_D (fun _ => True) ([(o, Sum.inr (0, [Value.ref a_chosen, Value.int v_bestCost, Value.ref a_felt, Value.ref a_own, Value.ref a_share, Value.ref a_rest, Value.ref a_left, Value.ref a_tried, Value.int v_signs, Value.int v_lines, Value.int v_most])), (a_felt, Sum.inl (k_a_felt, 21, Sum.inl f_a_felt)), (a_own, Sum.inl (k_a_own, 4, Sum.inl f_a_own)), (a_share, Sum.inl (k_a_share, 5, Sum.inr (Sum.inr (Sum.inr (Sum.inr (rows_of 5 R_a_share)))))), (a_left, Sum.inl (k_a_left, 5, Sum.inr (Sum.inr (Sum.inr (Sum.inr (rows_of 5 R_a_left))))))] ++ va_pl LP fp))) (va_Qi (fun (r u : Int32) => u = r) (fun (r : Int32) t => ((r = 0) ∨ (r = 1)) ∧ va_P (dC, dI) vwCl ([(o, Sum.inr (0, [Value.ref a_chosen, Value.int v_bestCost, Value.ref a_felt, Value.ref a_own, Value.ref a_share, Value.ref a_rest, Value.ref a_left, Value.ref a_tried, Value.int v_signs, Value.int v_lines, Value.int v_most])), (a_felt, Sum.inl (k_a_felt, 21, Sum.inl f_a_felt)), (a_own, Sum.inl (k_a_own, 4, Sum.inl f_a_own)), (a_share, Sum.inl (k_a_share, 5, Sum.inr (Sum.inr (Sum.inr (Sum.inr (rows_of 5 R_a_share)))))), (a_left, Sum.inl (k_a_left, 5, Sum.inr (Sum.inr (Sum.inr (Sum.inr (rows_of 5 R_a_left))))))] ++ va_pl LP fp) t.heap ∧ va_D (va_A ([(o, Sum.inr (0, [Value.ref a_chosen, Value.int v_bestCost, Value.ref a_felt, Value.ref a_own, Value.ref a_share, Value.ref a_rest, Value.ref a_left, Value.ref a_tried, Value.int v_signs, Value.int v_lines, Value.int v_most])), (a_felt, Sum.inl (k_a_felt, 21, Sum.inl f_a_felt)), (a_own, Sum.inl (k_a_own, 4, Sum.inl f_a_own)), (a_share, Sum.inl (k_a_share, 5, Sum.inr (Sum.inr (Sum.inr (Sum.inr (rows_of 5 R_a_share)))))), (a_left, Sum.inl (k_a_left, 5, Sum.inr (Sum.inr (Sum.inr (Sum.inr (rows_of 5 R_a_left))))))] ++ va_pl LP fp) sz) ([(o, Sum.inr (0, [Value.ref a_chosen, Value.int v_bestCost, Value.ref a_felt, Value.ref a_own, Value.ref a_share, Value.ref a_rest, Value.ref a_left, Value.ref a_tried, Value.int v_signs, Value.int v_lines, Value.int v_most])), (a_felt, Sum.inl (k_a_felt, 21, Sum.inl f_a_felt)), (a_own, Sum.inl (k_a_own, 4, Sum.inl f_a_own)), (a_share, Sum.inl (k_a_share, 5, Sum.inr (Sum.inr (Sum.inr (Sum.inr (rows_of 5 R_a_share)))))), (a_left, Sum.inl (k_a_left, 5, Sum.inr (Sum.inr (Sum.inr (Sum.inr (rows_of 5 R_a_left))))))] ++ va_pl LP fp)) (va_A ([(o, Sum.inr (0, [Value.ref a_chosen, Value.int v_bestCost, Value.ref a_felt, Value.ref a_own, Value.ref a_share, Value.ref a_rest, Value.ref a_left, Value.ref a_tried, Value.int v_signs, Value.int v_lines, Value.int v_most])), (a_felt, Sum.inl (k_a_felt, 21, Sum.inl f_a_felt)), (a_own, Sum.inl (k_a_own, 4, Sum.inl f_a_own)), (a_share, Sum.inl (k_a_share, 5, Sum.inr (Sum.inr (Sum.inr (Sum.inr (rows_of 5 R_a_share)))))), (a_left, Sum.inl (k_a_left, 5, Sum.inr (Sum.inr (Sum.inr (Sum.inr (rows_of 5 R_a_left))))))] ++ va_pl LP fp) sz)) 0 0 (va_A ([(o, Sum.inr (0, [Value.ref a_chosen, Value.int v_bestCost, Value.ref a_felt, Value.ref a_own, Value.ref a_share, Value.ref a_rest, Value.ref a_left, Value.ref a_tried, Value.int v_signs, Value.int v_lines, Value.int v_most])), (a_felt, Sum.inl (k_a_felt, 21, Sum.inl f_a_felt)), (a_own, Sum.inl (k_a_own, 4, Sum.inl f_a_own)), (a_share, Sum.inl (k_a_share, 5, Sum.inr (Sum.inr (Sum.inr (Sum.inr (rows_of 5 R_a_share)))))), (a_left, Sum.inl (k_a_left, 5, Sum.inr (Sum.inr (Sum.inr (Sum.inr (rows_of 5 R_a_left))))))] ++ va_pl LP fp) sz) := by
  refine Met.ofW (cc := cX0_canBeCheaper) (maxL := 9) (ret := (some .boolean)) pn_X0 rfl ?_
  intro p e s m args below meth c s₁ B hml hv
  obtain ⟨rfl, hsz, hP, hK, hD0⟩ := hv
  have hx := B.exec
  have hb := B.bytes
  have hr := B.returns
  have hts := atoms_spec (ws := wsX0_canBeCheaper) B.pre
  have hown : s.vm.findClass RX0 = some m.cls := findClass_of_methodNamed B.named
  have hlocks := B.notSynchronized
  subst hsz
  have hD := hD0.self (sz := s.heap.size)
  generalize hAe : va_A ([(o, Sum.inr (0, [Value.ref a_chosen, Value.int v_bestCost, Value.ref a_felt, Value.ref a_own, Value.ref a_share, Value.ref a_rest, Value.ref a_left, Value.ref a_tried, Value.int v_signs, Value.int v_lines, Value.int v_most])), (a_felt, Sum.inl (k_a_felt, 21, Sum.inl f_a_felt)), (a_own, Sum.inl (k_a_own, 4, Sum.inl f_a_own)), (a_share, Sum.inl (k_a_share, 5, Sum.inr (Sum.inr (Sum.inr (Sum.inr (rows_of 5 R_a_share)))))), (a_left, Sum.inl (k_a_left, 5, Sum.inr (Sum.inr (Sum.inr (Sum.inr (rows_of 5 R_a_left))))))] ++ va_pl LP fp) s.heap.size = A at hD ⊢
  have hA : ∀ q : Nat, s.heap.size ≤ q → A q := fun q h => by rw [← hAe]; exact Or.inr h
  have hS : va_S A s.heap s.heap [] := va_S.rf
  have hP : va_P (dC, dI) vwCl ([(o, Sum.inr (0, [Value.ref a_chosen, Value.int v_bestCost, Value.ref a_felt, Value.ref a_own, Value.ref a_share, Value.ref a_rest, Value.ref a_left, Value.ref a_tried, Value.int v_signs, Value.int v_lines, Value.int v_most])), (a_felt, Sum.inl (k_a_felt, 21, Sum.inl f_a_felt)), (a_own, Sum.inl (k_a_own, 4, Sum.inl f_a_own)), (a_share, Sum.inl (k_a_share, 5, Sum.inr (Sum.inr (Sum.inr (Sum.inr (rows_of 5 R_a_share)))))), (a_left, Sum.inl (k_a_left, 5, Sum.inr (Sum.inr (Sum.inr (Sum.inr (rows_of 5 R_a_left))))))] ++ va_pl LP fp) s.heap := hP
  have hl := lv_entry ([Value.ref o, Value.int p0, Value.int p1]) (n := 9) (Nat.le_of_ble_eq_true rfl)
  rw [lg_entry_eq]
  generalize (lg_sl ([Value.ref o, Value.int p0, Value.int p1]) ++ List.replicate (9 - (lg_sl ([Value.ref o, Value.int p0, Value.int p1])).length) Slot.unset).toArray = ls at hl ⊢
  have hl : lv_has ls 9 [(0, Value.ref o), (1, Value.int p0), (2, Value.int p1)] := hl
  refine lv_aload_n hx hb dX0_canBeCheaper_0 rfl (lv_at hl 0 rfl) ?_
  refine va_get (D := (dC, dI)) (ci := 0) (v := Value.int v_bestCost) (C := RX0) (T := TX0) (N := 11) hx hb hts iw_X0_canBeCheaper_X0 hown hK hP 0 rfl rfl 1 (by decide) (hts _ kk_X0_canBeCheaper_0) (fun _ h9 => h9) rfl dX0_canBeCheaper_1 ?_
  refine lv_i2l (v := (v_bestCost).toInt64) hx hb dX0_canBeCheaper_4 rfl ?_
  refine lv_iload_n hx hb dX0_canBeCheaper_5 rfl (lv_at hl 2 rfl) ?_
  refine lv_i2l (v := (p1).toInt64) hx hb dX0_canBeCheaper_6 rfl ?_
  refine lv_lsub hx hb dX0_canBeCheaper_7 ?_
  refine lv_topl (fun y1 ey1 => ?_)
  have hy1 : jv y1 (-4294967295) 4294967295 := jv.sub ey1 (jv.i (show iv v_bestCost (-2147483648) 2147483647 from i32_rng v_bestCost)) (jv.i (show iv p1 (-2147483648) 2147483647 from i32_rng p1)) (by decide) (by decide) (by decide) (by decide)
  refine lv_lstore_n (lv' := [(3, Value.long y1), (0, Value.ref o), (1, Value.int p0), (2, Value.int p1)]) hx hb dX0_canBeCheaper_8 rfl hl (by decide) rfl (fun ls hl => ?_)
  refine lv_iconst (v := 0) hx hb dX0_canBeCheaper_9 (by decide) ?_
  refine lv_istore (lv' := [(5, Value.int 0), (3, Value.long y1), (0, Value.ref o), (1, Value.int p0), (2, Value.int p1)]) hx hb dX0_canBeCheaper_10 hl (by decide) rfl (fun ls hl => ?_)
  refine tl_loop (I := fun nn H locs ls => ∃ (v2 : Int32), nn = (5 - v2.toInt).toNat ∧ iv v2 0 5 ∧  va_P (dC, dI) vwCl ([(o, Sum.inr (0, [Value.ref a_chosen, Value.int v_bestCost, Value.ref a_felt, Value.ref a_own, Value.ref a_share, Value.ref a_rest, Value.ref a_left, Value.ref a_tried, Value.int v_signs, Value.int v_lines, Value.int v_most])), (a_felt, Sum.inl (k_a_felt, 21, Sum.inl f_a_felt)), (a_own, Sum.inl (k_a_own, 4, Sum.inl f_a_own)), (a_share, Sum.inl (k_a_share, 5, Sum.inr (Sum.inr (Sum.inr (Sum.inr (rows_of 5 R_a_share)))))), (a_left, Sum.inl (k_a_left, 5, Sum.inr (Sum.inr (Sum.inr (Sum.inr (rows_of 5 R_a_left))))))] ++ va_pl LP fp) H ∧ va_D A ([(o, Sum.inr (0, [Value.ref a_chosen, Value.int v_bestCost, Value.ref a_felt, Value.ref a_own, Value.ref a_share, Value.ref a_rest, Value.ref a_left, Value.ref a_tried, Value.int v_signs, Value.int v_lines, Value.int v_most])), (a_felt, Sum.inl (k_a_felt, 21, Sum.inl f_a_felt)), (a_own, Sum.inl (k_a_own, 4, Sum.inl f_a_own)), (a_share, Sum.inl (k_a_share, 5, Sum.inr (Sum.inr (Sum.inr (Sum.inr (rows_of 5 R_a_share)))))), (a_left, Sum.inl (k_a_left, 5, Sum.inr (Sum.inr (Sum.inr (Sum.inr (rows_of 5 R_a_left))))))] ++ va_pl LP fp) ∧ va_S A s.heap H locs ∧ lv_has ls 9 [(5, Value.int v2), (3, Value.long y1), (0, Value.ref o), (1, Value.int p0), (2, Value.int p1)]) ?_ ⟨0, rfl, (iv.m (by decide)), hP, hD, hS, lv_sub hl [0, 1, 2, 3, 4] rfl⟩
  clear hP hD hS hl
  intro nn12 H locs ls hI ih12
  obtain ⟨v2, hn12, hv2, hP, hD, hS, hl⟩ := hI
  have bv2 := hv2.u
  refine lv_iload hx hb dX0_canBeCheaper_12 (lv_at hl 0 rfl) ?_
  refine lv_aload_n hx hb dX0_canBeCheaper_14 rfl (lv_at hl 2 rfl) ?_
  refine va_get (D := (dC, dI)) (ci := 0) (v := Value.int v_lines) (C := RX0) (T := TX0) (N := 11) hx hb hts iw_X0_canBeCheaper_X0 hown hK hP 0 rfl rfl 9 (by decide) (hts _ kk_X0_canBeCheaper_1) (fun _ h9 => h9) rfl dX0_canBeCheaper_15 ?_
  have bv_lines := hv_lines.u
  refine lv_icmp_ge (tgt := 148) hx hb dX0_canBeCheaper_18 (by decide) (fun c3 => ?_) (fun c3 => ?_)
  · have c39 := i32_le c3 rfl rfl
    refine lv_iconst (v := 1) hx hb dX0_canBeCheaper_148 (by decide) ?_
    have hP9 := hP.part (cx := [(o, Sum.inr (0, [Value.ref a_chosen, Value.int v_bestCost, Value.ref a_felt, Value.ref a_own, Value.ref a_share, Value.ref a_rest, Value.ref a_left, Value.ref a_tried, Value.int v_signs, Value.int v_lines, Value.int v_most])), (a_felt, Sum.inl (k_a_felt, 21, Sum.inl f_a_felt)), (a_own, Sum.inl (k_a_own, 4, Sum.inl f_a_own)), (a_share, Sum.inl (k_a_share, 5, Sum.inr (Sum.inr (Sum.inr (Sum.inr (rows_of 5 R_a_share)))))), (a_left, Sum.inl (k_a_left, 5, Sum.inr (Sum.inr (Sum.inr (Sum.inr (rows_of 5 R_a_left))))))]) [0, 1, 2, 3, 4] rfl
    have hD9 := hD.part (cx := [(o, Sum.inr (0, [Value.ref a_chosen, Value.int v_bestCost, Value.ref a_felt, Value.ref a_own, Value.ref a_share, Value.ref a_rest, Value.ref a_left, Value.ref a_tried, Value.int v_signs, Value.int v_lines, Value.int v_most])), (a_felt, Sum.inl (k_a_felt, 21, Sum.inl f_a_felt)), (a_own, Sum.inl (k_a_own, 4, Sum.inl f_a_own)), (a_share, Sum.inl (k_a_share, 5, Sum.inr (Sum.inr (Sum.inr (Sum.inr (rows_of 5 R_a_share)))))), (a_left, Sum.inl (k_a_left, 5, Sum.inr (Sum.inr (Sum.inr (Sum.inr (rows_of 5 R_a_left))))))]) [0, 1, 2, 3, 4] (by decide) rfl
    exact W.zret (v := 1) hx hb hr rfl (fun t ht hW => ⟨⟨1, 1, rfl, rfl, (Or.inr (rfl)), by rw [ht]; exact hP9, hD9⟩, hS.F ht⟩) hS.2.2 dX0_canBeCheaper_149
  · have c39 := i32_nle c3 rfl rfl
    refine lv_iconst (v := 0) hx hb dX0_canBeCheaper_21 (by decide) ?_
    refine lv_istore (lv' := [(6, Value.int 0), (5, Value.int v2), (3, Value.long y1), (0, Value.ref o), (1, Value.int p0), (2, Value.int p1)]) hx hb dX0_canBeCheaper_22 hl (by decide) rfl (fun ls hl => ?_)
    refine lv_iconst (v := 1) hx hb dX0_canBeCheaper_24 (by decide) ?_
    refine lv_istore (lv' := [(7, Value.int 1), (6, Value.int 0), (5, Value.int v2), (3, Value.long y1), (0, Value.ref o), (1, Value.int p0), (2, Value.int p1)]) hx hb dX0_canBeCheaper_25 hl (by decide) rfl (fun ls hl => ?_)
    refine lv_iload_n hx hb dX0_canBeCheaper_27 rfl (lv_at hl 5 rfl) ?_
    refine lv_istore (lv' := [(8, Value.int p0), (7, Value.int 1), (6, Value.int 0), (5, Value.int v2), (3, Value.long y1), (0, Value.ref o), (1, Value.int p0), (2, Value.int p1)]) hx hb dX0_canBeCheaper_28 hl (by decide) rfl (fun ls hl => ?_)
    refine tl_loop (I := fun nn H locs ls => ∃ (v4 : Int32) (v5 : Int32) (v6 : Int32), nn = (4 - v4.toInt).toNat ∧ iv v4 1 4 ∧  va_P (dC, dI) vwCl ([(o, Sum.inr (0, [Value.ref a_chosen, Value.int v_bestCost, Value.ref a_felt, Value.ref a_own, Value.ref a_share, Value.ref a_rest, Value.ref a_left, Value.ref a_tried, Value.int v_signs, Value.int v_lines, Value.int v_most])), (a_felt, Sum.inl (k_a_felt, 21, Sum.inl f_a_felt)), (a_own, Sum.inl (k_a_own, 4, Sum.inl f_a_own)), (a_share, Sum.inl (k_a_share, 5, Sum.inr (Sum.inr (Sum.inr (Sum.inr (rows_of 5 R_a_share)))))), (a_left, Sum.inl (k_a_left, 5, Sum.inr (Sum.inr (Sum.inr (Sum.inr (rows_of 5 R_a_left))))))] ++ va_pl LP fp) H ∧ va_D A ([(o, Sum.inr (0, [Value.ref a_chosen, Value.int v_bestCost, Value.ref a_felt, Value.ref a_own, Value.ref a_share, Value.ref a_rest, Value.ref a_left, Value.ref a_tried, Value.int v_signs, Value.int v_lines, Value.int v_most])), (a_felt, Sum.inl (k_a_felt, 21, Sum.inl f_a_felt)), (a_own, Sum.inl (k_a_own, 4, Sum.inl f_a_own)), (a_share, Sum.inl (k_a_share, 5, Sum.inr (Sum.inr (Sum.inr (Sum.inr (rows_of 5 R_a_share)))))), (a_left, Sum.inl (k_a_left, 5, Sum.inr (Sum.inr (Sum.inr (Sum.inr (rows_of 5 R_a_left))))))] ++ va_pl LP fp) ∧ va_S A s.heap H locs ∧ lv_has ls 9 [(8, Value.int v4), (7, Value.int v5), (6, Value.int v6), (5, Value.int v2), (3, Value.long y1), (0, Value.ref o), (1, Value.int p0), (2, Value.int p1)]) ?_ ⟨p0, 1, 0, rfl, hp0, hP, hD, hS, lv_sub hl [0, 1, 2, 3, 4, 5, 6, 7] rfl⟩
    clear hP hD hS hl
    intro nn30 H locs ls hI ih30
    obtain ⟨v4, v5, v6, hn30, hv4, hP, hD, hS, hl⟩ := hI
    have bv4 := hv4.u
    have bv5 := i32_rng v5
    have bv6 := i32_rng v6
    refine lv_iload hx hb dX0_canBeCheaper_30 (lv_at hl 0 rfl) ?_
    refine lv_aload_n hx hb dX0_canBeCheaper_32 rfl (lv_at hl 5 rfl) ?_
    refine va_get (D := (dC, dI)) (ci := 0) (v := Value.int v_signs) (C := RX0) (T := TX0) (N := 11) hx hb hts iw_X0_canBeCheaper_X0 hown hK hP 0 rfl rfl 8 (by decide) (hts _ kk_X0_canBeCheaper_2) (fun _ h9 => h9) rfl dX0_canBeCheaper_33 ?_
    have bv_signs := hv_signs.u
    refine lv_icmp_ge (tgt := 92) hx hb dX0_canBeCheaper_36 (by decide) (fun c7 => ?_) (fun c7 => ?_)
    · have c79 := i32_le c7 rfl rfl
      refine lv_iload hx hb dX0_canBeCheaper_92 (lv_at hl 2 rfl) ?_
      refine lv_if_le (tgt := 142) hx hb dX0_canBeCheaper_94 (by decide) (fun c8 => ?_) (fun c8 => ?_)
      · have c89 := i32_le c8 rfl (show (0 : Int32).toInt = 0 by decide)
        obtain ⟨x9, ex9⟩ : ∃ z : Int32, v2 + Int32.ofInt 1 = z := ⟨_, rfl⟩
        have tx9 := i32_inc ex9 rfl (by decide) (by omega) (by omega)
        refine lv_iinc (v := x9) (lv' := [(5, Value.int x9), (8, Value.int v4), (7, Value.int v5), (6, Value.int v6), (3, Value.long y1), (0, Value.ref o), (1, Value.int p0), (2, Value.int p1)]) hx hb dX0_canBeCheaper_142 hl (k := 3) rfl ex9 (by decide) rfl (fun ls hl => ?_)
        refine lv_goto (tgt := 12) hx hb dX0_canBeCheaper_145 (by decide) ?_
        exact ih12 _ _ _ _ (ms_up hn12 tx9 (by decide) (by omega)) ⟨x9, rfl, (iv.m (by omega)), hP, hD, hS, lv_sub hl [0, 4, 5, 6, 7] rfl⟩
      · have c89 := i32_nle c8 rfl (show (0 : Int32).toInt = 0 by decide)
        refine lv_aload_n hx hb dX0_canBeCheaper_97 rfl (lv_at hl 5 rfl) ?_
        refine va_get (D := (dC, dI)) (ci := 0) (v := Value.ref a_left) (C := RX0) (T := TX0) (N := 11) hx hb hts iw_X0_canBeCheaper_X0 hown hK hP 0 rfl rfl 6 (by decide) (hts _ kk_X0_canBeCheaper_5) (fun _ h9 => h9) rfl dX0_canBeCheaper_98 ?_
        refine lv_iload_n hx hb dX0_canBeCheaper_101 rfl (lv_at hl 6 rfl) ?_
        have bp0 := hp0.u
        have hinrw10 : vp_in p0 5 := (vq_in p0 5 (by omega))
        refine va_aldA hx hb hK hP 4 3 rfl rfl hinrw10 dX0_canBeCheaper_102 ?_
        obtain ⟨rw10, erw10⟩ : ∃ z : Nat, z = R_a_left (Int32.toNatClampNeg p0) := ⟨_, rfl⟩
        refine px_v ((row_sel hinrw10).trans (congrArg Value.ref erw10.symm)) ?_
        have mrw10 : rw10 ∈ LP ∧ sh rw10 = 5 := by rw [erw10]; exact hRR_a_left _ (vin_lt hinrw10)
        refine lv_iload hx hb dX0_canBeCheaper_103 (lv_at hl 3 rfl) ?_
        obtain ⟨gk11, hgk11⟩ := pok_5 (hfp) mrw10
        obtain ⟨kk12, hkk12⟩ := va_pl_get (X := [(o, Sum.inr (0, [Value.ref a_chosen, Value.int v_bestCost, Value.ref a_felt, Value.ref a_own, Value.ref a_share, Value.ref a_rest, Value.ref a_left, Value.ref a_tried, Value.int v_signs, Value.int v_lines, Value.int v_most])), (a_felt, Sum.inl (k_a_felt, 21, Sum.inl f_a_felt)), (a_own, Sum.inl (k_a_own, 4, Sum.inl f_a_own)), (a_share, Sum.inl (k_a_share, 5, Sum.inr (Sum.inr (Sum.inr (Sum.inr (rows_of 5 R_a_share)))))), (a_left, Sum.inl (k_a_left, 5, Sum.inr (Sum.inr (Sum.inr (Sum.inr (rows_of 5 R_a_left))))))]) (f := fp) mrw10.1
        have qkk12 := hkk12
        rw [hgk11] at qkk12
        refine va_iald hx hb hK hP kk12 4 qkk12 rfl (vq_in v2 5 (by omega)) dX0_canBeCheaper_105 ?_
        refine lv_topi (fun x13 ex13 => ?_)
        have bx13 := i32_rng x13
        refine lv_if_le (tgt := 142) hx hb dX0_canBeCheaper_106 (by decide) (fun c14 => ?_) (fun c14 => ?_)
        · have c149 := i32_le c14 rfl (show (0 : Int32).toInt = 0 by decide)
          obtain ⟨x15, ex15⟩ : ∃ z : Int32, v2 + Int32.ofInt 1 = z := ⟨_, rfl⟩
          have tx15 := i32_inc ex15 rfl (by decide) (by omega) (by omega)
          refine lv_iinc (v := x15) (lv' := [(5, Value.int x15), (8, Value.int v4), (7, Value.int v5), (6, Value.int v6), (3, Value.long y1), (0, Value.ref o), (1, Value.int p0), (2, Value.int p1)]) hx hb dX0_canBeCheaper_142 hl (k := 3) rfl ex15 (by decide) rfl (fun ls hl => ?_)
          refine lv_goto (tgt := 12) hx hb dX0_canBeCheaper_145 (by decide) ?_
          exact ih12 _ _ _ _ (ms_up hn12 tx15 (by decide) (by omega)) ⟨x15, rfl, (iv.m (by omega)), hP, hD, hS, lv_sub hl [0, 4, 5, 6, 7] rfl⟩
        · have c149 := i32_nle c14 rfl (show (0 : Int32).toInt = 0 by decide)
          refine lv_aload_n hx hb dX0_canBeCheaper_109 rfl (lv_at hl 5 rfl) ?_
          refine va_get (D := (dC, dI)) (ci := 0) (v := Value.ref a_left) (C := RX0) (T := TX0) (N := 11) hx hb hts iw_X0_canBeCheaper_X0 hown hK hP 0 rfl rfl 6 (by decide) (hts _ kk_X0_canBeCheaper_5) (fun _ h9 => h9) rfl dX0_canBeCheaper_110 ?_
          refine lv_iload_n hx hb dX0_canBeCheaper_113 rfl (lv_at hl 6 rfl) ?_
          have hinrw16 : vp_in p0 5 := (vq_in p0 5 (by omega))
          refine va_aldA hx hb hK hP 4 3 rfl rfl hinrw16 dX0_canBeCheaper_114 ?_
          obtain ⟨rw16, erw16⟩ : ∃ z : Nat, z = R_a_left (Int32.toNatClampNeg p0) := ⟨_, rfl⟩
          refine px_v ((row_sel hinrw16).trans (congrArg Value.ref erw16.symm)) ?_
          have mrw16 : rw16 ∈ LP ∧ sh rw16 = 5 := by rw [erw16]; exact hRR_a_left _ (vin_lt hinrw16)
          refine lv_iload hx hb dX0_canBeCheaper_115 (lv_at hl 3 rfl) ?_
          obtain ⟨gk17, hgk17⟩ := pok_5 (hfp) mrw16
          obtain ⟨kk18, hkk18⟩ := va_pl_get (X := [(o, Sum.inr (0, [Value.ref a_chosen, Value.int v_bestCost, Value.ref a_felt, Value.ref a_own, Value.ref a_share, Value.ref a_rest, Value.ref a_left, Value.ref a_tried, Value.int v_signs, Value.int v_lines, Value.int v_most])), (a_felt, Sum.inl (k_a_felt, 21, Sum.inl f_a_felt)), (a_own, Sum.inl (k_a_own, 4, Sum.inl f_a_own)), (a_share, Sum.inl (k_a_share, 5, Sum.inr (Sum.inr (Sum.inr (Sum.inr (rows_of 5 R_a_share)))))), (a_left, Sum.inl (k_a_left, 5, Sum.inr (Sum.inr (Sum.inr (Sum.inr (rows_of 5 R_a_left))))))]) (f := fp) mrw16.1
          have qkk18 := hkk18
          rw [hgk17] at qkk18
          refine va_iald hx hb hK hP kk18 4 qkk18 rfl (vq_in v2 5 (by omega)) dX0_canBeCheaper_117 ?_
          refine lv_topi (fun x19 ex19 => ?_)
          refine lv_i2l (v := (x19).toInt64) hx hb dX0_canBeCheaper_118 rfl ?_
          refine lv_iload hx hb dX0_canBeCheaper_119 (lv_at hl 1 rfl) ?_
          refine lv_i2l (v := (v5).toInt64) hx hb dX0_canBeCheaper_121 rfl ?_
          refine lv_lmul hx hb dX0_canBeCheaper_122 ?_
          refine lv_topl (fun y20 ey20 => ?_)
          have hy20 : jv y20 (-4611686018427387904) 4611686018427387904 := jv.mula (B := 2147483648) (D := 2147483648) ey20 (jv.i (show iv x19 (-2147483648) 2147483647 from i32_rng x19)) (jv.i (show iv v5 (-2147483648) 2147483647 from i32_rng v5)) (by decide) (by decide) (by decide) (by decide) (by decide) (by decide)
          refine lv_lload_n hx hb dX0_canBeCheaper_123 rfl (lv_at hl 4 rfl) ?_
          refine lv_iload hx hb dX0_canBeCheaper_124 (lv_at hl 2 rfl) ?_
          refine lv_i2l (v := (v6).toInt64) hx hb dX0_canBeCheaper_126 rfl ?_
          refine lv_lmul hx hb dX0_canBeCheaper_127 ?_
          refine lv_topl (fun y21 ey21 => ?_)
          have hy21 : jv y21 (-9223372030412324865) 9223372030412324865 := jv.mula (B := 4294967295) (D := 2147483647) ey21 hy1 (jv.i (show iv v6 1 2147483647 from (iv.m (by omega)))) (by decide) (by decide) (by decide) (by decide) (by decide) (by decide)
          refine lv_aload_n hx hb dX0_canBeCheaper_128 rfl (lv_at hl 5 rfl) ?_
          refine va_get (D := (dC, dI)) (ci := 0) (v := Value.ref a_felt) (C := RX0) (T := TX0) (N := 11) hx hb hts iw_X0_canBeCheaper_X0 hown hK hP 0 rfl rfl 2 (by decide) (hts _ kk_X0_canBeCheaper_6) (fun _ h9 => h9) rfl dX0_canBeCheaper_129 ?_
          refine lv_iconst (v := 1) hx hb dX0_canBeCheaper_132 (by decide) ?_
          refine va_iald hx hb hK hP 1 0 rfl rfl (vq_in 1 21 (by decide)) dX0_canBeCheaper_133 ?_
          refine lv_topi (fun x22 ex22 => ?_)
          refine lv_i2l (v := (x22).toInt64) hx hb dX0_canBeCheaper_134 rfl ?_
          refine lv_lmul hx hb dX0_canBeCheaper_135 ?_
          refine lv_topl (fun y23 ey23 => ?_)
          refine W.lcmp hx hb dX0_canBeCheaper_136 ?_
          refine lv_if_lt (tgt := 142) hx hb dX0_canBeCheaper_137 (by decide) (fun c24 => ?_) (fun c24 => ?_)
          · skip
            have c249 := lc_lt c24
            obtain ⟨x25, ex25⟩ : ∃ z : Int32, v2 + Int32.ofInt 1 = z := ⟨_, rfl⟩
            have tx25 := i32_inc ex25 rfl (by decide) (by omega) (by omega)
            refine lv_iinc (v := x25) (lv' := [(5, Value.int x25), (8, Value.int v4), (7, Value.int v5), (6, Value.int v6), (3, Value.long y1), (0, Value.ref o), (1, Value.int p0), (2, Value.int p1)]) hx hb dX0_canBeCheaper_142 hl (k := 3) rfl ex25 (by decide) rfl (fun ls hl => ?_)
            refine lv_goto (tgt := 12) hx hb dX0_canBeCheaper_145 (by decide) ?_
            exact ih12 _ _ _ _ (ms_up hn12 tx25 (by decide) (by omega)) ⟨x25, rfl, (iv.m (by omega)), hP, hD, hS, lv_sub hl [0, 4, 5, 6, 7] rfl⟩
          · skip
            have c249 := lc_nlt c24
            refine lv_iconst (v := 0) hx hb dX0_canBeCheaper_140 (by decide) ?_
            have hP9 := hP.part (cx := [(o, Sum.inr (0, [Value.ref a_chosen, Value.int v_bestCost, Value.ref a_felt, Value.ref a_own, Value.ref a_share, Value.ref a_rest, Value.ref a_left, Value.ref a_tried, Value.int v_signs, Value.int v_lines, Value.int v_most])), (a_felt, Sum.inl (k_a_felt, 21, Sum.inl f_a_felt)), (a_own, Sum.inl (k_a_own, 4, Sum.inl f_a_own)), (a_share, Sum.inl (k_a_share, 5, Sum.inr (Sum.inr (Sum.inr (Sum.inr (rows_of 5 R_a_share)))))), (a_left, Sum.inl (k_a_left, 5, Sum.inr (Sum.inr (Sum.inr (Sum.inr (rows_of 5 R_a_left))))))]) [0, 1, 2, 3, 4] rfl
            have hD9 := hD.part (cx := [(o, Sum.inr (0, [Value.ref a_chosen, Value.int v_bestCost, Value.ref a_felt, Value.ref a_own, Value.ref a_share, Value.ref a_rest, Value.ref a_left, Value.ref a_tried, Value.int v_signs, Value.int v_lines, Value.int v_most])), (a_felt, Sum.inl (k_a_felt, 21, Sum.inl f_a_felt)), (a_own, Sum.inl (k_a_own, 4, Sum.inl f_a_own)), (a_share, Sum.inl (k_a_share, 5, Sum.inr (Sum.inr (Sum.inr (Sum.inr (rows_of 5 R_a_share)))))), (a_left, Sum.inl (k_a_left, 5, Sum.inr (Sum.inr (Sum.inr (Sum.inr (rows_of 5 R_a_left))))))]) [0, 1, 2, 3, 4] (by decide) rfl
            exact W.zret (v := 0) hx hb hr rfl (fun t ht hW => ⟨⟨0, 0, rfl, rfl, (Or.inl rfl), by rw [ht]; exact hP9, hD9⟩, hS.F ht⟩) hS.2.2 dX0_canBeCheaper_141
    · have c79 := i32_nle c7 rfl rfl
      refine lv_aload_n hx hb dX0_canBeCheaper_39 rfl (lv_at hl 5 rfl) ?_
      refine va_get (D := (dC, dI)) (ci := 0) (v := Value.ref a_share) (C := RX0) (T := TX0) (N := 11) hx hb hts iw_X0_canBeCheaper_X0 hown hK hP 0 rfl rfl 4 (by decide) (hts _ kk_X0_canBeCheaper_3) (fun _ h9 => h9) rfl dX0_canBeCheaper_40 ?_
      refine lv_iload hx hb dX0_canBeCheaper_43 (lv_at hl 3 rfl) ?_
      have hinrw26 : vp_in v2 5 := (vq_in v2 5 (by omega))
      refine va_aldA hx hb hK hP 3 2 rfl rfl hinrw26 dX0_canBeCheaper_45 ?_
      obtain ⟨rw26, erw26⟩ : ∃ z : Nat, z = R_a_share (Int32.toNatClampNeg v2) := ⟨_, rfl⟩
      refine px_v ((row_sel hinrw26).trans (congrArg Value.ref erw26.symm)) ?_
      have mrw26 : rw26 ∈ LP ∧ sh rw26 = 4 := by rw [erw26]; exact hRR_a_share _ (vin_lt hinrw26)
      refine lv_iload hx hb dX0_canBeCheaper_46 (lv_at hl 0 rfl) ?_
      obtain ⟨gk27, hgk27⟩ := pok_4 (hfp) mrw26
      obtain ⟨kk28, hkk28⟩ := va_pl_get (X := [(o, Sum.inr (0, [Value.ref a_chosen, Value.int v_bestCost, Value.ref a_felt, Value.ref a_own, Value.ref a_share, Value.ref a_rest, Value.ref a_left, Value.ref a_tried, Value.int v_signs, Value.int v_lines, Value.int v_most])), (a_felt, Sum.inl (k_a_felt, 21, Sum.inl f_a_felt)), (a_own, Sum.inl (k_a_own, 4, Sum.inl f_a_own)), (a_share, Sum.inl (k_a_share, 5, Sum.inr (Sum.inr (Sum.inr (Sum.inr (rows_of 5 R_a_share)))))), (a_left, Sum.inl (k_a_left, 5, Sum.inr (Sum.inr (Sum.inr (Sum.inr (rows_of 5 R_a_left))))))]) (f := fp) mrw26.1
      have qkk28 := hkk28
      rw [hgk27] at qkk28
      refine va_iald hx hb hK hP kk28 4 qkk28 rfl (vq_in v4 4 (by omega)) dX0_canBeCheaper_48 ?_
      refine lv_topi (fun x29 ex29 => ?_)
      refine lv_iload hx hb dX0_canBeCheaper_49 (lv_at hl 1 rfl) ?_
      refine lv_imul hx hb dX0_canBeCheaper_51 ?_
      refine lv_topi (fun x30 ex30 => ?_)
      refine lv_iload hx hb dX0_canBeCheaper_52 (lv_at hl 2 rfl) ?_
      refine lv_aload_n hx hb dX0_canBeCheaper_54 rfl (lv_at hl 5 rfl) ?_
      refine va_get (D := (dC, dI)) (ci := 0) (v := Value.ref a_own) (C := RX0) (T := TX0) (N := 11) hx hb hts iw_X0_canBeCheaper_X0 hown hK hP 0 rfl rfl 3 (by decide) (hts _ kk_X0_canBeCheaper_4) (fun _ h9 => h9) rfl dX0_canBeCheaper_55 ?_
      refine lv_iload hx hb dX0_canBeCheaper_58 (lv_at hl 0 rfl) ?_
      refine va_iald hx hb hK hP 2 1 rfl rfl (vq_in v4 4 (by omega)) dX0_canBeCheaper_60 ?_
      refine lv_topi (fun x31 ex31 => ?_)
      refine lv_imul hx hb dX0_canBeCheaper_61 ?_
      refine lv_topi (fun x32 ex32 => ?_)
      have bx30 := i32_rng x30
      have bx32 := i32_rng x32
      refine lv_icmp_le (tgt := 86) hx hb dX0_canBeCheaper_62 (by decide) (fun c33 => ?_) (fun c33 => ?_)
      · have c339 := i32_le c33 rfl rfl
        obtain ⟨x34, ex34⟩ : ∃ z : Int32, v4 + Int32.ofInt 1 = z := ⟨_, rfl⟩
        have tx34 := i32_inc ex34 rfl (by decide) (by omega) (by omega)
        refine lv_iinc (v := x34) (lv' := [(8, Value.int x34), (7, Value.int v5), (6, Value.int v6), (5, Value.int v2), (3, Value.long y1), (0, Value.ref o), (1, Value.int p0), (2, Value.int p1)]) hx hb dX0_canBeCheaper_86 hl (k := 0) rfl ex34 (by decide) rfl (fun ls hl => ?_)
        refine lv_goto (tgt := 30) hx hb dX0_canBeCheaper_89 (by decide) ?_
        exact ih30 _ _ _ _ (ms_up hn30 tx34 (by decide) (by omega)) ⟨x34, v5, v6, rfl, (iv.m (by omega)), hP, hD, hS, lv_sub hl [0, 1, 2, 3, 4, 5, 6, 7] rfl⟩
      · have c339 := i32_nle c33 rfl rfl
        refine lv_aload_n hx hb dX0_canBeCheaper_65 rfl (lv_at hl 5 rfl) ?_
        refine va_get (D := (dC, dI)) (ci := 0) (v := Value.ref a_share) (C := RX0) (T := TX0) (N := 11) hx hb hts iw_X0_canBeCheaper_X0 hown hK hP 0 rfl rfl 4 (by decide) (hts _ kk_X0_canBeCheaper_3) (fun _ h9 => h9) rfl dX0_canBeCheaper_66 ?_
        refine lv_iload hx hb dX0_canBeCheaper_69 (lv_at hl 3 rfl) ?_
        have hinrw35 : vp_in v2 5 := (vq_in v2 5 (by omega))
        refine va_aldA hx hb hK hP 3 2 rfl rfl hinrw35 dX0_canBeCheaper_71 ?_
        obtain ⟨rw35, erw35⟩ : ∃ z : Nat, z = R_a_share (Int32.toNatClampNeg v2) := ⟨_, rfl⟩
        refine px_v ((row_sel hinrw35).trans (congrArg Value.ref erw35.symm)) ?_
        have mrw35 : rw35 ∈ LP ∧ sh rw35 = 4 := by rw [erw35]; exact hRR_a_share _ (vin_lt hinrw35)
        refine lv_iload hx hb dX0_canBeCheaper_72 (lv_at hl 0 rfl) ?_
        obtain ⟨gk36, hgk36⟩ := pok_4 (hfp) mrw35
        obtain ⟨kk37, hkk37⟩ := va_pl_get (X := [(o, Sum.inr (0, [Value.ref a_chosen, Value.int v_bestCost, Value.ref a_felt, Value.ref a_own, Value.ref a_share, Value.ref a_rest, Value.ref a_left, Value.ref a_tried, Value.int v_signs, Value.int v_lines, Value.int v_most])), (a_felt, Sum.inl (k_a_felt, 21, Sum.inl f_a_felt)), (a_own, Sum.inl (k_a_own, 4, Sum.inl f_a_own)), (a_share, Sum.inl (k_a_share, 5, Sum.inr (Sum.inr (Sum.inr (Sum.inr (rows_of 5 R_a_share)))))), (a_left, Sum.inl (k_a_left, 5, Sum.inr (Sum.inr (Sum.inr (Sum.inr (rows_of 5 R_a_left))))))]) (f := fp) mrw35.1
        have qkk37 := hkk37
        rw [hgk36] at qkk37
        refine va_iald hx hb hK hP kk37 4 qkk37 rfl (vq_in v4 4 (by omega)) dX0_canBeCheaper_74 ?_
        refine lv_topi (fun x38 ex38 => ?_)
        refine lv_istore (lv' := [(6, Value.int x38), (8, Value.int v4), (7, Value.int v5), (5, Value.int v2), (3, Value.long y1), (0, Value.ref o), (1, Value.int p0), (2, Value.int p1)]) hx hb dX0_canBeCheaper_75 hl (by decide) rfl (fun ls hl => ?_)
        refine lv_aload_n hx hb dX0_canBeCheaper_77 rfl (lv_at hl 5 rfl) ?_
        refine va_get (D := (dC, dI)) (ci := 0) (v := Value.ref a_own) (C := RX0) (T := TX0) (N := 11) hx hb hts iw_X0_canBeCheaper_X0 hown hK hP 0 rfl rfl 3 (by decide) (hts _ kk_X0_canBeCheaper_4) (fun _ h9 => h9) rfl dX0_canBeCheaper_78 ?_
        refine lv_iload hx hb dX0_canBeCheaper_81 (lv_at hl 1 rfl) ?_
        refine va_iald hx hb hK hP 2 1 rfl rfl (vq_in v4 4 (by omega)) dX0_canBeCheaper_83 ?_
        refine lv_topi (fun x39 ex39 => ?_)
        refine lv_istore (lv' := [(7, Value.int x39), (6, Value.int x38), (8, Value.int v4), (5, Value.int v2), (3, Value.long y1), (0, Value.ref o), (1, Value.int p0), (2, Value.int p1)]) hx hb dX0_canBeCheaper_84 hl (by decide) rfl (fun ls hl => ?_)
        obtain ⟨x40, ex40⟩ : ∃ z : Int32, v4 + Int32.ofInt 1 = z := ⟨_, rfl⟩
        have tx40 := i32_inc ex40 rfl (by decide) (by omega) (by omega)
        refine lv_iinc (v := x40) (lv' := [(8, Value.int x40), (7, Value.int x39), (6, Value.int x38), (5, Value.int v2), (3, Value.long y1), (0, Value.ref o), (1, Value.int p0), (2, Value.int p1)]) hx hb dX0_canBeCheaper_86 hl (k := 2) rfl ex40 (by decide) rfl (fun ls hl => ?_)
        refine lv_goto (tgt := 30) hx hb dX0_canBeCheaper_89 (by decide) ?_
        have bx39 := i32_rng x39
        have bx38 := i32_rng x38
        exact ih30 _ _ _ _ (ms_up hn30 tx40 (by decide) (by omega)) ⟨x40, x39, x38, rfl, (iv.m (by omega)), hP, hD, hS, lv_sub hl [0, 1, 2, 3, 4, 5, 6, 7] rfl⟩

set_option maxHeartbeats 4000000 in
set_option maxRecDepth 100000 in
theorem ct_X0_place_L4 (l : Launch) (dC : Nat → ClassId) (dI : Nat → Nat → Nat) (o : Nat) (p1 : Int32) (a_chosen : Nat) (v_bestCost : Int32) (a_felt : Nat) (a_own : Nat) (a_share : Nat) (a_rest : Nat) (a_left : Nat) (a_tried : Nat) (v_signs : Int32) (v_lines : Int32) (v_most : Int32) (k_a_chosen : ClassId) (f_a_chosen : Nat → Int32) (k_a_tried : ClassId) (f_a_tried : Nat → Int32) (hv_signs : iv v_signs 0 4) (sz : Nat) : Met l yX0_place wsX0_place ({ frames := 1, cells := 0, slots := 0, locals := 60 }) (va_Pc [Value.ref o, Value.int 4, Value.int p1] (fun U => U.heap.size = sz ∧ va_P (dC, dI) vwCl [(o, Sum.inr (0, [Value.ref a_chosen, Value.int v_bestCost, Value.ref a_felt, Value.ref a_own, Value.ref a_share, Value.ref a_rest, Value.ref a_left, Value.ref a_tried, Value.int v_signs, Value.int v_lines, Value.int v_most])), (a_chosen, Sum.inl (k_a_chosen, 4, Sum.inl f_a_chosen)), (a_tried, Sum.inl (k_a_tried, 4, Sum.inl f_a_tried))] U.heap ∧ va_K (dC, dI) vwCl [(k_a_chosen, FieldType.int), (k_a_tried, FieldType.int)] U ∧ va_D (fun _ => True) [(o, Sum.inr (0, [Value.ref a_chosen, Value.int v_bestCost, Value.ref a_felt, Value.ref a_own, Value.ref a_share, Value.ref a_rest, Value.ref a_left, Value.ref a_tried, Value.int v_signs, Value.int v_lines, Value.int v_most])), (a_chosen, Sum.inl (k_a_chosen, 4, Sum.inl f_a_chosen)), (a_tried, Sum.inl (k_a_tried, 4, Sum.inl f_a_tried))])) (va_Qv (fun _ : Unit => True) (fun _ t => ∃ (e_f_a_chosen : Nat → Int32), va_P (dC, dI) vwCl [(o, Sum.inr (0, [Value.ref a_chosen, Value.int p1, Value.ref a_felt, Value.ref a_own, Value.ref a_share, Value.ref a_rest, Value.ref a_left, Value.ref a_tried, Value.int v_signs, Value.int v_lines, Value.int v_most])), (a_chosen, Sum.inl (k_a_chosen, 4, Sum.inl e_f_a_chosen)), (a_tried, Sum.inl (k_a_tried, 4, Sum.inl f_a_tried))] t.heap ∧ va_D (va_A [(o, Sum.inr (0, [Value.ref a_chosen, Value.int v_bestCost, Value.ref a_felt, Value.ref a_own, Value.ref a_share, Value.ref a_rest, Value.ref a_left, Value.ref a_tried, Value.int v_signs, Value.int v_lines, Value.int v_most])), (a_chosen, Sum.inl (k_a_chosen, 4, Sum.inl f_a_chosen)), (a_tried, Sum.inl (k_a_tried, 4, Sum.inl f_a_tried))] sz) [(o, Sum.inr (0, [Value.ref a_chosen, Value.int p1, Value.ref a_felt, Value.ref a_own, Value.ref a_share, Value.ref a_rest, Value.ref a_left, Value.ref a_tried, Value.int v_signs, Value.int v_lines, Value.int v_most])), (a_chosen, Sum.inl (k_a_chosen, 4, Sum.inl e_f_a_chosen)), (a_tried, Sum.inl (k_a_tried, 4, Sum.inl f_a_tried))]) (va_A [(o, Sum.inr (0, [Value.ref a_chosen, Value.int v_bestCost, Value.ref a_felt, Value.ref a_own, Value.ref a_share, Value.ref a_rest, Value.ref a_left, Value.ref a_tried, Value.int v_signs, Value.int v_lines, Value.int v_most])), (a_chosen, Sum.inl (k_a_chosen, 4, Sum.inl f_a_chosen)), (a_tried, Sum.inl (k_a_tried, 4, Sum.inl f_a_tried))] sz)) 0 0 (va_A [(o, Sum.inr (0, [Value.ref a_chosen, Value.int v_bestCost, Value.ref a_felt, Value.ref a_own, Value.ref a_share, Value.ref a_rest, Value.ref a_left, Value.ref a_tried, Value.int v_signs, Value.int v_lines, Value.int v_most])), (a_chosen, Sum.inl (k_a_chosen, 4, Sum.inl f_a_chosen)), (a_tried, Sum.inl (k_a_tried, 4, Sum.inl f_a_tried))] sz) := by
  refine Met.ofW (cc := cX0_place) (maxL := 7) (ret := none) pn_X0 rfl ?_
  intro p e s m args below meth c s₁ B hml hv
  obtain ⟨rfl, hsz, hP, hK, hD0⟩ := hv
  have hx := B.exec
  have hb := B.bytes
  have hr := B.returns
  have hts := atoms_spec (ws := wsX0_place) B.pre
  have hown : s.vm.findClass RX0 = some m.cls := findClass_of_methodNamed B.named
  have hlocks := B.notSynchronized
  subst hsz
  have hD := hD0.self (sz := s.heap.size)
  generalize hAe : va_A [(o, Sum.inr (0, [Value.ref a_chosen, Value.int v_bestCost, Value.ref a_felt, Value.ref a_own, Value.ref a_share, Value.ref a_rest, Value.ref a_left, Value.ref a_tried, Value.int v_signs, Value.int v_lines, Value.int v_most])), (a_chosen, Sum.inl (k_a_chosen, 4, Sum.inl f_a_chosen)), (a_tried, Sum.inl (k_a_tried, 4, Sum.inl f_a_tried))] s.heap.size = A at hD ⊢
  have hA : ∀ q : Nat, s.heap.size ≤ q → A q := fun q h => by rw [← hAe]; exact Or.inr h
  have hS : va_S A s.heap s.heap [] := va_S.rf
  have hP : va_P (dC, dI) vwCl [(o, Sum.inr (0, [Value.ref a_chosen, Value.int v_bestCost, Value.ref a_felt, Value.ref a_own, Value.ref a_share, Value.ref a_rest, Value.ref a_left, Value.ref a_tried, Value.int v_signs, Value.int v_lines, Value.int v_most])), (a_chosen, Sum.inl (k_a_chosen, 4, Sum.inl f_a_chosen)), (a_tried, Sum.inl (k_a_tried, 4, Sum.inl f_a_tried))] s.heap := hP
  have hl := lv_entry ([Value.ref o, Value.int 4, Value.int p1]) (n := 7) (Nat.le_of_ble_eq_true rfl)
  rw [lg_entry_eq]
  generalize (lg_sl ([Value.ref o, Value.int 4, Value.int p1]) ++ List.replicate (7 - (lg_sl ([Value.ref o, Value.int 4, Value.int p1])).length) Slot.unset).toArray = ls at hl ⊢
  have hl : lv_has ls 7 [(0, Value.ref o), (1, Value.int 4), (2, Value.int p1)] := hl
  refine lv_iload_n hx hb dX0_place_0 rfl (lv_at hl 1 rfl) ?_
  refine lv_aload_n hx hb dX0_place_1 rfl (lv_at hl 0 rfl) ?_
  refine va_get (D := (dC, dI)) (ci := 0) (v := Value.int v_signs) (C := RX0) (T := TX0) (N := 11) hx hb hts iw_X0_place_X0 hown hK hP 0 rfl rfl 8 (by decide) (hts _ kk_X0_place_0) (fun _ h9 => h9) rfl dX0_place_2 ?_
  have bv_signs := hv_signs.u
  refine lv_icmp_lt (tgt := 31) hx hb dX0_place_5 (by decide) (fun c1 => False.elim (by have c19 := i32_lt c1 (show (4 : Int32).toInt = 4 by decide) rfl; omega)) (fun _ => ?_)
  refine lv_aload_n hx hb dX0_place_8 rfl (lv_at hl 0 rfl) ?_
  refine lv_iload_n hx hb dX0_place_9 rfl (lv_at hl 2 rfl) ?_
  refine va_put (D := (dC, dI)) (ci := 0) (v := Value.int p1) (ty := FieldType.int) (C := RX0) (T := TX0) (N := 11) hx hb hts iw_X0_place_X0 tyX0 tyX0_ok nmX0 hown hK hP hD hS 0 rfl rfl 1 (by decide) (hts _ kk_X0_place_2) (fun _ h9 => h9) rfl (by decide +kernel) rfl rfl (Nat.le_of_ble_eq_true rfl) dX0_place_10 (fun H locs hP hD hS => ?_)
  have hP : va_P (dC, dI) vwCl [(o, Sum.inr (0, [Value.ref a_chosen, Value.int p1, Value.ref a_felt, Value.ref a_own, Value.ref a_share, Value.ref a_rest, Value.ref a_left, Value.ref a_tried, Value.int v_signs, Value.int v_lines, Value.int v_most])), (a_chosen, Sum.inl (k_a_chosen, 4, Sum.inl f_a_chosen)), (a_tried, Sum.inl (k_a_tried, 4, Sum.inl f_a_tried))] H := hP
  have hD : va_D A [(o, Sum.inr (0, [Value.ref a_chosen, Value.int p1, Value.ref a_felt, Value.ref a_own, Value.ref a_share, Value.ref a_rest, Value.ref a_left, Value.ref a_tried, Value.int v_signs, Value.int v_lines, Value.int v_most])), (a_chosen, Sum.inl (k_a_chosen, 4, Sum.inl f_a_chosen)), (a_tried, Sum.inl (k_a_tried, 4, Sum.inl f_a_tried))] := hD
  refine lv_aload_n hx hb dX0_place_13 rfl (lv_at hl 0 rfl) ?_
  refine va_get (D := (dC, dI)) (ci := 0) (v := Value.ref a_tried) (C := RX0) (T := TX0) (N := 11) hx hb hts iw_X0_place_X0 hown hK hP 0 rfl rfl 7 (by decide) (hts _ kk_X0_place_3) (fun _ h9 => h9) rfl dX0_place_14 ?_
  refine lv_iconst (v := 0) hx hb dX0_place_17 (by decide) ?_
  refine lv_aload_n hx hb dX0_place_18 rfl (lv_at hl 0 rfl) ?_
  refine va_get (D := (dC, dI)) (ci := 0) (v := Value.ref a_chosen) (C := RX0) (T := TX0) (N := 11) hx hb hts iw_X0_place_X0 hown hK hP 0 rfl rfl 0 (by decide) (hts _ kk_X0_place_5) (fun _ h9 => h9) rfl dX0_place_19 ?_
  refine lv_iconst (v := 0) hx hb dX0_place_22 (by decide) ?_
  refine lv_aload_n hx hb dX0_place_23 rfl (lv_at hl 0 rfl) ?_
  refine va_get (D := (dC, dI)) (ci := 0) (v := Value.int v_signs) (C := RX0) (T := TX0) (N := 11) hx hb hts iw_X0_place_X0 hown hK hP 0 rfl rfl 8 (by decide) (hts _ kk_X0_place_0) (fun _ h9 => h9) rfl dX0_place_24 ?_
  have hcl : Int32.toNatClampNeg v_signs ≤ 4 := i32_cl v_signs (by omega)
  refine va_copyi hx hb (by rw [hml]; exact hl.1.symm) hown (hts _ kk_X0_place_6) (hts _ kk_X0_place_7) (hts _ kk_X0_place_8) (hts _ kk_X0_place_9) hK hP hD hS 2 1 1 0 rfl rfl rfl rfl rfl (by decide) (by decide) (i32_nn (by omega)) (by rw [show Int32.toNatClampNeg 0 = 0 by decide]; omega) (by rw [show Int32.toNatClampNeg 0 = 0 by decide]; omega) (fun _ _ => rfl) (Nat.le_of_ble_eq_true rfl) (Nat.le_of_ble_eq_true rfl) dX0_place_27 (fun H locs hP hD hS => ?_)
  have hP : va_P (dC, dI) vwCl [(o, Sum.inr (0, [Value.ref a_chosen, Value.int p1, Value.ref a_felt, Value.ref a_own, Value.ref a_share, Value.ref a_rest, Value.ref a_left, Value.ref a_tried, Value.int v_signs, Value.int v_lines, Value.int v_most])), (a_chosen, Sum.inl (k_a_chosen, 4, Sum.inl (va_cpy f_a_tried f_a_chosen (Int32.toNatClampNeg 0) (Int32.toNatClampNeg 0) (Int32.toNatClampNeg v_signs)))), (a_tried, Sum.inl (k_a_tried, 4, Sum.inl f_a_tried))] H := hP
  have hD : va_D A [(o, Sum.inr (0, [Value.ref a_chosen, Value.int p1, Value.ref a_felt, Value.ref a_own, Value.ref a_share, Value.ref a_rest, Value.ref a_left, Value.ref a_tried, Value.int v_signs, Value.int v_lines, Value.int v_most])), (a_chosen, Sum.inl (k_a_chosen, 4, Sum.inl (va_cpy f_a_tried f_a_chosen (Int32.toNatClampNeg 0) (Int32.toNatClampNeg 0) (Int32.toNatClampNeg v_signs)))), (a_tried, Sum.inl (k_a_tried, 4, Sum.inl f_a_tried))] := hD
  generalize va_cpy f_a_tried f_a_chosen (Int32.toNatClampNeg 0) (Int32.toNatClampNeg 0) (Int32.toNatClampNeg v_signs) = f2 at hP hD
  have hP : va_P (dC, dI) vwCl [(o, Sum.inr (0, [Value.ref a_chosen, Value.int p1, Value.ref a_felt, Value.ref a_own, Value.ref a_share, Value.ref a_rest, Value.ref a_left, Value.ref a_tried, Value.int v_signs, Value.int v_lines, Value.int v_most])), (a_chosen, Sum.inl (k_a_chosen, 4, Sum.inl f2)), (a_tried, Sum.inl (k_a_tried, 4, Sum.inl f_a_tried))] H := hP
  have hD : va_D A [(o, Sum.inr (0, [Value.ref a_chosen, Value.int p1, Value.ref a_felt, Value.ref a_own, Value.ref a_share, Value.ref a_rest, Value.ref a_left, Value.ref a_tried, Value.int v_signs, Value.int v_lines, Value.int v_most])), (a_chosen, Sum.inl (k_a_chosen, 4, Sum.inl f2)), (a_tried, Sum.inl (k_a_tried, 4, Sum.inl f_a_tried))] := hD
  have hP9 := hP.sub (ws' := [(o, Sum.inr (0, [Value.ref a_chosen, Value.int p1, Value.ref a_felt, Value.ref a_own, Value.ref a_share, Value.ref a_rest, Value.ref a_left, Value.ref a_tried, Value.int v_signs, Value.int v_lines, Value.int v_most])), (a_chosen, Sum.inl (k_a_chosen, 4, Sum.inl f2)), (a_tried, Sum.inl (k_a_tried, 4, Sum.inl f_a_tried))]) [0, 1, 2] rfl
  have hD9 := hD.sub (ws' := [(o, Sum.inr (0, [Value.ref a_chosen, Value.int p1, Value.ref a_felt, Value.ref a_own, Value.ref a_share, Value.ref a_rest, Value.ref a_left, Value.ref a_tried, Value.int v_signs, Value.int v_lines, Value.int v_most])), (a_chosen, Sum.inl (k_a_chosen, 4, Sum.inl f2)), (a_tried, Sum.inl (k_a_tried, 4, Sum.inl f_a_tried))]) [0, 1, 2] (by decide) rfl
  exact W.vret hx hb hr (fun t ht hW => ⟨⟨(), rfl, trivial, f2, by rw [ht]; exact hP9, hD9⟩, hS.F ht⟩) hS.2.2 dX0_place_30

