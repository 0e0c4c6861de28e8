set_option maxHeartbeats 4000000 in
set_option maxRecDepth 100000 in
theorem ct_X1_canTell (l : Launch) (dC : Nat → ClassId) (dI : Nat → Nat → Nat) (o : Nat) (p0 : Int32) (v_seen : Int32) (v_rights : Int32) (v_latestStep : Int32) (a_seenStep : Nat) (a_seenSign : Nat) (a_timesRight : Nat) (a_rightStep : Nat) (a_rightOf : Nat) (a_rightSign : Nat) (sz : Nat) : Met l yX1_canTell wsX1_canTell ({ frames := 0, cells := 0, slots := 0, locals := 0 }) (va_Pc [Value.ref o, Value.int p0] (fun U => U.heap.size = sz ∧ va_P (dC, dI) vwCl [(o, Sum.inr (1, [Value.int v_seen, Value.int v_rights, Value.int v_latestStep, Value.ref a_seenStep, Value.ref a_seenSign, Value.ref a_timesRight, Value.ref a_rightStep, Value.ref a_rightOf, Value.ref a_rightSign]))] U.heap ∧ va_K (dC, dI) vwCl [] U ∧ va_D (fun _ => True) [(o, Sum.inr (1, [Value.int v_seen, Value.int v_rights, Value.int v_latestStep, Value.ref a_seenStep, Value.ref a_seenSign, Value.ref a_timesRight, Value.ref a_rightStep, Value.ref a_rightOf, Value.ref a_rightSign]))])) (va_Qi (fun (r u : Int32) => u = r) (fun (r : Int32) t => ((r = 0) ∨ (r = 1)) ∧ va_P (dC, dI) vwCl [(o, Sum.inr (1, [Value.int v_seen, Value.int v_rights, Value.int v_latestStep, Value.ref a_seenStep, Value.ref a_seenSign, Value.ref a_timesRight, Value.ref a_rightStep, Value.ref a_rightOf, Value.ref a_rightSign]))] t.heap ∧ va_D (va_A [(o, Sum.inr (1, [Value.int v_seen, Value.int v_rights, Value.int v_latestStep, Value.ref a_seenStep, Value.ref a_seenSign, Value.ref a_timesRight, Value.ref a_rightStep, Value.ref a_rightOf, Value.ref a_rightSign]))] sz) [(o, Sum.inr (1, [Value.int v_seen, Value.int v_rights, Value.int v_latestStep, Value.ref a_seenStep, Value.ref a_seenSign, Value.ref a_timesRight, Value.ref a_rightStep, Value.ref a_rightOf, Value.ref a_rightSign]))]) (va_A [(o, Sum.inr (1, [Value.int v_seen, Value.int v_rights, Value.int v_latestStep, Value.ref a_seenStep, Value.ref a_seenSign, Value.ref a_timesRight, Value.ref a_rightStep, Value.ref a_rightOf, Value.ref a_rightSign]))] sz)) 0 0 (va_A [(o, Sum.inr (1, [Value.int v_seen, Value.int v_rights, Value.int v_latestStep, Value.ref a_seenStep, Value.ref a_seenSign, Value.ref a_timesRight, Value.ref a_rightStep, Value.ref a_rightOf, Value.ref a_rightSign]))] sz) := by
  refine Met.ofW (cc := cX1_canTell) (maxL := 2) (ret := (some .boolean)) pn_X1 rfl ?_
  intro p e s m args below meth c s₁ B hml hv
  obtain ⟨rfl, hsz, hP, hK, hD0⟩ := hv
  have hx := B.exec
  have hb := B.bytes
  have hr := B.returns
  have hts := atoms_spec (ws := wsX1_canTell) B.pre
  have hown : s.vm.findClass RX1 = some m.cls := findClass_of_methodNamed B.named
  have hlocks := B.notSynchronized
  subst hsz
  have hD := hD0.self (sz := s.heap.size)
  generalize hAe : va_A [(o, Sum.inr (1, [Value.int v_seen, Value.int v_rights, Value.int v_latestStep, Value.ref a_seenStep, Value.ref a_seenSign, Value.ref a_timesRight, Value.ref a_rightStep, Value.ref a_rightOf, Value.ref a_rightSign]))] s.heap.size = A at hD ⊢
  have hA : ∀ q : Nat, s.heap.size ≤ q → A q := fun q h => by rw [← hAe]; exact Or.inr h
  have hS : va_S A s.heap s.heap [] := va_S.rf
  have hP : va_P (dC, dI) vwCl [(o, Sum.inr (1, [Value.int v_seen, Value.int v_rights, Value.int v_latestStep, Value.ref a_seenStep, Value.ref a_seenSign, Value.ref a_timesRight, Value.ref a_rightStep, Value.ref a_rightOf, Value.ref a_rightSign]))] s.heap := hP
  have hl := lv_entry ([Value.ref o, Value.int p0]) (n := 2) (Nat.le_of_ble_eq_true rfl)
  rw [lg_entry_eq]
  generalize (lg_sl ([Value.ref o, Value.int p0]) ++ List.replicate (2 - (lg_sl ([Value.ref o, Value.int p0])).length) Slot.unset).toArray = ls at hl ⊢
  have hl : lv_has ls 2 [(0, Value.ref o), (1, Value.int p0)] := hl
  refine lv_iload_n hx hb dX1_canTell_0 rfl (lv_at hl 1 rfl) ?_
  refine lv_aload_n hx hb dX1_canTell_1 rfl (lv_at hl 0 rfl) ?_
  refine va_get (D := (dC, dI)) (ci := 1) (v := Value.int v_latestStep) (C := RX1) (T := TX1) (N := 9) hx hb hts iw_X1_canTell_X1 hown hK hP 0 rfl rfl 2 (by decide) (hts _ kk_X1_canTell_0) (fun _ h9 => h9) rfl dX1_canTell_2 ?_
  have bp0 := i32_rng p0
  have bv_latestStep := i32_rng v_latestStep
  refine lv_icmp_lt (tgt := 19) hx hb dX1_canTell_5 (by decide) (fun c1 => ?_) (fun c1 => ?_)
  · have c19 := i32_lt c1 rfl rfl
    refine lv_iconst (v := 0) hx hb dX1_canTell_19 (by decide) ?_
    have hP9 := hP.sub (ws' := [(o, Sum.inr (1, [Value.int v_seen, Value.int v_rights, Value.int v_latestStep, Value.ref a_seenStep, Value.ref a_seenSign, Value.ref a_timesRight, Value.ref a_rightStep, Value.ref a_rightOf, Value.ref a_rightSign]))]) [0] rfl
    have hD9 := hD.sub (ws' := [(o, Sum.inr (1, [Value.int v_seen, Value.int v_rights, Value.int v_latestStep, Value.ref a_seenStep, Value.ref a_seenSign, Value.ref a_timesRight, Value.ref a_rightStep, Value.ref a_rightOf, Value.ref a_rightSign]))]) [0] (by decide) rfl
    exact W.zret (v := 0) hx hb hr rfl (fun t ht hW => ⟨⟨0, 0, rfl, rfl, (Or.inl rfl), by rw [ht]; exact hP9, hD9⟩, hS.F ht⟩) hS.2.2 dX1_canTell_20
  · have c19 := i32_nlt c1 rfl rfl
    refine lv_iload_n hx hb dX1_canTell_8 rfl (lv_at hl 1 rfl) ?_
    refine lv_sipush (v := 999) hx hb dX1_canTell_9 (by decide) ?_
    refine lv_icmp_gt (tgt := 19) hx hb dX1_canTell_12 (by decide) (fun c2 => ?_) (fun c2 => ?_)
    · have c29 := i32_lt c2 (show (999 : Int32).toInt = 999 by decide) rfl
      refine lv_iconst (v := 0) hx hb dX1_canTell_19 (by decide) ?_
      have hP9 := hP.sub (ws' := [(o, Sum.inr (1, [Value.int v_seen, Value.int v_rights, Value.int v_latestStep, Value.ref a_seenStep, Value.ref a_seenSign, Value.ref a_timesRight, Value.ref a_rightStep, Value.ref a_rightOf, Value.ref a_rightSign]))]) [0] rfl
      have hD9 := hD.sub (ws' := [(o, Sum.inr (1, [Value.int v_seen, Value.int v_rights, Value.int v_latestStep, Value.ref a_seenStep, Value.ref a_seenSign, Value.ref a_timesRight, Value.ref a_rightStep, Value.ref a_rightOf, Value.ref a_rightSign]))]) [0] (by decide) rfl
      exact W.zret (v := 0) hx hb hr rfl (fun t ht hW => ⟨⟨0, 0, rfl, rfl, (Or.inl rfl), by rw [ht]; exact hP9, hD9⟩, hS.F ht⟩) hS.2.2 dX1_canTell_20
    · have c29 := i32_nlt c2 (show (999 : Int32).toInt = 999 by decide) rfl
      refine lv_iconst (v := 1) hx hb dX1_canTell_15 (by decide) ?_
      refine lv_goto (tgt := 20) hx hb dX1_canTell_16 (by decide) ?_
      have hP9 := hP.sub (ws' := [(o, Sum.inr (1, [Value.int v_seen, Value.int v_rights, Value.int v_latestStep, Value.ref a_seenStep, Value.ref a_seenSign, Value.ref a_timesRight, Value.ref a_rightStep, Value.ref a_rightOf, Value.ref a_rightSign]))]) [0] rfl
      have hD9 := hD.sub (ws' := [(o, Sum.inr (1, [Value.int v_seen, Value.int v_rights, Value.int v_latestStep, Value.ref a_seenStep, Value.ref a_seenSign, Value.ref a_timesRight, Value.ref a_rightStep, Value.ref a_rightOf, Value.ref a_rightSign]))]) [0] (by decide) rfl
      exact W.zret (v := 1) hx hb hr rfl (fun t ht hW => ⟨⟨1, 1, rfl, rfl, (Or.inr (rfl)), by rw [ht]; exact hP9, hD9⟩, hS.F ht⟩) hS.2.2 dX1_canTell_20

set_option maxHeartbeats 4000000 in
set_option maxRecDepth 100000 in
theorem ct_X1_canCorrect (l : Launch) (dC : Nat → ClassId) (dI : Nat → Nat → Nat) (o : Nat) (p0 : Int32) (p1 : Int32) (v_seen : Int32) (v_rights : Int32) (v_latestStep : Int32) (a_seenStep : Nat) (a_seenSign : Nat) (a_timesRight : Nat) (a_rightStep : Nat) (a_rightOf : Nat) (a_rightSign : Nat) (k_a_seenStep : ClassId) (f_a_seenStep : Nat → Int32) (hv_seen : iv v_seen 0 8) (sz : Nat) : Met l yX1_canCorrect wsX1_canCorrect ({ frames := 0, cells := 0, slots := 0, locals := 0 }) (va_Pc [Value.ref o, Value.int p0, Value.int p1] (fun U => U.heap.size = sz ∧ va_P (dC, dI) vwCl [(o, Sum.inr (1, [Value.int v_seen, Value.int v_rights, Value.int v_latestStep, Value.ref a_seenStep, Value.ref a_seenSign, Value.ref a_timesRight, Value.ref a_rightStep, Value.ref a_rightOf, Value.ref a_rightSign])), (a_seenStep, Sum.inl (k_a_seenStep, 8, Sum.inl f_a_seenStep))] U.heap ∧ va_K (dC, dI) vwCl [(k_a_seenStep, FieldType.int)] U ∧ va_D (fun _ => True) [(o, Sum.inr (1, [Value.int v_seen, Value.int v_rights, Value.int v_latestStep, Value.ref a_seenStep, Value.ref a_seenSign, Value.ref a_timesRight, Value.ref a_rightStep, Value.ref a_rightOf, Value.ref a_rightSign])), (a_seenStep, Sum.inl (k_a_seenStep, 8, Sum.inl f_a_seenStep))])) (va_Qi (fun (r u : Int32) => u = r) (fun (r : Int32) t => ((r = 0) ∨ (r = 1 ∧ (0 ≤ p1.toInt) ∧ (p1.toInt < v_seen.toInt))) ∧ va_P (dC, dI) vwCl [(o, Sum.inr (1, [Value.int v_seen, Value.int v_rights, Value.int v_latestStep, Value.ref a_seenStep, Value.ref a_seenSign, Value.ref a_timesRight, Value.ref a_rightStep, Value.ref a_rightOf, Value.ref a_rightSign])), (a_seenStep, Sum.inl (k_a_seenStep, 8, Sum.inl f_a_seenStep))] t.heap ∧ va_D (va_A [(o, Sum.inr (1, [Value.int v_seen, Value.int v_rights, Value.int v_latestStep, Value.ref a_seenStep, Value.ref a_seenSign, Value.ref a_timesRight, Value.ref a_rightStep, Value.ref a_rightOf, Value.ref a_rightSign])), (a_seenStep, Sum.inl (k_a_seenStep, 8, Sum.inl f_a_seenStep))] sz) [(o, Sum.inr (1, [Value.int v_seen, Value.int v_rights, Value.int v_latestStep, Value.ref a_seenStep, Value.ref a_seenSign, Value.ref a_timesRight, Value.ref a_rightStep, Value.ref a_rightOf, Value.ref a_rightSign])), (a_seenStep, Sum.inl (k_a_seenStep, 8, Sum.inl f_a_seenStep))]) (va_A [(o, Sum.inr (1, [Value.int v_seen, Value.int v_rights, Value.int v_latestStep, Value.ref a_seenStep, Value.ref a_seenSign, Value.ref a_timesRight, Value.ref a_rightStep, Value.ref a_rightOf, Value.ref a_rightSign])), (a_seenStep, Sum.inl (k_a_seenStep, 8, Sum.inl f_a_seenStep))] sz)) 0 0 (va_A [(o, Sum.inr (1, [Value.int v_seen, Value.int v_rights, Value.int v_latestStep, Value.ref a_seenStep, Value.ref a_seenSign, Value.ref a_timesRight, Value.ref a_rightStep, Value.ref a_rightOf, Value.ref a_rightSign])), (a_seenStep, Sum.inl (k_a_seenStep, 8, Sum.inl f_a_seenStep))] sz) := by
  refine Met.ofW (cc := cX1_canCorrect) (maxL := 3) (ret := (some .boolean)) pn_X1 rfl ?_
  intro p e s m args below meth c s₁ B hml hv
  obtain ⟨rfl, hsz, hP, hK, hD0⟩ := hv
  have hx := B.exec
  have hb := B.bytes
  have hr := B.returns
  have hts := atoms_spec (ws := wsX1_canCorrect) B.pre
  have hown : s.vm.findClass RX1 = some m.cls := findClass_of_methodNamed B.named
  have hlocks := B.notSynchronized
  subst hsz
  have hD := hD0.self (sz := s.heap.size)
  generalize hAe : va_A [(o, Sum.inr (1, [Value.int v_seen, Value.int v_rights, Value.int v_latestStep, Value.ref a_seenStep, Value.ref a_seenSign, Value.ref a_timesRight, Value.ref a_rightStep, Value.ref a_rightOf, Value.ref a_rightSign])), (a_seenStep, Sum.inl (k_a_seenStep, 8, Sum.inl f_a_seenStep))] s.heap.size = A at hD ⊢
  have hA : ∀ q : Nat, s.heap.size ≤ q → A q := fun q h => by rw [← hAe]; exact Or.inr h
  have hS : va_S A s.heap s.heap [] := va_S.rf
  have hP : va_P (dC, dI) vwCl [(o, Sum.inr (1, [Value.int v_seen, Value.int v_rights, Value.int v_latestStep, Value.ref a_seenStep, Value.ref a_seenSign, Value.ref a_timesRight, Value.ref a_rightStep, Value.ref a_rightOf, Value.ref a_rightSign])), (a_seenStep, Sum.inl (k_a_seenStep, 8, Sum.inl f_a_seenStep))] s.heap := hP
  have hl := lv_entry ([Value.ref o, Value.int p0, Value.int p1]) (n := 3) (Nat.le_of_ble_eq_true rfl)
  rw [lg_entry_eq]
  generalize (lg_sl ([Value.ref o, Value.int p0, Value.int p1]) ++ List.replicate (3 - (lg_sl ([Value.ref o, Value.int p0, Value.int p1])).length) Slot.unset).toArray = ls at hl ⊢
  have hl : lv_has ls 3 [(0, Value.ref o), (1, Value.int p0), (2, Value.int p1)] := hl
  refine lv_iload_n hx hb dX1_canCorrect_0 rfl (lv_at hl 2 rfl) ?_
  have bp1 := i32_rng p1
  refine lv_if_lt (tgt := 26) hx hb dX1_canCorrect_1 (by decide) (fun c1 => ?_) (fun c1 => ?_)
  · have c19 := i32_lt c1 rfl (show (0 : Int32).toInt = 0 by decide)
    refine lv_iconst (v := 0) hx hb dX1_canCorrect_26 (by decide) ?_
    have hP9 := hP.sub (ws' := [(o, Sum.inr (1, [Value.int v_seen, Value.int v_rights, Value.int v_latestStep, Value.ref a_seenStep, Value.ref a_seenSign, Value.ref a_timesRight, Value.ref a_rightStep, Value.ref a_rightOf, Value.ref a_rightSign])), (a_seenStep, Sum.inl (k_a_seenStep, 8, Sum.inl f_a_seenStep))]) [0, 1] rfl
    have hD9 := hD.sub (ws' := [(o, Sum.inr (1, [Value.int v_seen, Value.int v_rights, Value.int v_latestStep, Value.ref a_seenStep, Value.ref a_seenSign, Value.ref a_timesRight, Value.ref a_rightStep, Value.ref a_rightOf, Value.ref a_rightSign])), (a_seenStep, Sum.inl (k_a_seenStep, 8, Sum.inl f_a_seenStep))]) [0, 1] (by decide) rfl
    have bv_seen := hv_seen.u
    exact W.zret (v := 0) hx hb hr rfl (fun t ht hW => ⟨⟨0, 0, rfl, rfl, (Or.inl rfl), by rw [ht]; exact hP9, hD9⟩, hS.F ht⟩) hS.2.2 dX1_canCorrect_27
  · have c19 := i32_nlt c1 rfl (show (0 : Int32).toInt = 0 by decide)
    refine lv_iload_n hx hb dX1_canCorrect_4 rfl (lv_at hl 2 rfl) ?_
    refine lv_aload_n hx hb dX1_canCorrect_5 rfl (lv_at hl 0 rfl) ?_
    refine va_get (D := (dC, dI)) (ci := 1) (v := Value.int v_seen) (C := RX1) (T := TX1) (N := 9) hx hb hts iw_X1_canCorrect_X1 hown hK hP 0 rfl rfl 0 (by decide) (hts _ kk_X1_canCorrect_0) (fun _ h9 => h9) rfl dX1_canCorrect_6 ?_
    have bv_seen := hv_seen.u
    refine lv_icmp_ge (tgt := 26) hx hb dX1_canCorrect_9 (by decide) (fun c2 => ?_) (fun c2 => ?_)
    · have c29 := i32_le c2 rfl rfl
      refine lv_iconst (v := 0) hx hb dX1_canCorrect_26 (by decide) ?_
      have hP9 := hP.sub (ws' := [(o, Sum.inr (1, [Value.int v_seen, Value.int v_rights, Value.int v_latestStep, Value.ref a_seenStep, Value.ref a_seenSign, Value.ref a_timesRight, Value.ref a_rightStep, Value.ref a_rightOf, Value.ref a_rightSign])), (a_seenStep, Sum.inl (k_a_seenStep, 8, Sum.inl f_a_seenStep))]) [0, 1] rfl
      have hD9 := hD.sub (ws' := [(o, Sum.inr (1, [Value.int v_seen, Value.int v_rights, Value.int v_latestStep, Value.ref a_seenStep, Value.ref a_seenSign, Value.ref a_timesRight, Value.ref a_rightStep, Value.ref a_rightOf, Value.ref a_rightSign])), (a_seenStep, Sum.inl (k_a_seenStep, 8, Sum.inl f_a_seenStep))]) [0, 1] (by decide) rfl
      exact W.zret (v := 0) hx hb hr rfl (fun t ht hW => ⟨⟨0, 0, rfl, rfl, (Or.inl rfl), by rw [ht]; exact hP9, hD9⟩, hS.F ht⟩) hS.2.2 dX1_canCorrect_27
    · have c29 := i32_nle c2 rfl rfl
      refine lv_iload_n hx hb dX1_canCorrect_12 rfl (lv_at hl 1 rfl) ?_
      refine lv_aload_n hx hb dX1_canCorrect_13 rfl (lv_at hl 0 rfl) ?_
      refine va_get (D := (dC, dI)) (ci := 1) (v := Value.ref a_seenStep) (C := RX1) (T := TX1) (N := 9) hx hb hts iw_X1_canCorrect_X1 hown hK hP 0 rfl rfl 3 (by decide) (hts _ kk_X1_canCorrect_1) (fun _ h9 => h9) rfl dX1_canCorrect_14 ?_
      refine lv_iload_n hx hb dX1_canCorrect_17 rfl (lv_at hl 2 rfl) ?_
      refine va_iald hx hb hK hP 1 0 rfl rfl (vq_in p1 8 (by omega)) dX1_canCorrect_18 ?_
      refine lv_topi (fun x3 ex3 => ?_)
      have bp0 := i32_rng p0
      have bx3 := i32_rng x3
      refine lv_icmp_le (tgt := 26) hx hb dX1_canCorrect_19 (by decide) (fun c4 => ?_) (fun c4 => ?_)
      · have c49 := i32_le c4 rfl rfl
        refine lv_iconst (v := 0) hx hb dX1_canCorrect_26 (by decide) ?_
        have hP9 := hP.sub (ws' := [(o, Sum.inr (1, [Value.int v_seen, Value.int v_rights, Value.int v_latestStep, Value.ref a_seenStep, Value.ref a_seenSign, Value.ref a_timesRight, Value.ref a_rightStep, Value.ref a_rightOf, Value.ref a_rightSign])), (a_seenStep, Sum.inl (k_a_seenStep, 8, Sum.inl f_a_seenStep))]) [0, 1] rfl
        have hD9 := hD.sub (ws' := [(o, Sum.inr (1, [Value.int v_seen, Value.int v_rights, Value.int v_latestStep, Value.ref a_seenStep, Value.ref a_seenSign, Value.ref a_timesRight, Value.ref a_rightStep, Value.ref a_rightOf, Value.ref a_rightSign])), (a_seenStep, Sum.inl (k_a_seenStep, 8, Sum.inl f_a_seenStep))]) [0, 1] (by decide) rfl
        exact W.zret (v := 0) hx hb hr rfl (fun t ht hW => ⟨⟨0, 0, rfl, rfl, (Or.inl rfl), by rw [ht]; exact hP9, hD9⟩, hS.F ht⟩) hS.2.2 dX1_canCorrect_27
      · have c49 := i32_nle c4 rfl rfl
        refine lv_iconst (v := 1) hx hb dX1_canCorrect_22 (by decide) ?_
        refine lv_goto (tgt := 27) hx hb dX1_canCorrect_23 (by decide) ?_
        have hP9 := hP.sub (ws' := [(o, Sum.inr (1, [Value.int v_seen, Value.int v_rights, Value.int v_latestStep, Value.ref a_seenStep, Value.ref a_seenSign, Value.ref a_timesRight, Value.ref a_rightStep, Value.ref a_rightOf, Value.ref a_rightSign])), (a_seenStep, Sum.inl (k_a_seenStep, 8, Sum.inl f_a_seenStep))]) [0, 1] rfl
        have hD9 := hD.sub (ws' := [(o, Sum.inr (1, [Value.int v_seen, Value.int v_rights, Value.int v_latestStep, Value.ref a_seenStep, Value.ref a_seenSign, Value.ref a_timesRight, Value.ref a_rightStep, Value.ref a_rightOf, Value.ref a_rightSign])), (a_seenStep, Sum.inl (k_a_seenStep, 8, Sum.inl f_a_seenStep))]) [0, 1] (by decide) rfl
        exact W.zret (v := 1) hx hb hr rfl (fun t ht hW => ⟨⟨1, 1, rfl, rfl, (Or.inr (⟨rfl, (by first | assumption | omega), (by first | assumption | omega)⟩)), by rw [ht]; exact hP9, hD9⟩, hS.F ht⟩) hS.2.2 dX1_canCorrect_27

set_option maxHeartbeats 4000000 in
set_option maxRecDepth 100000 in
theorem ct_X1_write (l : Launch) (dC : Nat → ClassId) (dI : Nat → Nat → Nat) (o : Nat) (p0 : Int32) (p1 : Int32) (v_seen : Int32) (v_rights : Int32) (v_latestStep : Int32) (a_seenStep : Nat) (a_seenSign : Nat) (a_timesRight : Nat) (a_rightStep : Nat) (a_rightOf : Nat) (a_rightSign : Nat) (k_a_seenStep : ClassId) (f_a_seenStep : Nat → Int32) (k_a_seenSign : ClassId) (f_a_seenSign : Nat → Int32) (k_a_timesRight : ClassId) (f_a_timesRight : Nat → Int32) (hp1 : iv p1 0 3) (hv_seen : iv v_seen 0 8) (hf_a_seenSign : ivf f_a_seenSign 0 3) (sz : Nat) : Met l yX1_write wsX1_write ({ frames := 0, cells := 0, slots := 0, locals := 0 }) (va_Pc [Value.ref o, Value.int p0, Value.int p1] (fun U => U.heap.size = sz ∧ va_P (dC, dI) vwCl [(o, Sum.inr (1, [Value.int v_seen, Value.int v_rights, Value.int v_latestStep, Value.ref a_seenStep, Value.ref a_seenSign, Value.ref a_timesRight, Value.ref a_rightStep, Value.ref a_rightOf, Value.ref a_rightSign])), (a_seenStep, Sum.inl (k_a_seenStep, 8, Sum.inl f_a_seenStep)), (a_seenSign, Sum.inl (k_a_seenSign, 8, Sum.inl f_a_seenSign)), (a_timesRight, Sum.inl (k_a_timesRight, 8, Sum.inl f_a_timesRight))] U.heap ∧ va_K (dC, dI) vwCl [(k_a_seenStep, FieldType.int), (k_a_seenSign, FieldType.int), (k_a_timesRight, FieldType.int)] U ∧ va_D (fun _ => True) [(o, Sum.inr (1, [Value.int v_seen, Value.int v_rights, Value.int v_latestStep, Value.ref a_seenStep, Value.ref a_seenSign, Value.ref a_timesRight, Value.ref a_rightStep, Value.ref a_rightOf, Value.ref a_rightSign])), (a_seenStep, Sum.inl (k_a_seenStep, 8, Sum.inl f_a_seenStep)), (a_seenSign, Sum.inl (k_a_seenSign, 8, Sum.inl f_a_seenSign)), (a_timesRight, Sum.inl (k_a_timesRight, 8, Sum.inl f_a_timesRight))])) (va_Qi (fun (r u : Int32) => u = r) (fun (r : Int32) t => ∃ (e_v_seen : Int32) (e_v_latestStep : Int32) (e_f_a_seenStep : Nat → Int32) (e_f_a_seenSign : Nat → Int32) (e_f_a_timesRight : Nat → Int32), iv e_v_seen 0 8 ∧ ivf e_f_a_seenSign 0 3 ∧ iv r (-3) 7 ∧ va_P (dC, dI) vwCl [(o, Sum.inr (1, [Value.int e_v_seen, Value.int v_rights, Value.int e_v_latestStep, Value.ref a_seenStep, Value.ref a_seenSign, Value.ref a_timesRight, Value.ref a_rightStep, Value.ref a_rightOf, Value.ref a_rightSign])), (a_seenStep, Sum.inl (k_a_seenStep, 8, Sum.inl e_f_a_seenStep)), (a_seenSign, Sum.inl (k_a_seenSign, 8, Sum.inl e_f_a_seenSign)), (a_timesRight, Sum.inl (k_a_timesRight, 8, Sum.inl e_f_a_timesRight))] t.heap ∧ va_D (va_A [(o, Sum.inr (1, [Value.int v_seen, Value.int v_rights, Value.int v_latestStep, Value.ref a_seenStep, Value.ref a_seenSign, Value.ref a_timesRight, Value.ref a_rightStep, Value.ref a_rightOf, Value.ref a_rightSign])), (a_seenStep, Sum.inl (k_a_seenStep, 8, Sum.inl f_a_seenStep)), (a_seenSign, Sum.inl (k_a_seenSign, 8, Sum.inl f_a_seenSign)), (a_timesRight, Sum.inl (k_a_timesRight, 8, Sum.inl f_a_timesRight))] sz) [(o, Sum.inr (1, [Value.int e_v_seen, Value.int v_rights, Value.int e_v_latestStep, Value.ref a_seenStep, Value.ref a_seenSign, Value.ref a_timesRight, Value.ref a_rightStep, Value.ref a_rightOf, Value.ref a_rightSign])), (a_seenStep, Sum.inl (k_a_seenStep, 8, Sum.inl e_f_a_seenStep)), (a_seenSign, Sum.inl (k_a_seenSign, 8, Sum.inl e_f_a_seenSign)), (a_timesRight, Sum.inl (k_a_timesRight, 8, Sum.inl e_f_a_timesRight))]) (va_A [(o, Sum.inr (1, [Value.int v_seen, Value.int v_rights, Value.int v_latestStep, Value.ref a_seenStep, Value.ref a_seenSign, Value.ref a_timesRight, Value.ref a_rightStep, Value.ref a_rightOf, Value.ref a_rightSign])), (a_seenStep, Sum.inl (k_a_seenStep, 8, Sum.inl f_a_seenStep)), (a_seenSign, Sum.inl (k_a_seenSign, 8, Sum.inl f_a_seenSign)), (a_timesRight, Sum.inl (k_a_timesRight, 8, Sum.inl f_a_timesRight))] sz)) 0 0 (va_A [(o, Sum.inr (1, [Value.int v_seen, Value.int v_rights, Value.int v_latestStep, Value.ref a_seenStep, Value.ref a_seenSign, Value.ref a_timesRight, Value.ref a_rightStep, Value.ref a_rightOf, Value.ref a_rightSign])), (a_seenStep, Sum.inl (k_a_seenStep, 8, Sum.inl f_a_seenStep)), (a_seenSign, Sum.inl (k_a_seenSign, 8, Sum.inl f_a_seenSign)), (a_timesRight, Sum.inl (k_a_timesRight, 8, Sum.inl f_a_timesRight))] sz) := by
  refine Met.ofW (cc := cX1_write) (maxL := 3) (ret := (some .int)) pn_X1 rfl ?_
  intro p e s m args below meth c s₁ B hml hv
  obtain ⟨rfl, hsz, hP, hK, hD0⟩ := hv
  have hx := B.exec
  have hb := B.bytes
  have hr := B.returns
  have hts := atoms_spec (ws := wsX1_write) B.pre
  have hown : s.vm.findClass RX1 = some m.cls := findClass_of_methodNamed B.named
  have hlocks := B.notSynchronized
  subst hsz
  have hD := hD0.self (sz := s.heap.size)
  generalize hAe : va_A [(o, Sum.inr (1, [Value.int v_seen, Value.int v_rights, Value.int v_latestStep, Value.ref a_seenStep, Value.ref a_seenSign, Value.ref a_timesRight, Value.ref a_rightStep, Value.ref a_rightOf, Value.ref a_rightSign])), (a_seenStep, Sum.inl (k_a_seenStep, 8, Sum.inl f_a_seenStep)), (a_seenSign, Sum.inl (k_a_seenSign, 8, Sum.inl f_a_seenSign)), (a_timesRight, Sum.inl (k_a_timesRight, 8, Sum.inl f_a_timesRight))] s.heap.size = A at hD ⊢
  have hA : ∀ q : Nat, s.heap.size ≤ q → A q := fun q h => by rw [← hAe]; exact Or.inr h
  have hS : va_S A s.heap s.heap [] := va_S.rf
  have hP : va_P (dC, dI) vwCl [(o, Sum.inr (1, [Value.int v_seen, Value.int v_rights, Value.int v_latestStep, Value.ref a_seenStep, Value.ref a_seenSign, Value.ref a_timesRight, Value.ref a_rightStep, Value.ref a_rightOf, Value.ref a_rightSign])), (a_seenStep, Sum.inl (k_a_seenStep, 8, Sum.inl f_a_seenStep)), (a_seenSign, Sum.inl (k_a_seenSign, 8, Sum.inl f_a_seenSign)), (a_timesRight, Sum.inl (k_a_timesRight, 8, Sum.inl f_a_timesRight))] s.heap := hP
  have hl := lv_entry ([Value.ref o, Value.int p0, Value.int p1]) (n := 3) (Nat.le_of_ble_eq_true rfl)
  rw [lg_entry_eq]
  generalize (lg_sl ([Value.ref o, Value.int p0, Value.int p1]) ++ List.replicate (3 - (lg_sl ([Value.ref o, Value.int p0, Value.int p1])).length) Slot.unset).toArray = ls at hl ⊢
  have hl : lv_has ls 3 [(0, Value.ref o), (1, Value.int p0), (2, Value.int p1)] := hl
  refine lv_aload_n hx hb dX1_write_0 rfl (lv_at hl 0 rfl) ?_
  refine va_get (D := (dC, dI)) (ci := 1) (v := Value.int v_seen) (C := RX1) (T := TX1) (N := 9) hx hb hts iw_X1_write_X1 hown hK hP 0 rfl rfl 0 (by decide) (hts _ kk_X1_write_0) (fun _ h9 => h9) rfl dX1_write_1 ?_
  refine lv_bipush (v := 8) hx hb dX1_write_4 (by decide) ?_
  have bv_seen := hv_seen.u
  refine lv_icmp_lt (tgt := 12) hx hb dX1_write_6 (by decide) (fun c1 => ?_) (fun c1 => ?_)
  · have c19 := i32_lt c1 rfl (show (8 : Int32).toInt = 8 by decide)
    refine lv_aload_n hx hb dX1_write_12 rfl (lv_at hl 0 rfl) ?_
    refine lv_iload_n hx hb dX1_write_13 rfl (lv_at hl 1 rfl) ?_
    refine va_put (D := (dC, dI)) (ci := 1) (v := Value.int p0) (ty := FieldType.int) (C := RX1) (T := TX1) (N := 9) hx hb hts iw_X1_write_X1 tyX1 tyX1_ok nmX1 hown hK hP hD hS 0 rfl rfl 2 (by decide) (hts _ kk_X1_write_1) (fun _ h9 => h9) rfl (by decide +kernel) rfl rfl (Nat.le_of_ble_eq_true rfl) dX1_write_14 (fun H locs hP hD hS => ?_)
    have hP : va_P (dC, dI) vwCl [(o, Sum.inr (1, [Value.int v_seen, Value.int v_rights, Value.int p0, Value.ref a_seenStep, Value.ref a_seenSign, Value.ref a_timesRight, Value.ref a_rightStep, Value.ref a_rightOf, Value.ref a_rightSign])), (a_seenStep, Sum.inl (k_a_seenStep, 8, Sum.inl f_a_seenStep)), (a_seenSign, Sum.inl (k_a_seenSign, 8, Sum.inl f_a_seenSign)), (a_timesRight, Sum.inl (k_a_timesRight, 8, Sum.inl f_a_timesRight))] H := hP
    have hD : va_D A [(o, Sum.inr (1, [Value.int v_seen, Value.int v_rights, Value.int p0, Value.ref a_seenStep, Value.ref a_seenSign, Value.ref a_timesRight, Value.ref a_rightStep, Value.ref a_rightOf, Value.ref a_rightSign])), (a_seenStep, Sum.inl (k_a_seenStep, 8, Sum.inl f_a_seenStep)), (a_seenSign, Sum.inl (k_a_seenSign, 8, Sum.inl f_a_seenSign)), (a_timesRight, Sum.inl (k_a_timesRight, 8, Sum.inl f_a_timesRight))] := hD
    refine lv_aload_n hx hb dX1_write_17 rfl (lv_at hl 0 rfl) ?_
    refine va_get (D := (dC, dI)) (ci := 1) (v := Value.ref a_seenStep) (C := RX1) (T := TX1) (N := 9) hx hb hts iw_X1_write_X1 hown hK hP 0 rfl rfl 3 (by decide) (hts _ kk_X1_write_2) (fun _ h9 => h9) rfl dX1_write_18 ?_
    refine lv_aload_n hx hb dX1_write_21 rfl (lv_at hl 0 rfl) ?_
    refine va_get (D := (dC, dI)) (ci := 1) (v := Value.int v_seen) (C := RX1) (T := TX1) (N := 9) hx hb hts iw_X1_write_X1 hown hK hP 0 rfl rfl 0 (by decide) (hts _ kk_X1_write_0) (fun _ h9 => h9) rfl dX1_write_22 ?_
    refine lv_iload_n hx hb dX1_write_25 rfl (lv_at hl 1 rfl) ?_
    refine va_iast hx hb hK hP hD hS 1 0 rfl rfl (vq_in v_seen 8 (by omega)) dX1_write_26 (fun H locs hP hD hS => ?_)
    have hP : va_P (dC, dI) vwCl [(o, Sum.inr (1, [Value.int v_seen, Value.int v_rights, Value.int p0, Value.ref a_seenStep, Value.ref a_seenSign, Value.ref a_timesRight, Value.ref a_rightStep, Value.ref a_rightOf, Value.ref a_rightSign])), (a_seenStep, Sum.inl (k_a_seenStep, 8, Sum.inl (upd f_a_seenStep (Int32.toNatClampNeg v_seen) p0))), (a_seenSign, Sum.inl (k_a_seenSign, 8, Sum.inl f_a_seenSign)), (a_timesRight, Sum.inl (k_a_timesRight, 8, Sum.inl f_a_timesRight))] H := hP
    have hD : va_D A [(o, Sum.inr (1, [Value.int v_seen, Value.int v_rights, Value.int p0, Value.ref a_seenStep, Value.ref a_seenSign, Value.ref a_timesRight, Value.ref a_rightStep, Value.ref a_rightOf, Value.ref a_rightSign])), (a_seenStep, Sum.inl (k_a_seenStep, 8, Sum.inl (upd f_a_seenStep (Int32.toNatClampNeg v_seen) p0))), (a_seenSign, Sum.inl (k_a_seenSign, 8, Sum.inl f_a_seenSign)), (a_timesRight, Sum.inl (k_a_timesRight, 8, Sum.inl f_a_timesRight))] := hD
    have wf2 : (upd f_a_seenStep (Int32.toNatClampNeg v_seen) p0) (Int32.toNatClampNeg v_seen) = p0 := pk_us
    generalize upd f_a_seenStep (Int32.toNatClampNeg v_seen) p0 = f2 at hP hD wf2
    have hP : va_P (dC, dI) vwCl [(o, Sum.inr (1, [Value.int v_seen, Value.int v_rights, Value.int p0, Value.ref a_seenStep, Value.ref a_seenSign, Value.ref a_timesRight, Value.ref a_rightStep, Value.ref a_rightOf, Value.ref a_rightSign])), (a_seenStep, Sum.inl (k_a_seenStep, 8, Sum.inl f2)), (a_seenSign, Sum.inl (k_a_seenSign, 8, Sum.inl f_a_seenSign)), (a_timesRight, Sum.inl (k_a_timesRight, 8, Sum.inl f_a_timesRight))] H := hP
    have hD : va_D A [(o, Sum.inr (1, [Value.int v_seen, Value.int v_rights, Value.int p0, Value.ref a_seenStep, Value.ref a_seenSign, Value.ref a_timesRight, Value.ref a_rightStep, Value.ref a_rightOf, Value.ref a_rightSign])), (a_seenStep, Sum.inl (k_a_seenStep, 8, Sum.inl f2)), (a_seenSign, Sum.inl (k_a_seenSign, 8, Sum.inl f_a_seenSign)), (a_timesRight, Sum.inl (k_a_timesRight, 8, Sum.inl f_a_timesRight))] := hD
    refine lv_aload_n hx hb dX1_write_27 rfl (lv_at hl 0 rfl) ?_
    refine va_get (D := (dC, dI)) (ci := 1) (v := Value.ref a_seenSign) (C := RX1) (T := TX1) (N := 9) hx hb hts iw_X1_write_X1 hown hK hP 0 rfl rfl 4 (by decide) (hts _ kk_X1_write_3) (fun _ h9 => h9) rfl dX1_write_28 ?_
    refine lv_aload_n hx hb dX1_write_31 rfl (lv_at hl 0 rfl) ?_
    refine va_get (D := (dC, dI)) (ci := 1) (v := Value.int v_seen) (C := RX1) (T := TX1) (N := 9) hx hb hts iw_X1_write_X1 hown hK hP 0 rfl rfl 0 (by decide) (hts _ kk_X1_write_0) (fun _ h9 => h9) rfl dX1_write_32 ?_
    refine lv_iload_n hx hb dX1_write_35 rfl (lv_at hl 2 rfl) ?_
    refine va_iast hx hb hK hP hD hS 2 1 rfl rfl (vq_in v_seen 8 (by omega)) dX1_write_36 (fun H locs hP hD hS => ?_)
    have hP : va_P (dC, dI) vwCl [(o, Sum.inr (1, [Value.int v_seen, Value.int v_rights, Value.int p0, Value.ref a_seenStep, Value.ref a_seenSign, Value.ref a_timesRight, Value.ref a_rightStep, Value.ref a_rightOf, Value.ref a_rightSign])), (a_seenStep, Sum.inl (k_a_seenStep, 8, Sum.inl f2)), (a_seenSign, Sum.inl (k_a_seenSign, 8, Sum.inl (upd f_a_seenSign (Int32.toNatClampNeg v_seen) p1))), (a_timesRight, Sum.inl (k_a_timesRight, 8, Sum.inl f_a_timesRight))] H := hP
    have hD : va_D A [(o, Sum.inr (1, [Value.int v_seen, Value.int v_rights, Value.int p0, Value.ref a_seenStep, Value.ref a_seenSign, Value.ref a_timesRight, Value.ref a_rightStep, Value.ref a_rightOf, Value.ref a_rightSign])), (a_seenStep, Sum.inl (k_a_seenStep, 8, Sum.inl f2)), (a_seenSign, Sum.inl (k_a_seenSign, 8, Sum.inl (upd f_a_seenSign (Int32.toNatClampNeg v_seen) p1))), (a_timesRight, Sum.inl (k_a_timesRight, 8, Sum.inl f_a_timesRight))] := hD
    have hf3 : ivf (upd f_a_seenSign (Int32.toNatClampNeg v_seen) p1) 0 3 := ivf.up hf_a_seenSign hp1 _
    have wf3 : (upd f_a_seenSign (Int32.toNatClampNeg v_seen) p1) (Int32.toNatClampNeg v_seen) = p1 := pk_us
    generalize upd f_a_seenSign (Int32.toNatClampNeg v_seen) p1 = f3 at hP hD hf3 wf3
    have hP : va_P (dC, dI) vwCl [(o, Sum.inr (1, [Value.int v_seen, Value.int v_rights, Value.int p0, Value.ref a_seenStep, Value.ref a_seenSign, Value.ref a_timesRight, Value.ref a_rightStep, Value.ref a_rightOf, Value.ref a_rightSign])), (a_seenStep, Sum.inl (k_a_seenStep, 8, Sum.inl f2)), (a_seenSign, Sum.inl (k_a_seenSign, 8, Sum.inl f3)), (a_timesRight, Sum.inl (k_a_timesRight, 8, Sum.inl f_a_timesRight))] H := hP
    have hD : va_D A [(o, Sum.inr (1, [Value.int v_seen, Value.int v_rights, Value.int p0, Value.ref a_seenStep, Value.ref a_seenSign, Value.ref a_timesRight, Value.ref a_rightStep, Value.ref a_rightOf, Value.ref a_rightSign])), (a_seenStep, Sum.inl (k_a_seenStep, 8, Sum.inl f2)), (a_seenSign, Sum.inl (k_a_seenSign, 8, Sum.inl f3)), (a_timesRight, Sum.inl (k_a_timesRight, 8, Sum.inl f_a_timesRight))] := hD
    refine lv_aload_n hx hb dX1_write_37 rfl (lv_at hl 0 rfl) ?_
    refine va_get (D := (dC, dI)) (ci := 1) (v := Value.ref a_timesRight) (C := RX1) (T := TX1) (N := 9) hx hb hts iw_X1_write_X1 hown hK hP 0 rfl rfl 5 (by decide) (hts _ kk_X1_write_4) (fun _ h9 => h9) rfl dX1_write_38 ?_
    refine lv_aload_n hx hb dX1_write_41 rfl (lv_at hl 0 rfl) ?_
    refine va_get (D := (dC, dI)) (ci := 1) (v := Value.int v_seen) (C := RX1) (T := TX1) (N := 9) hx hb hts iw_X1_write_X1 hown hK hP 0 rfl rfl 0 (by decide) (hts _ kk_X1_write_0) (fun _ h9 => h9) rfl dX1_write_42 ?_
    refine lv_iconst (v := 0) hx hb dX1_write_45 (by decide) ?_
    refine va_iast hx hb hK hP hD hS 3 2 rfl rfl (vq_in v_seen 8 (by omega)) dX1_write_46 (fun H locs hP hD hS => ?_)
    have hP : va_P (dC, dI) vwCl [(o, Sum.inr (1, [Value.int v_seen, Value.int v_rights, Value.int p0, Value.ref a_seenStep, Value.ref a_seenSign, Value.ref a_timesRight, Value.ref a_rightStep, Value.ref a_rightOf, Value.ref a_rightSign])), (a_seenStep, Sum.inl (k_a_seenStep, 8, Sum.inl f2)), (a_seenSign, Sum.inl (k_a_seenSign, 8, Sum.inl f3)), (a_timesRight, Sum.inl (k_a_timesRight, 8, Sum.inl (upd f_a_timesRight (Int32.toNatClampNeg v_seen) 0)))] H := hP
    have hD : va_D A [(o, Sum.inr (1, [Value.int v_seen, Value.int v_rights, Value.int p0, Value.ref a_seenStep, Value.ref a_seenSign, Value.ref a_timesRight, Value.ref a_rightStep, Value.ref a_rightOf, Value.ref a_rightSign])), (a_seenStep, Sum.inl (k_a_seenStep, 8, Sum.inl f2)), (a_seenSign, Sum.inl (k_a_seenSign, 8, Sum.inl f3)), (a_timesRight, Sum.inl (k_a_timesRight, 8, Sum.inl (upd f_a_timesRight (Int32.toNatClampNeg v_seen) 0)))] := hD
    have wf4 : (upd f_a_timesRight (Int32.toNatClampNeg v_seen) 0) (Int32.toNatClampNeg v_seen) = 0 := pk_us
    generalize upd f_a_timesRight (Int32.toNatClampNeg v_seen) 0 = f4 at hP hD wf4
    have hP : va_P (dC, dI) vwCl [(o, Sum.inr (1, [Value.int v_seen, Value.int v_rights, Value.int p0, Value.ref a_seenStep, Value.ref a_seenSign, Value.ref a_timesRight, Value.ref a_rightStep, Value.ref a_rightOf, Value.ref a_rightSign])), (a_seenStep, Sum.inl (k_a_seenStep, 8, Sum.inl f2)), (a_seenSign, Sum.inl (k_a_seenSign, 8, Sum.inl f3)), (a_timesRight, Sum.inl (k_a_timesRight, 8, Sum.inl f4))] H := hP
    have hD : va_D A [(o, Sum.inr (1, [Value.int v_seen, Value.int v_rights, Value.int p0, Value.ref a_seenStep, Value.ref a_seenSign, Value.ref a_timesRight, Value.ref a_rightStep, Value.ref a_rightOf, Value.ref a_rightSign])), (a_seenStep, Sum.inl (k_a_seenStep, 8, Sum.inl f2)), (a_seenSign, Sum.inl (k_a_seenSign, 8, Sum.inl f3)), (a_timesRight, Sum.inl (k_a_timesRight, 8, Sum.inl f4))] := hD
    refine lv_aload_n hx hb dX1_write_47 rfl (lv_at hl 0 rfl) ?_
    refine lv_dup hx hb dX1_write_48 rfl ?_
    refine va_get (D := (dC, dI)) (ci := 1) (v := Value.int v_seen) (C := RX1) (T := TX1) (N := 9) hx hb hts iw_X1_write_X1 hown hK hP 0 rfl rfl 0 (by decide) (hts _ kk_X1_write_0) (fun _ h9 => h9) rfl dX1_write_49 ?_
    refine lv_iconst (v := 1) hx hb dX1_write_52 (by decide) ?_
    refine lv_iadd hx hb dX1_write_53 ?_
    refine lv_topi (fun x5 ex5 => ?_)
    have tx5 := i32_add ex5 rfl (show (1 : Int32).toInt = 1 by decide) (by omega) (by omega)
    refine va_put (D := (dC, dI)) (ci := 1) (v := Value.int x5) (ty := FieldType.int) (C := RX1) (T := TX1) (N := 9) hx hb hts iw_X1_write_X1 tyX1 tyX1_ok nmX1 hown hK hP hD hS 0 rfl rfl 0 (by decide) (hts _ kk_X1_write_0) (fun _ h9 => h9) rfl (by decide +kernel) rfl rfl (Nat.le_of_ble_eq_true rfl) dX1_write_54 (fun H locs hP hD hS => ?_)
    have hP : va_P (dC, dI) vwCl [(o, Sum.inr (1, [Value.int x5, Value.int v_rights, Value.int p0, Value.ref a_seenStep, Value.ref a_seenSign, Value.ref a_timesRight, Value.ref a_rightStep, Value.ref a_rightOf, Value.ref a_rightSign])), (a_seenStep, Sum.inl (k_a_seenStep, 8, Sum.inl f2)), (a_seenSign, Sum.inl (k_a_seenSign, 8, Sum.inl f3)), (a_timesRight, Sum.inl (k_a_timesRight, 8, Sum.inl f4))] H := hP
    have hD : va_D A [(o, Sum.inr (1, [Value.int x5, Value.int v_rights, Value.int p0, Value.ref a_seenStep, Value.ref a_seenSign, Value.ref a_timesRight, Value.ref a_rightStep, Value.ref a_rightOf, Value.ref a_rightSign])), (a_seenStep, Sum.inl (k_a_seenStep, 8, Sum.inl f2)), (a_seenSign, Sum.inl (k_a_seenSign, 8, Sum.inl f3)), (a_timesRight, Sum.inl (k_a_timesRight, 8, Sum.inl f4))] := hD
    refine lv_aload_n hx hb dX1_write_57 rfl (lv_at hl 0 rfl) ?_
    refine va_get (D := (dC, dI)) (ci := 1) (v := Value.int x5) (C := RX1) (T := TX1) (N := 9) hx hb hts iw_X1_write_X1 hown hK hP 0 rfl rfl 0 (by decide) (hts _ kk_X1_write_0) (fun _ h9 => h9) rfl dX1_write_58 ?_
    refine lv_iconst (v := 1) hx hb dX1_write_61 (by decide) ?_
    refine lv_isub hx hb dX1_write_62 ?_
    refine lv_topi (fun x6 ex6 => ?_)
    have tx6 := i32_sub ex6 rfl (show (1 : Int32).toInt = 1 by decide) (by omega) (by omega)
    have hP9 := hP.sub (ws' := [(o, Sum.inr (1, [Value.int x5, Value.int v_rights, Value.int p0, Value.ref a_seenStep, Value.ref a_seenSign, Value.ref a_timesRight, Value.ref a_rightStep, Value.ref a_rightOf, Value.ref a_rightSign])), (a_seenStep, Sum.inl (k_a_seenStep, 8, Sum.inl f2)), (a_seenSign, Sum.inl (k_a_seenSign, 8, Sum.inl f3)), (a_timesRight, Sum.inl (k_a_timesRight, 8, Sum.inl f4))]) [0, 1, 2, 3] rfl
    have hD9 := hD.sub (ws' := [(o, Sum.inr (1, [Value.int x5, Value.int v_rights, Value.int p0, Value.ref a_seenStep, Value.ref a_seenSign, Value.ref a_timesRight, Value.ref a_rightStep, Value.ref a_rightOf, Value.ref a_rightSign])), (a_seenStep, Sum.inl (k_a_seenStep, 8, Sum.inl f2)), (a_seenSign, Sum.inl (k_a_seenSign, 8, Sum.inl f3)), (a_timesRight, Sum.inl (k_a_timesRight, 8, Sum.inl f4))]) [0, 1, 2, 3] (by decide) rfl
    exact W.iret (v := x6) hx hb hr (fun t ht hW => ⟨⟨x6, x6, rfl, rfl, x5, p0, f2, f3, f4, (iv.m (by omega)), hf3, (iv.m (by omega)), by rw [ht]; exact hP9, hD9⟩, hS.F ht⟩) hS.2.2 dX1_write_63
  · have c19 := i32_nlt c1 rfl (show (8 : Int32).toInt = 8 by decide)
    refine lv_bipush (v := (-3)) hx hb dX1_write_9 (by decide) ?_
    have hP9 := hP.sub (ws' := [(o, Sum.inr (1, [Value.int v_seen, Value.int v_rights, Value.int v_latestStep, Value.ref a_seenStep, Value.ref a_seenSign, Value.ref a_timesRight, Value.ref a_rightStep, Value.ref a_rightOf, Value.ref a_rightSign])), (a_seenStep, Sum.inl (k_a_seenStep, 8, Sum.inl f_a_seenStep)), (a_seenSign, Sum.inl (k_a_seenSign, 8, Sum.inl f_a_seenSign)), (a_timesRight, Sum.inl (k_a_timesRight, 8, Sum.inl f_a_timesRight))]) [0, 1, 2, 3] rfl
    have hD9 := hD.sub (ws' := [(o, Sum.inr (1, [Value.int v_seen, Value.int v_rights, Value.int v_latestStep, Value.ref a_seenStep, Value.ref a_seenSign, Value.ref a_timesRight, Value.ref a_rightStep, Value.ref a_rightOf, Value.ref a_rightSign])), (a_seenStep, Sum.inl (k_a_seenStep, 8, Sum.inl f_a_seenStep)), (a_seenSign, Sum.inl (k_a_seenSign, 8, Sum.inl f_a_seenSign)), (a_timesRight, Sum.inl (k_a_timesRight, 8, Sum.inl f_a_timesRight))]) [0, 1, 2, 3] (by decide) rfl
    exact W.iret (v := (-3)) hx hb hr (fun t ht hW => ⟨⟨(-3), (-3), rfl, rfl, v_seen, v_latestStep, f_a_seenStep, f_a_seenSign, f_a_timesRight, (iv.m (by omega)), hf_a_seenSign, (iv.m (by decide)), by rw [ht]; exact hP9, hD9⟩, hS.F ht⟩) hS.2.2 dX1_write_11

set_option maxHeartbeats 4000000 in
set_option maxRecDepth 100000 in
theorem ct_X1_correct (l : Launch) (dC : Nat → ClassId) (dI : Nat → Nat → Nat) (o : Nat) (p0 : Int32) (p1 : Int32) (p2 : Int32) (v_seen : Int32) (v_rights : Int32) (v_latestStep : Int32) (a_seenStep : Nat) (a_seenSign : Nat) (a_timesRight : Nat) (a_rightStep : Nat) (a_rightOf : Nat) (a_rightSign : Nat) (k_a_timesRight : ClassId) (f_a_timesRight : Nat → Int32) (k_a_rightStep : ClassId) (f_a_rightStep : Nat → Int32) (k_a_rightOf : ClassId) (f_a_rightOf : Nat → Int32) (k_a_rightSign : ClassId) (f_a_rightSign : Nat → Int32) (hp1 : iv p1 0 7) (hp2 : iv p2 0 3) (hv_rights : iv v_rights 0 20) (hf_a_rightSign : ivf f_a_rightSign 0 3) (sz : Nat) : Met l yX1_correct wsX1_correct ({ frames := 0, cells := 0, slots := 0, locals := 0 }) (va_Pc [Value.ref o, Value.int p0, Value.int p1, Value.int p2] (fun U => U.heap.size = sz ∧ va_P (dC, dI) vwCl [(o, Sum.inr (1, [Value.int v_seen, Value.int v_rights, Value.int v_latestStep, Value.ref a_seenStep, Value.ref a_seenSign, Value.ref a_timesRight, Value.ref a_rightStep, Value.ref a_rightOf, Value.ref a_rightSign])), (a_timesRight, Sum.inl (k_a_timesRight, 8, Sum.inl f_a_timesRight)), (a_rightStep, Sum.inl (k_a_rightStep, 20, Sum.inl f_a_rightStep)), (a_rightOf, Sum.inl (k_a_rightOf, 20, Sum.inl f_a_rightOf)), (a_rightSign, Sum.inl (k_a_rightSign, 20, Sum.inl f_a_rightSign))] U.heap ∧ va_K (dC, dI) vwCl [(k_a_timesRight, FieldType.int), (k_a_rightStep, FieldType.int), (k_a_rightOf, FieldType.int), (k_a_rightSign, FieldType.int)] U ∧ va_D (fun _ => True) [(o, Sum.inr (1, [Value.int v_seen, Value.int v_rights, Value.int v_latestStep, Value.ref a_seenStep, Value.ref a_seenSign, Value.ref a_timesRight, Value.ref a_rightStep, Value.ref a_rightOf, Value.ref a_rightSign])), (a_timesRight, Sum.inl (k_a_timesRight, 8, Sum.inl f_a_timesRight)), (a_rightStep, Sum.inl (k_a_rightStep, 20, Sum.inl f_a_rightStep)), (a_rightOf, Sum.inl (k_a_rightOf, 20, Sum.inl f_a_rightOf)), (a_rightSign, Sum.inl (k_a_rightSign, 20, Sum.inl f_a_rightSign))])) (va_Qi (fun (r u : Int32) => u = r) (fun (r : Int32) t => ∃ (e_v_rights : Int32) (e_v_latestStep : Int32) (e_f_a_timesRight : Nat → Int32) (e_f_a_rightStep : Nat → Int32) (e_f_a_rightOf : Nat → Int32) (e_f_a_rightSign : Nat → Int32), iv e_v_rights 0 20 ∧ ivf e_f_a_rightSign 0 3 ∧ va_P (dC, dI) vwCl [(o, Sum.inr (1, [Value.int v_seen, Value.int e_v_rights, Value.int e_v_latestStep, Value.ref a_seenStep, Value.ref a_seenSign, Value.ref a_timesRight, Value.ref a_rightStep, Value.ref a_rightOf, Value.ref a_rightSign])), (a_timesRight, Sum.inl (k_a_timesRight, 8, Sum.inl e_f_a_timesRight)), (a_rightStep, Sum.inl (k_a_rightStep, 20, Sum.inl e_f_a_rightStep)), (a_rightOf, Sum.inl (k_a_rightOf, 20, Sum.inl e_f_a_rightOf)), (a_rightSign, Sum.inl (k_a_rightSign, 20, Sum.inl e_f_a_rightSign))] t.heap ∧ va_D (va_A [(o, Sum.inr (1, [Value.int v_seen, Value.int v_rights, Value.int v_latestStep, Value.ref a_seenStep, Value.ref a_seenSign, Value.ref a_timesRight, Value.ref a_rightStep, Value.ref a_rightOf, Value.ref a_rightSign])), (a_timesRight, Sum.inl (k_a_timesRight, 8, Sum.inl f_a_timesRight)), (a_rightStep, Sum.inl (k_a_rightStep, 20, Sum.inl f_a_rightStep)), (a_rightOf, Sum.inl (k_a_rightOf, 20, Sum.inl f_a_rightOf)), (a_rightSign, Sum.inl (k_a_rightSign, 20, Sum.inl f_a_rightSign))] sz) [(o, Sum.inr (1, [Value.int v_seen, Value.int e_v_rights, Value.int e_v_latestStep, Value.ref a_seenStep, Value.ref a_seenSign, Value.ref a_timesRight, Value.ref a_rightStep, Value.ref a_rightOf, Value.ref a_rightSign])), (a_timesRight, Sum.inl (k_a_timesRight, 8, Sum.inl e_f_a_timesRight)), (a_rightStep, Sum.inl (k_a_rightStep, 20, Sum.inl e_f_a_rightStep)), (a_rightOf, Sum.inl (k_a_rightOf, 20, Sum.inl e_f_a_rightOf)), (a_rightSign, Sum.inl (k_a_rightSign, 20, Sum.inl e_f_a_rightSign))]) (va_A [(o, Sum.inr (1, [Value.int v_seen, Value.int v_rights, Value.int v_latestStep, Value.ref a_seenStep, Value.ref a_seenSign, Value.ref a_timesRight, Value.ref a_rightStep, Value.ref a_rightOf, Value.ref a_rightSign])), (a_timesRight, Sum.inl (k_a_timesRight, 8, Sum.inl f_a_timesRight)), (a_rightStep, Sum.inl (k_a_rightStep, 20, Sum.inl f_a_rightStep)), (a_rightOf, Sum.inl (k_a_rightOf, 20, Sum.inl f_a_rightOf)), (a_rightSign, Sum.inl (k_a_rightSign, 20, Sum.inl f_a_rightSign))] sz)) 0 0 (va_A [(o, Sum.inr (1, [Value.int v_seen, Value.int v_rights, Value.int v_latestStep, Value.ref a_seenStep, Value.ref a_seenSign, Value.ref a_timesRight, Value.ref a_rightStep, Value.ref a_rightOf, Value.ref a_rightSign])), (a_timesRight, Sum.inl (k_a_timesRight, 8, Sum.inl f_a_timesRight)), (a_rightStep, Sum.inl (k_a_rightStep, 20, Sum.inl f_a_rightStep)), (a_rightOf, Sum.inl (k_a_rightOf, 20, Sum.inl f_a_rightOf)), (a_rightSign, Sum.inl (k_a_rightSign, 20, Sum.inl f_a_rightSign))] sz) := by
  refine Met.ofW (cc := cX1_correct) (maxL := 4) (ret := (some .int)) pn_X1 rfl ?_
  intro p e s m args below meth c s₁ B hml hv
  obtain ⟨rfl, hsz, hP, hK, hD0⟩ := hv
  have hx := B.exec
  have hb := B.bytes
  have hr := B.returns
  have hts := atoms_spec (ws := wsX1_correct) B.pre
  have hown : s.vm.findClass RX1 = some m.cls := findClass_of_methodNamed B.named
  have hlocks := B.notSynchronized
  subst hsz
  have hD := hD0.self (sz := s.heap.size)
  generalize hAe : va_A [(o, Sum.inr (1, [Value.int v_seen, Value.int v_rights, Value.int v_latestStep, Value.ref a_seenStep, Value.ref a_seenSign, Value.ref a_timesRight, Value.ref a_rightStep, Value.ref a_rightOf, Value.ref a_rightSign])), (a_timesRight, Sum.inl (k_a_timesRight, 8, Sum.inl f_a_timesRight)), (a_rightStep, Sum.inl (k_a_rightStep, 20, Sum.inl f_a_rightStep)), (a_rightOf, Sum.inl (k_a_rightOf, 20, Sum.inl f_a_rightOf)), (a_rightSign, Sum.inl (k_a_rightSign, 20, Sum.inl f_a_rightSign))] s.heap.size = A at hD ⊢
  have hA : ∀ q : Nat, s.heap.size ≤ q → A q := fun q h => by rw [← hAe]; exact Or.inr h
  have hS : va_S A s.heap s.heap [] := va_S.rf
  have hP : va_P (dC, dI) vwCl [(o, Sum.inr (1, [Value.int v_seen, Value.int v_rights, Value.int v_latestStep, Value.ref a_seenStep, Value.ref a_seenSign, Value.ref a_timesRight, Value.ref a_rightStep, Value.ref a_rightOf, Value.ref a_rightSign])), (a_timesRight, Sum.inl (k_a_timesRight, 8, Sum.inl f_a_timesRight)), (a_rightStep, Sum.inl (k_a_rightStep, 20, Sum.inl f_a_rightStep)), (a_rightOf, Sum.inl (k_a_rightOf, 20, Sum.inl f_a_rightOf)), (a_rightSign, Sum.inl (k_a_rightSign, 20, Sum.inl f_a_rightSign))] s.heap := hP
  have hl := lv_entry ([Value.ref o, Value.int p0, Value.int p1, Value.int p2]) (n := 4) (Nat.le_of_ble_eq_true rfl)
  rw [lg_entry_eq]
  generalize (lg_sl ([Value.ref o, Value.int p0, Value.int p1, Value.int p2]) ++ List.replicate (4 - (lg_sl ([Value.ref o, Value.int p0, Value.int p1, Value.int p2])).length) Slot.unset).toArray = ls at hl ⊢
  have hl : lv_has ls 4 [(0, Value.ref o), (1, Value.int p0), (2, Value.int p1), (3, Value.int p2)] := hl
  refine lv_aload_n hx hb dX1_correct_0 rfl (lv_at hl 0 rfl) ?_
  refine va_get (D := (dC, dI)) (ci := 1) (v := Value.int v_rights) (C := RX1) (T := TX1) (N := 9) hx hb hts iw_X1_correct_X1 hown hK hP 0 rfl rfl 1 (by decide) (hts _ kk_X1_correct_0) (fun _ h9 => h9) rfl dX1_correct_1 ?_
  refine lv_bipush (v := 20) hx hb dX1_correct_4 (by decide) ?_
  have bv_rights := hv_rights.u
  refine lv_icmp_lt (tgt := 12) hx hb dX1_correct_6 (by decide) (fun c1 => ?_) (fun c1 => ?_)
  · have c19 := i32_lt c1 rfl (show (20 : Int32).toInt = 20 by decide)
    refine lv_aload_n hx hb dX1_correct_12 rfl (lv_at hl 0 rfl) ?_
    refine lv_iload_n hx hb dX1_correct_13 rfl (lv_at hl 1 rfl) ?_
    refine va_put (D := (dC, dI)) (ci := 1) (v := Value.int p0) (ty := FieldType.int) (C := RX1) (T := TX1) (N := 9) hx hb hts iw_X1_correct_X1 tyX1 tyX1_ok nmX1 hown hK hP hD hS 0 rfl rfl 2 (by decide) (hts _ kk_X1_correct_1) (fun _ h9 => h9) rfl (by decide +kernel) rfl rfl (Nat.le_of_ble_eq_true rfl) dX1_correct_14 (fun H locs hP hD hS => ?_)
    have hP : va_P (dC, dI) vwCl [(o, Sum.inr (1, [Value.int v_seen, Value.int v_rights, Value.int p0, Value.ref a_seenStep, Value.ref a_seenSign, Value.ref a_timesRight, Value.ref a_rightStep, Value.ref a_rightOf, Value.ref a_rightSign])), (a_timesRight, Sum.inl (k_a_timesRight, 8, Sum.inl f_a_timesRight)), (a_rightStep, Sum.inl (k_a_rightStep, 20, Sum.inl f_a_rightStep)), (a_rightOf, Sum.inl (k_a_rightOf, 20, Sum.inl f_a_rightOf)), (a_rightSign, Sum.inl (k_a_rightSign, 20, Sum.inl f_a_rightSign))] H := hP
    have hD : va_D A [(o, Sum.inr (1, [Value.int v_seen, Value.int v_rights, Value.int p0, Value.ref a_seenStep, Value.ref a_seenSign, Value.ref a_timesRight, Value.ref a_rightStep, Value.ref a_rightOf, Value.ref a_rightSign])), (a_timesRight, Sum.inl (k_a_timesRight, 8, Sum.inl f_a_timesRight)), (a_rightStep, Sum.inl (k_a_rightStep, 20, Sum.inl f_a_rightStep)), (a_rightOf, Sum.inl (k_a_rightOf, 20, Sum.inl f_a_rightOf)), (a_rightSign, Sum.inl (k_a_rightSign, 20, Sum.inl f_a_rightSign))] := hD
    refine lv_aload_n hx hb dX1_correct_17 rfl (lv_at hl 0 rfl) ?_
    refine va_get (D := (dC, dI)) (ci := 1) (v := Value.ref a_rightStep) (C := RX1) (T := TX1) (N := 9) hx hb hts iw_X1_correct_X1 hown hK hP 0 rfl rfl 6 (by decide) (hts _ kk_X1_correct_2) (fun _ h9 => h9) rfl dX1_correct_18 ?_
    refine lv_aload_n hx hb dX1_correct_21 rfl (lv_at hl 0 rfl) ?_
    refine va_get (D := (dC, dI)) (ci := 1) (v := Value.int v_rights) (C := RX1) (T := TX1) (N := 9) hx hb hts iw_X1_correct_X1 hown hK hP 0 rfl rfl 1 (by decide) (hts _ kk_X1_correct_0) (fun _ h9 => h9) rfl dX1_correct_22 ?_
    refine lv_iload_n hx hb dX1_correct_25 rfl (lv_at hl 1 rfl) ?_
    refine va_iast hx hb hK hP hD hS 2 1 rfl rfl (vq_in v_rights 20 (by omega)) dX1_correct_26 (fun H locs hP hD hS => ?_)
    have hP : va_P (dC, dI) vwCl [(o, Sum.inr (1, [Value.int v_seen, Value.int v_rights, Value.int p0, Value.ref a_seenStep, Value.ref a_seenSign, Value.ref a_timesRight, Value.ref a_rightStep, Value.ref a_rightOf, Value.ref a_rightSign])), (a_timesRight, Sum.inl (k_a_timesRight, 8, Sum.inl f_a_timesRight)), (a_rightStep, Sum.inl (k_a_rightStep, 20, Sum.inl (upd f_a_rightStep (Int32.toNatClampNeg v_rights) p0))), (a_rightOf, Sum.inl (k_a_rightOf, 20, Sum.inl f_a_rightOf)), (a_rightSign, Sum.inl (k_a_rightSign, 20, Sum.inl f_a_rightSign))] H := hP
    have hD : va_D A [(o, Sum.inr (1, [Value.int v_seen, Value.int v_rights, Value.int p0, Value.ref a_seenStep, Value.ref a_seenSign, Value.ref a_timesRight, Value.ref a_rightStep, Value.ref a_rightOf, Value.ref a_rightSign])), (a_timesRight, Sum.inl (k_a_timesRight, 8, Sum.inl f_a_timesRight)), (a_rightStep, Sum.inl (k_a_rightStep, 20, Sum.inl (upd f_a_rightStep (Int32.toNatClampNeg v_rights) p0))), (a_rightOf, Sum.inl (k_a_rightOf, 20, Sum.inl f_a_rightOf)), (a_rightSign, Sum.inl (k_a_rightSign, 20, Sum.inl f_a_rightSign))] := hD
    have wf2 : (upd f_a_rightStep (Int32.toNatClampNeg v_rights) p0) (Int32.toNatClampNeg v_rights) = p0 := pk_us
    generalize upd f_a_rightStep (Int32.toNatClampNeg v_rights) p0 = f2 at hP hD wf2
    have hP : va_P (dC, dI) vwCl [(o, Sum.inr (1, [Value.int v_seen, Value.int v_rights, Value.int p0, Value.ref a_seenStep, Value.ref a_seenSign, Value.ref a_timesRight, Value.ref a_rightStep, Value.ref a_rightOf, Value.ref a_rightSign])), (a_timesRight, Sum.inl (k_a_timesRight, 8, Sum.inl f_a_timesRight)), (a_rightStep, Sum.inl (k_a_rightStep, 20, Sum.inl f2)), (a_rightOf, Sum.inl (k_a_rightOf, 20, Sum.inl f_a_rightOf)), (a_rightSign, Sum.inl (k_a_rightSign, 20, Sum.inl f_a_rightSign))] H := hP
    have hD : va_D A [(o, Sum.inr (1, [Value.int v_seen, Value.int v_rights, Value.int p0, Value.ref a_seenStep, Value.ref a_seenSign, Value.ref a_timesRight, Value.ref a_rightStep, Value.ref a_rightOf, Value.ref a_rightSign])), (a_timesRight, Sum.inl (k_a_timesRight, 8, Sum.inl f_a_timesRight)), (a_rightStep, Sum.inl (k_a_rightStep, 20, Sum.inl f2)), (a_rightOf, Sum.inl (k_a_rightOf, 20, Sum.inl f_a_rightOf)), (a_rightSign, Sum.inl (k_a_rightSign, 20, Sum.inl f_a_rightSign))] := hD
    refine lv_aload_n hx hb dX1_correct_27 rfl (lv_at hl 0 rfl) ?_
    refine va_get (D := (dC, dI)) (ci := 1) (v := Value.ref a_rightOf) (C := RX1) (T := TX1) (N := 9) hx hb hts iw_X1_correct_X1 hown hK hP 0 rfl rfl 7 (by decide) (hts _ kk_X1_correct_3) (fun _ h9 => h9) rfl dX1_correct_28 ?_
    refine lv_aload_n hx hb dX1_correct_31 rfl (lv_at hl 0 rfl) ?_
    refine va_get (D := (dC, dI)) (ci := 1) (v := Value.int v_rights) (C := RX1) (T := TX1) (N := 9) hx hb hts iw_X1_correct_X1 hown hK hP 0 rfl rfl 1 (by decide) (hts _ kk_X1_correct_0) (fun _ h9 => h9) rfl dX1_correct_32 ?_
    refine lv_iload_n hx hb dX1_correct_35 rfl (lv_at hl 2 rfl) ?_
    refine va_iast hx hb hK hP hD hS 3 2 rfl rfl (vq_in v_rights 20 (by omega)) dX1_correct_36 (fun H locs hP hD hS => ?_)
    have hP : va_P (dC, dI) vwCl [(o, Sum.inr (1, [Value.int v_seen, Value.int v_rights, Value.int p0, Value.ref a_seenStep, Value.ref a_seenSign, Value.ref a_timesRight, Value.ref a_rightStep, Value.ref a_rightOf, Value.ref a_rightSign])), (a_timesRight, Sum.inl (k_a_timesRight, 8, Sum.inl f_a_timesRight)), (a_rightStep, Sum.inl (k_a_rightStep, 20, Sum.inl f2)), (a_rightOf, Sum.inl (k_a_rightOf, 20, Sum.inl (upd f_a_rightOf (Int32.toNatClampNeg v_rights) p1))), (a_rightSign, Sum.inl (k_a_rightSign, 20, Sum.inl f_a_rightSign))] H := hP
    have hD : va_D A [(o, Sum.inr (1, [Value.int v_seen, Value.int v_rights, Value.int p0, Value.ref a_seenStep, Value.ref a_seenSign, Value.ref a_timesRight, Value.ref a_rightStep, Value.ref a_rightOf, Value.ref a_rightSign])), (a_timesRight, Sum.inl (k_a_timesRight, 8, Sum.inl f_a_timesRight)), (a_rightStep, Sum.inl (k_a_rightStep, 20, Sum.inl f2)), (a_rightOf, Sum.inl (k_a_rightOf, 20, Sum.inl (upd f_a_rightOf (Int32.toNatClampNeg v_rights) p1))), (a_rightSign, Sum.inl (k_a_rightSign, 20, Sum.inl f_a_rightSign))] := hD
    have wf3 : (upd f_a_rightOf (Int32.toNatClampNeg v_rights) p1) (Int32.toNatClampNeg v_rights) = p1 := pk_us
    generalize upd f_a_rightOf (Int32.toNatClampNeg v_rights) p1 = f3 at hP hD wf3
    have hP : va_P (dC, dI) vwCl [(o, Sum.inr (1, [Value.int v_seen, Value.int v_rights, Value.int p0, Value.ref a_seenStep, Value.ref a_seenSign, Value.ref a_timesRight, Value.ref a_rightStep, Value.ref a_rightOf, Value.ref a_rightSign])), (a_timesRight, Sum.inl (k_a_timesRight, 8, Sum.inl f_a_timesRight)), (a_rightStep, Sum.inl (k_a_rightStep, 20, Sum.inl f2)), (a_rightOf, Sum.inl (k_a_rightOf, 20, Sum.inl f3)), (a_rightSign, Sum.inl (k_a_rightSign, 20, Sum.inl f_a_rightSign))] H := hP
    have hD : va_D A [(o, Sum.inr (1, [Value.int v_seen, Value.int v_rights, Value.int p0, Value.ref a_seenStep, Value.ref a_seenSign, Value.ref a_timesRight, Value.ref a_rightStep, Value.ref a_rightOf, Value.ref a_rightSign])), (a_timesRight, Sum.inl (k_a_timesRight, 8, Sum.inl f_a_timesRight)), (a_rightStep, Sum.inl (k_a_rightStep, 20, Sum.inl f2)), (a_rightOf, Sum.inl (k_a_rightOf, 20, Sum.inl f3)), (a_rightSign, Sum.inl (k_a_rightSign, 20, Sum.inl f_a_rightSign))] := hD
    refine lv_aload_n hx hb dX1_correct_37 rfl (lv_at hl 0 rfl) ?_
    refine va_get (D := (dC, dI)) (ci := 1) (v := Value.ref a_rightSign) (C := RX1) (T := TX1) (N := 9) hx hb hts iw_X1_correct_X1 hown hK hP 0 rfl rfl 8 (by decide) (hts _ kk_X1_correct_4) (fun _ h9 => h9) rfl dX1_correct_38 ?_
    refine lv_aload_n hx hb dX1_correct_41 rfl (lv_at hl 0 rfl) ?_
    refine va_get (D := (dC, dI)) (ci := 1) (v := Value.int v_rights) (C := RX1) (T := TX1) (N := 9) hx hb hts iw_X1_correct_X1 hown hK hP 0 rfl rfl 1 (by decide) (hts _ kk_X1_correct_0) (fun _ h9 => h9) rfl dX1_correct_42 ?_
    refine lv_iload_n hx hb dX1_correct_45 rfl (lv_at hl 3 rfl) ?_
    refine va_iast hx hb hK hP hD hS 4 3 rfl rfl (vq_in v_rights 20 (by omega)) dX1_correct_46 (fun H locs hP hD hS => ?_)
    have hP : va_P (dC, dI) vwCl [(o, Sum.inr (1, [Value.int v_seen, Value.int v_rights, Value.int p0, Value.ref a_seenStep, Value.ref a_seenSign, Value.ref a_timesRight, Value.ref a_rightStep, Value.ref a_rightOf, Value.ref a_rightSign])), (a_timesRight, Sum.inl (k_a_timesRight, 8, Sum.inl f_a_timesRight)), (a_rightStep, Sum.inl (k_a_rightStep, 20, Sum.inl f2)), (a_rightOf, Sum.inl (k_a_rightOf, 20, Sum.inl f3)), (a_rightSign, Sum.inl (k_a_rightSign, 20, Sum.inl (upd f_a_rightSign (Int32.toNatClampNeg v_rights) p2)))] H := hP
    have hD : va_D A [(o, Sum.inr (1, [Value.int v_seen, Value.int v_rights, Value.int p0, Value.ref a_seenStep, Value.ref a_seenSign, Value.ref a_timesRight, Value.ref a_rightStep, Value.ref a_rightOf, Value.ref a_rightSign])), (a_timesRight, Sum.inl (k_a_timesRight, 8, Sum.inl f_a_timesRight)), (a_rightStep, Sum.inl (k_a_rightStep, 20, Sum.inl f2)), (a_rightOf, Sum.inl (k_a_rightOf, 20, Sum.inl f3)), (a_rightSign, Sum.inl (k_a_rightSign, 20, Sum.inl (upd f_a_rightSign (Int32.toNatClampNeg v_rights) p2)))] := hD
    have hf4 : ivf (upd f_a_rightSign (Int32.toNatClampNeg v_rights) p2) 0 3 := ivf.up hf_a_rightSign hp2 _
    have wf4 : (upd f_a_rightSign (Int32.toNatClampNeg v_rights) p2) (Int32.toNatClampNeg v_rights) = p2 := pk_us
    generalize upd f_a_rightSign (Int32.toNatClampNeg v_rights) p2 = f4 at hP hD hf4 wf4
    have hP : va_P (dC, dI) vwCl [(o, Sum.inr (1, [Value.int v_seen, Value.int v_rights, Value.int p0, Value.ref a_seenStep, Value.ref a_seenSign, Value.ref a_timesRight, Value.ref a_rightStep, Value.ref a_rightOf, Value.ref a_rightSign])), (a_timesRight, Sum.inl (k_a_timesRight, 8, Sum.inl f_a_timesRight)), (a_rightStep, Sum.inl (k_a_rightStep, 20, Sum.inl f2)), (a_rightOf, Sum.inl (k_a_rightOf, 20, Sum.inl f3)), (a_rightSign, Sum.inl (k_a_rightSign, 20, Sum.inl f4))] H := hP
    have hD : va_D A [(o, Sum.inr (1, [Value.int v_seen, Value.int v_rights, Value.int p0, Value.ref a_seenStep, Value.ref a_seenSign, Value.ref a_timesRight, Value.ref a_rightStep, Value.ref a_rightOf, Value.ref a_rightSign])), (a_timesRight, Sum.inl (k_a_timesRight, 8, Sum.inl f_a_timesRight)), (a_rightStep, Sum.inl (k_a_rightStep, 20, Sum.inl f2)), (a_rightOf, Sum.inl (k_a_rightOf, 20, Sum.inl f3)), (a_rightSign, Sum.inl (k_a_rightSign, 20, Sum.inl f4))] := hD
    refine lv_aload_n hx hb dX1_correct_47 rfl (lv_at hl 0 rfl) ?_
    refine lv_dup hx hb dX1_correct_48 rfl ?_
    refine va_get (D := (dC, dI)) (ci := 1) (v := Value.int v_rights) (C := RX1) (T := TX1) (N := 9) hx hb hts iw_X1_correct_X1 hown hK hP 0 rfl rfl 1 (by decide) (hts _ kk_X1_correct_0) (fun _ h9 => h9) rfl dX1_correct_49 ?_
    refine lv_iconst (v := 1) hx hb dX1_correct_52 (by decide) ?_
    refine lv_iadd hx hb dX1_correct_53 ?_
    refine lv_topi (fun x5 ex5 => ?_)
    have tx5 := i32_add ex5 rfl (show (1 : Int32).toInt = 1 by decide) (by omega) (by omega)
    refine va_put (D := (dC, dI)) (ci := 1) (v := Value.int x5) (ty := FieldType.int) (C := RX1) (T := TX1) (N := 9) hx hb hts iw_X1_correct_X1 tyX1 tyX1_ok nmX1 hown hK hP hD hS 0 rfl rfl 1 (by decide) (hts _ kk_X1_correct_0) (fun _ h9 => h9) rfl (by decide +kernel) rfl rfl (Nat.le_of_ble_eq_true rfl) dX1_correct_54 (fun H locs hP hD hS => ?_)
    have hP : va_P (dC, dI) vwCl [(o, Sum.inr (1, [Value.int v_seen, Value.int x5, Value.int p0, Value.ref a_seenStep, Value.ref a_seenSign, Value.ref a_timesRight, Value.ref a_rightStep, Value.ref a_rightOf, Value.ref a_rightSign])), (a_timesRight, Sum.inl (k_a_timesRight, 8, Sum.inl f_a_timesRight)), (a_rightStep, Sum.inl (k_a_rightStep, 20, Sum.inl f2)), (a_rightOf, Sum.inl (k_a_rightOf, 20, Sum.inl f3)), (a_rightSign, Sum.inl (k_a_rightSign, 20, Sum.inl f4))] H := hP
    have hD : va_D A [(o, Sum.inr (1, [Value.int v_seen, Value.int x5, Value.int p0, Value.ref a_seenStep, Value.ref a_seenSign, Value.ref a_timesRight, Value.ref a_rightStep, Value.ref a_rightOf, Value.ref a_rightSign])), (a_timesRight, Sum.inl (k_a_timesRight, 8, Sum.inl f_a_timesRight)), (a_rightStep, Sum.inl (k_a_rightStep, 20, Sum.inl f2)), (a_rightOf, Sum.inl (k_a_rightOf, 20, Sum.inl f3)), (a_rightSign, Sum.inl (k_a_rightSign, 20, Sum.inl f4))] := hD
    refine lv_aload_n hx hb dX1_correct_57 rfl (lv_at hl 0 rfl) ?_
    refine va_get (D := (dC, dI)) (ci := 1) (v := Value.ref a_timesRight) (C := RX1) (T := TX1) (N := 9) hx hb hts iw_X1_correct_X1 hown hK hP 0 rfl rfl 5 (by decide) (hts _ kk_X1_correct_5) (fun _ h9 => h9) rfl dX1_correct_58 ?_
    refine lv_iload_n hx hb dX1_correct_61 rfl (lv_at hl 2 rfl) ?_
    refine lv_dup2_11 hx hb dX1_correct_62 rfl rfl ?_
    have bp1 := hp1.u
    refine va_iald hx hb hK hP 1 0 rfl rfl (vq_in p1 8 (by omega)) dX1_correct_63 ?_
    refine lv_topi (fun x6 ex6 => ?_)
    refine lv_iconst (v := 1) hx hb dX1_correct_64 (by decide) ?_
    refine lv_iadd hx hb dX1_correct_65 ?_
    refine lv_topi (fun x7 ex7 => ?_)
    refine va_iast hx hb hK hP hD hS 1 0 rfl rfl (vq_in p1 8 (by omega)) dX1_correct_66 (fun H locs hP hD hS => ?_)
    have hP : va_P (dC, dI) vwCl [(o, Sum.inr (1, [Value.int v_seen, Value.int x5, Value.int p0, Value.ref a_seenStep, Value.ref a_seenSign, Value.ref a_timesRight, Value.ref a_rightStep, Value.ref a_rightOf, Value.ref a_rightSign])), (a_timesRight, Sum.inl (k_a_timesRight, 8, Sum.inl (upd f_a_timesRight (Int32.toNatClampNeg p1) x7))), (a_rightStep, Sum.inl (k_a_rightStep, 20, Sum.inl f2)), (a_rightOf, Sum.inl (k_a_rightOf, 20, Sum.inl f3)), (a_rightSign, Sum.inl (k_a_rightSign, 20, Sum.inl f4))] H := hP
    have hD : va_D A [(o, Sum.inr (1, [Value.int v_seen, Value.int x5, Value.int p0, Value.ref a_seenStep, Value.ref a_seenSign, Value.ref a_timesRight, Value.ref a_rightStep, Value.ref a_rightOf, Value.ref a_rightSign])), (a_timesRight, Sum.inl (k_a_timesRight, 8, Sum.inl (upd f_a_timesRight (Int32.toNatClampNeg p1) x7))), (a_rightStep, Sum.inl (k_a_rightStep, 20, Sum.inl f2)), (a_rightOf, Sum.inl (k_a_rightOf, 20, Sum.inl f3)), (a_rightSign, Sum.inl (k_a_rightSign, 20, Sum.inl f4))] := hD
    have wf8 : (upd f_a_timesRight (Int32.toNatClampNeg p1) x7) (Int32.toNatClampNeg p1) = x7 := pk_us
    generalize upd f_a_timesRight (Int32.toNatClampNeg p1) x7 = f8 at hP hD wf8
    have hP : va_P (dC, dI) vwCl [(o, Sum.inr (1, [Value.int v_seen, Value.int x5, Value.int p0, Value.ref a_seenStep, Value.ref a_seenSign, Value.ref a_timesRight, Value.ref a_rightStep, Value.ref a_rightOf, Value.ref a_rightSign])), (a_timesRight, Sum.inl (k_a_timesRight, 8, Sum.inl f8)), (a_rightStep, Sum.inl (k_a_rightStep, 20, Sum.inl f2)), (a_rightOf, Sum.inl (k_a_rightOf, 20, Sum.inl f3)), (a_rightSign, Sum.inl (k_a_rightSign, 20, Sum.inl f4))] H := hP
    have hD : va_D A [(o, Sum.inr (1, [Value.int v_seen, Value.int x5, Value.int p0, Value.ref a_seenStep, Value.ref a_seenSign, Value.ref a_timesRight, Value.ref a_rightStep, Value.ref a_rightOf, Value.ref a_rightSign])), (a_timesRight, Sum.inl (k_a_timesRight, 8, Sum.inl f8)), (a_rightStep, Sum.inl (k_a_rightStep, 20, Sum.inl f2)), (a_rightOf, Sum.inl (k_a_rightOf, 20, Sum.inl f3)), (a_rightSign, Sum.inl (k_a_rightSign, 20, Sum.inl f4))] := hD
    refine lv_aload_n hx hb dX1_correct_67 rfl (lv_at hl 0 rfl) ?_
    refine va_get (D := (dC, dI)) (ci := 1) (v := Value.ref a_timesRight) (C := RX1) (T := TX1) (N := 9) hx hb hts iw_X1_correct_X1 hown hK hP 0 rfl rfl 5 (by decide) (hts _ kk_X1_correct_5) (fun _ h9 => h9) rfl dX1_correct_68 ?_
    refine lv_iload_n hx hb dX1_correct_71 rfl (lv_at hl 2 rfl) ?_
    refine va_iald hx hb hK hP 1 0 rfl rfl (vq_in p1 8 (by omega)) dX1_correct_72 ?_
    refine px_i (v := x7) wf8 ?_
    have hP9 := hP.sub (ws' := [(o, Sum.inr (1, [Value.int v_seen, Value.int x5, Value.int p0, Value.ref a_seenStep, Value.ref a_seenSign, Value.ref a_timesRight, Value.ref a_rightStep, Value.ref a_rightOf, Value.ref a_rightSign])), (a_timesRight, Sum.inl (k_a_timesRight, 8, Sum.inl f8)), (a_rightStep, Sum.inl (k_a_rightStep, 20, Sum.inl f2)), (a_rightOf, Sum.inl (k_a_rightOf, 20, Sum.inl f3)), (a_rightSign, Sum.inl (k_a_rightSign, 20, Sum.inl f4))]) [0, 1, 2, 3, 4] rfl
    have hD9 := hD.sub (ws' := [(o, Sum.inr (1, [Value.int v_seen, Value.int x5, Value.int p0, Value.ref a_seenStep, Value.ref a_seenSign, Value.ref a_timesRight, Value.ref a_rightStep, Value.ref a_rightOf, Value.ref a_rightSign])), (a_timesRight, Sum.inl (k_a_timesRight, 8, Sum.inl f8)), (a_rightStep, Sum.inl (k_a_rightStep, 20, Sum.inl f2)), (a_rightOf, Sum.inl (k_a_rightOf, 20, Sum.inl f3)), (a_rightSign, Sum.inl (k_a_rightSign, 20, Sum.inl f4))]) [0, 1, 2, 3, 4] (by decide) rfl
    exact W.iret (v := x7) hx hb hr (fun t ht hW => ⟨⟨x7, x7, rfl, rfl, x5, p0, f8, f2, f3, f4, (iv.m (by omega)), hf4, by rw [ht]; exact hP9, hD9⟩, hS.F ht⟩) hS.2.2 dX1_correct_73
  · have c19 := i32_nlt c1 rfl (show (20 : Int32).toInt = 20 by decide)
    refine lv_bipush (v := (-3)) hx hb dX1_correct_9 (by decide) ?_
    have hP9 := hP.sub (ws' := [(o, Sum.inr (1, [Value.int v_seen, Value.int v_rights, Value.int v_latestStep, Value.ref a_seenStep, Value.ref a_seenSign, Value.ref a_timesRight, Value.ref a_rightStep, Value.ref a_rightOf, Value.ref a_rightSign])), (a_timesRight, Sum.inl (k_a_timesRight, 8, Sum.inl f_a_timesRight)), (a_rightStep, Sum.inl (k_a_rightStep, 20, Sum.inl f_a_rightStep)), (a_rightOf, Sum.inl (k_a_rightOf, 20, Sum.inl f_a_rightOf)), (a_rightSign, Sum.inl (k_a_rightSign, 20, Sum.inl f_a_rightSign))]) [0, 1, 2, 3, 4] rfl
    have hD9 := hD.sub (ws' := [(o, Sum.inr (1, [Value.int v_seen, Value.int v_rights, Value.int v_latestStep, Value.ref a_seenStep, Value.ref a_seenSign, Value.ref a_timesRight, Value.ref a_rightStep, Value.ref a_rightOf, Value.ref a_rightSign])), (a_timesRight, Sum.inl (k_a_timesRight, 8, Sum.inl f_a_timesRight)), (a_rightStep, Sum.inl (k_a_rightStep, 20, Sum.inl f_a_rightStep)), (a_rightOf, Sum.inl (k_a_rightOf, 20, Sum.inl f_a_rightOf)), (a_rightSign, Sum.inl (k_a_rightSign, 20, Sum.inl f_a_rightSign))]) [0, 1, 2, 3, 4] (by decide) rfl
    exact W.iret (v := (-3)) hx hb hr (fun t ht hW => ⟨⟨(-3), (-3), rfl, rfl, v_rights, v_latestStep, f_a_timesRight, f_a_rightStep, f_a_rightOf, f_a_rightSign, (iv.m (by omega)), hf_a_rightSign, by rw [ht]; exact hP9, hD9⟩, hS.F ht⟩) hS.2.2 dX1_correct_11

set_option maxHeartbeats 4000000 in
set_option maxRecDepth 100000 in
theorem ct_X1_signKnown (l : Launch) (dC : Nat → ClassId) (dI : Nat → Nat → Nat) (o : Nat) (p0 : Int32) (p1 : Int32) (v_seen : Int32) (v_rights : Int32) (v_latestStep : Int32) (a_seenStep : Nat) (a_seenSign : Nat) (a_timesRight : Nat) (a_rightStep : Nat) (a_rightOf : Nat) (a_rightSign : Nat) (k_a_seenSign : ClassId) (f_a_seenSign : Nat → Int32) (k_a_rightStep : ClassId) (f_a_rightStep : Nat → Int32) (k_a_rightOf : ClassId) (f_a_rightOf : Nat → Int32) (k_a_rightSign : ClassId) (f_a_rightSign : Nat → Int32) (hp0 : iv p0 0 7) (hv_rights : iv v_rights 0 20) (hf_a_seenSign : ivf f_a_seenSign 0 3) (hf_a_rightSign : ivf f_a_rightSign 0 3) (sz : Nat) : Met l yX1_signKnown wsX1_signKnown ({ frames := 0, cells := 0, slots := 0, locals := 0 }) (va_Pc [Value.ref o, Value.int p0, Value.int p1] (fun U => U.heap.size = sz ∧ va_P (dC, dI) vwCl [(o, Sum.inr (1, [Value.int v_seen, Value.int v_rights, Value.int v_latestStep, Value.ref a_seenStep, Value.ref a_seenSign, Value.ref a_timesRight, Value.ref a_rightStep, Value.ref a_rightOf, Value.ref a_rightSign])), (a_seenSign, Sum.inl (k_a_seenSign, 8, Sum.inl f_a_seenSign)), (a_rightStep, Sum.inl (k_a_rightStep, 20, Sum.inl f_a_rightStep)), (a_rightOf, Sum.inl (k_a_rightOf, 20, Sum.inl f_a_rightOf)), (a_rightSign, Sum.inl (k_a_rightSign, 20, Sum.inl f_a_rightSign))] U.heap ∧ va_K (dC, dI) vwCl [(k_a_seenSign, FieldType.int), (k_a_rightStep, FieldType.int), (k_a_rightOf, FieldType.int), (k_a_rightSign, FieldType.int)] U ∧ va_D (fun _ => True) [(o, Sum.inr (1, [Value.int v_seen, Value.int v_rights, Value.int v_latestStep, Value.ref a_seenStep, Value.ref a_seenSign, Value.ref a_timesRight, Value.ref a_rightStep, Value.ref a_rightOf, Value.ref a_rightSign])), (a_seenSign, Sum.inl (k_a_seenSign, 8, Sum.inl f_a_seenSign)), (a_rightStep, Sum.inl (k_a_rightStep, 20, Sum.inl f_a_rightStep)), (a_rightOf, Sum.inl (k_a_rightOf, 20, Sum.inl f_a_rightOf)), (a_rightSign, Sum.inl (k_a_rightSign, 20, Sum.inl f_a_rightSign))])) (va_Qi (fun (r u : Int32) => u = r) (fun (r : Int32) t => iv r 0 3 ∧ va_P (dC, dI) vwCl [(o, Sum.inr (1, [Value.int v_seen, Value.int v_rights, Value.int v_latestStep, Value.ref a_seenStep, Value.ref a_seenSign, Value.ref a_timesRight, Value.ref a_rightStep, Value.ref a_rightOf, Value.ref a_rightSign])), (a_seenSign, Sum.inl (k_a_seenSign, 8, Sum.inl f_a_seenSign)), (a_rightStep, Sum.inl (k_a_rightStep, 20, Sum.inl f_a_rightStep)), (a_rightOf, Sum.inl (k_a_rightOf, 20, Sum.inl f_a_rightOf)), (a_rightSign, Sum.inl (k_a_rightSign, 20, Sum.inl f_a_rightSign))] t.heap ∧ va_D (va_A [(o, Sum.inr (1, [Value.int v_seen, Value.int v_rights, Value.int v_latestStep, Value.ref a_seenStep, Value.ref a_seenSign, Value.ref a_timesRight, Value.ref a_rightStep, Value.ref a_rightOf, Value.ref a_rightSign])), (a_seenSign, Sum.inl (k_a_seenSign, 8, Sum.inl f_a_seenSign)), (a_rightStep, Sum.inl (k_a_rightStep, 20, Sum.inl f_a_rightStep)), (a_rightOf, Sum.inl (k_a_rightOf, 20, Sum.inl f_a_rightOf)), (a_rightSign, Sum.inl (k_a_rightSign, 20, Sum.inl f_a_rightSign))] sz) [(o, Sum.inr (1, [Value.int v_seen, Value.int v_rights, Value.int v_latestStep, Value.ref a_seenStep, Value.ref a_seenSign, Value.ref a_timesRight, Value.ref a_rightStep, Value.ref a_rightOf, Value.ref a_rightSign])), (a_seenSign, Sum.inl (k_a_seenSign, 8, Sum.inl f_a_seenSign)), (a_rightStep, Sum.inl (k_a_rightStep, 20, Sum.inl f_a_rightStep)), (a_rightOf, Sum.inl (k_a_rightOf, 20, Sum.inl f_a_rightOf)), (a_rightSign, Sum.inl (k_a_rightSign, 20, Sum.inl f_a_rightSign))]) (va_A [(o, Sum.inr (1, [Value.int v_seen, Value.int v_rights, Value.int v_latestStep, Value.ref a_seenStep, Value.ref a_seenSign, Value.ref a_timesRight, Value.ref a_rightStep, Value.ref a_rightOf, Value.ref a_rightSign])), (a_seenSign, Sum.inl (k_a_seenSign, 8, Sum.inl f_a_seenSign)), (a_rightStep, Sum.inl (k_a_rightStep, 20, Sum.inl f_a_rightStep)), (a_rightOf, Sum.inl (k_a_rightOf, 20, Sum.inl f_a_rightOf)), (a_rightSign, Sum.inl (k_a_rightSign, 20, Sum.inl f_a_rightSign))] sz)) 0 0 (va_A [(o, Sum.inr (1, [Value.int v_seen, Value.int v_rights, Value.int v_latestStep, Value.ref a_seenStep, Value.ref a_seenSign, Value.ref a_timesRight, Value.ref a_rightStep, Value.ref a_rightOf, Value.ref a_rightSign])), (a_seenSign, Sum.inl (k_a_seenSign, 8, Sum.inl f_a_seenSign)), (a_rightStep, Sum.inl (k_a_rightStep, 20, Sum.inl f_a_rightStep)), (a_rightOf, Sum.inl (k_a_rightOf, 20, Sum.inl f_a_rightOf)), (a_rightSign, Sum.inl (k_a_rightSign, 20, Sum.inl f_a_rightSign))] sz) := by
  refine Met.ofW (cc := cX1_signKnown) (maxL := 5) (ret := (some .int)) pn_X1 rfl ?_
  intro p e s m args below meth c s₁ B hml hv
  obtain ⟨rfl, hsz, hP, hK, hD0⟩ := hv
  have hx := B.exec
  have hb := B.bytes
  have hr := B.returns
  have hts := atoms_spec (ws := wsX1_signKnown) B.pre
  have hown : s.vm.findClass RX1 = some m.cls := findClass_of_methodNamed B.named
  have hlocks := B.notSynchronized
  subst hsz
  have hD := hD0.self (sz := s.heap.size)
  generalize hAe : va_A [(o, Sum.inr (1, [Value.int v_seen, Value.int v_rights, Value.int v_latestStep, Value.ref a_seenStep, Value.ref a_seenSign, Value.ref a_timesRight, Value.ref a_rightStep, Value.ref a_rightOf, Value.ref a_rightSign])), (a_seenSign, Sum.inl (k_a_seenSign, 8, Sum.inl f_a_seenSign)), (a_rightStep, Sum.inl (k_a_rightStep, 20, Sum.inl f_a_rightStep)), (a_rightOf, Sum.inl (k_a_rightOf, 20, Sum.inl f_a_rightOf)), (a_rightSign, Sum.inl (k_a_rightSign, 20, Sum.inl f_a_rightSign))] s.heap.size = A at hD ⊢
  have hA : ∀ q : Nat, s.heap.size ≤ q → A q := fun q h => by rw [← hAe]; exact Or.inr h
  have hS : va_S A s.heap s.heap [] := va_S.rf
  have hP : va_P (dC, dI) vwCl [(o, Sum.inr (1, [Value.int v_seen, Value.int v_rights, Value.int v_latestStep, Value.ref a_seenStep, Value.ref a_seenSign, Value.ref a_timesRight, Value.ref a_rightStep, Value.ref a_rightOf, Value.ref a_rightSign])), (a_seenSign, Sum.inl (k_a_seenSign, 8, Sum.inl f_a_seenSign)), (a_rightStep, Sum.inl (k_a_rightStep, 20, Sum.inl f_a_rightStep)), (a_rightOf, Sum.inl (k_a_rightOf, 20, Sum.inl f_a_rightOf)), (a_rightSign, Sum.inl (k_a_rightSign, 20, Sum.inl f_a_rightSign))] s.heap := hP
  have hl := lv_entry ([Value.ref o, Value.int p0, Value.int p1]) (n := 5) (Nat.le_of_ble_eq_true rfl)
  rw [lg_entry_eq]
  generalize (lg_sl ([Value.ref o, Value.int p0, Value.int p1]) ++ List.replicate (5 - (lg_sl ([Value.ref o, Value.int p0, Value.int p1])).length) Slot.unset).toArray = ls at hl ⊢
  have hl : lv_has ls 5 [(0, Value.ref o), (1, Value.int p0), (2, Value.int p1)] := hl
  refine lv_aload_n hx hb dX1_signKnown_0 rfl (lv_at hl 0 rfl) ?_
  refine va_get (D := (dC, dI)) (ci := 1) (v := Value.ref a_seenSign) (C := RX1) (T := TX1) (N := 9) hx hb hts iw_X1_signKnown_X1 hown hK hP 0 rfl rfl 4 (by decide) (hts _ kk_X1_signKnown_0) (fun _ h9 => h9) rfl dX1_signKnown_1 ?_
  refine lv_iload_n hx hb dX1_signKnown_4 rfl (lv_at hl 1 rfl) ?_
  have bp0 := hp0.u
  refine va_iald hx hb hK hP 1 0 rfl rfl (vq_in p0 8 (by omega)) dX1_signKnown_5 ?_
  refine lv_topi (fun x1 ex1 => ?_)
  have hx1 : iv x1 0 3 := iv.of (hf_a_seenSign _) ex1
  refine lv_istore_n (lv' := [(3, Value.int x1), (0, Value.ref o), (1, Value.int p0), (2, Value.int p1)]) hx hb dX1_signKnown_6 rfl hl (by decide) rfl (fun ls hl => ?_)
  refine lv_iconst (v := 0) hx hb dX1_signKnown_7 (by decide) ?_
  refine lv_istore (lv' := [(4, Value.int 0), (3, Value.int x1), (0, Value.ref o), (1, Value.int p0), (2, Value.int p1)]) hx hb dX1_signKnown_8 hl (by decide) rfl (fun ls hl => ?_)
  refine tl_loop (I := fun nn H locs ls => ∃ (v2 : Int32) (v3 : Int32), nn = (20 - v2.toInt).toNat ∧ iv v2 0 20 ∧ iv v3 0 3 ∧  va_P (dC, dI) vwCl [(o, Sum.inr (1, [Value.int v_seen, Value.int v_rights, Value.int v_latestStep, Value.ref a_seenStep, Value.ref a_seenSign, Value.ref a_timesRight, Value.ref a_rightStep, Value.ref a_rightOf, Value.ref a_rightSign])), (a_seenSign, Sum.inl (k_a_seenSign, 8, Sum.inl f_a_seenSign)), (a_rightStep, Sum.inl (k_a_rightStep, 20, Sum.inl f_a_rightStep)), (a_rightOf, Sum.inl (k_a_rightOf, 20, Sum.inl f_a_rightOf)), (a_rightSign, Sum.inl (k_a_rightSign, 20, Sum.inl f_a_rightSign))] H ∧ va_D A [(o, Sum.inr (1, [Value.int v_seen, Value.int v_rights, Value.int v_latestStep, Value.ref a_seenStep, Value.ref a_seenSign, Value.ref a_timesRight, Value.ref a_rightStep, Value.ref a_rightOf, Value.ref a_rightSign])), (a_seenSign, Sum.inl (k_a_seenSign, 8, Sum.inl f_a_seenSign)), (a_rightStep, Sum.inl (k_a_rightStep, 20, Sum.inl f_a_rightStep)), (a_rightOf, Sum.inl (k_a_rightOf, 20, Sum.inl f_a_rightOf)), (a_rightSign, Sum.inl (k_a_rightSign, 20, Sum.inl f_a_rightSign))] ∧ va_S A s.heap H locs ∧ lv_has ls 5 [(4, Value.int v2), (3, Value.int v3), (0, Value.ref o), (1, Value.int p0), (2, Value.int p1)]) ?_ ⟨0, x1, rfl, (iv.m (by decide)), hx1, hP, hD, hS, lv_sub hl [0, 1, 2, 3, 4] rfl⟩
  clear hP hD hS hl
  intro nn10 H locs ls hI ih10
  obtain ⟨v2, v3, hn10, hv2, hv3, hP, hD, hS, hl⟩ := hI
  have bv2 := hv2.u
  have bv3 := hv3.u
  refine lv_iload hx hb dX1_signKnown_10 (lv_at hl 0 rfl) ?_
  refine lv_aload_n hx hb dX1_signKnown_12 rfl (lv_at hl 2 rfl) ?_
  refine va_get (D := (dC, dI)) (ci := 1) (v := Value.int v_rights) (C := RX1) (T := TX1) (N := 9) hx hb hts iw_X1_signKnown_X1 hown hK hP 0 rfl rfl 1 (by decide) (hts _ kk_X1_signKnown_1) (fun _ h9 => h9) rfl dX1_signKnown_13 ?_
  have bv_rights := hv_rights.u
  refine lv_icmp_ge (tgt := 55) hx hb dX1_signKnown_16 (by decide) (fun c4 => ?_) (fun c4 => ?_)
  · have c49 := i32_le c4 rfl rfl
    refine lv_iload_n hx hb dX1_signKnown_55 rfl (lv_at hl 1 rfl) ?_
    have hP9 := hP.sub (ws' := [(o, Sum.inr (1, [Value.int v_seen, Value.int v_rights, Value.int v_latestStep, Value.ref a_seenStep, Value.ref a_seenSign, Value.ref a_timesRight, Value.ref a_rightStep, Value.ref a_rightOf, Value.ref a_rightSign])), (a_seenSign, Sum.inl (k_a_seenSign, 8, Sum.inl f_a_seenSign)), (a_rightStep, Sum.inl (k_a_rightStep, 20, Sum.inl f_a_rightStep)), (a_rightOf, Sum.inl (k_a_rightOf, 20, Sum.inl f_a_rightOf)), (a_rightSign, Sum.inl (k_a_rightSign, 20, Sum.inl f_a_rightSign))]) [0, 1, 2, 3, 4] rfl
    have hD9 := hD.sub (ws' := [(o, Sum.inr (1, [Value.int v_seen, Value.int v_rights, Value.int v_latestStep, Value.ref a_seenStep, Value.ref a_seenSign, Value.ref a_timesRight, Value.ref a_rightStep, Value.ref a_rightOf, Value.ref a_rightSign])), (a_seenSign, Sum.inl (k_a_seenSign, 8, Sum.inl f_a_seenSign)), (a_rightStep, Sum.inl (k_a_rightStep, 20, Sum.inl f_a_rightStep)), (a_rightOf, Sum.inl (k_a_rightOf, 20, Sum.inl f_a_rightOf)), (a_rightSign, Sum.inl (k_a_rightSign, 20, Sum.inl f_a_rightSign))]) [0, 1, 2, 3, 4] (by decide) rfl
    exact W.iret (v := v3) hx hb hr (fun t ht hW => ⟨⟨v3, v3, rfl, rfl, hv3, by rw [ht]; exact hP9, hD9⟩, hS.F ht⟩) hS.2.2 dX1_signKnown_56
  · have c49 := i32_nle c4 rfl rfl
    refine lv_aload_n hx hb dX1_signKnown_19 rfl (lv_at hl 2 rfl) ?_
    refine va_get (D := (dC, dI)) (ci := 1) (v := Value.ref a_rightOf) (C := RX1) (T := TX1) (N := 9) hx hb hts iw_X1_signKnown_X1 hown hK hP 0 rfl rfl 7 (by decide) (hts _ kk_X1_signKnown_2) (fun _ h9 => h9) rfl dX1_signKnown_20 ?_
    refine lv_iload hx hb dX1_signKnown_23 (lv_at hl 0 rfl) ?_
    refine va_iald hx hb hK hP 3 2 rfl rfl (vq_in v2 20 (by omega)) dX1_signKnown_25 ?_
    refine lv_topi (fun x5 ex5 => ?_)
    refine lv_iload_n hx hb dX1_signKnown_26 rfl (lv_at hl 3 rfl) ?_
    have bx5 := i32_rng x5
    refine lv_icmp_ne (tgt := 49) hx hb dX1_signKnown_27 (by decide) (fun c6 => ?_) (fun c6 => ?_)
    · have c69 := i32_ne c6 rfl rfl
      obtain ⟨x7, ex7⟩ : ∃ z : Int32, v2 + Int32.ofInt 1 = z := ⟨_, rfl⟩
      have tx7 := i32_inc ex7 rfl (by decide) (by omega) (by omega)
      refine lv_iinc (v := x7) (lv' := [(4, Value.int x7), (3, Value.int v3), (0, Value.ref o), (1, Value.int p0), (2, Value.int p1)]) hx hb dX1_signKnown_49 hl (k := 0) rfl ex7 (by decide) rfl (fun ls hl => ?_)
      refine lv_goto (tgt := 10) hx hb dX1_signKnown_52 (by decide) ?_
      exact ih10 _ _ _ _ (by omega) ⟨x7, v3, rfl, (iv.m (by omega)), hv3, hP, hD, hS, lv_sub hl [0, 1, 2, 3, 4] rfl⟩
    · have c69 := i32_eq c6 rfl rfl
      refine lv_aload_n hx hb dX1_signKnown_30 rfl (lv_at hl 2 rfl) ?_
      refine va_get (D := (dC, dI)) (ci := 1) (v := Value.ref a_rightStep) (C := RX1) (T := TX1) (N := 9) hx hb hts iw_X1_signKnown_X1 hown hK hP 0 rfl rfl 6 (by decide) (hts _ kk_X1_signKnown_3) (fun _ h9 => h9) rfl dX1_signKnown_31 ?_
      refine lv_iload hx hb dX1_signKnown_34 (lv_at hl 0 rfl) ?_
      refine va_iald hx hb hK hP 2 1 rfl rfl (vq_in v2 20 (by omega)) dX1_signKnown_36 ?_
      refine lv_topi (fun x8 ex8 => ?_)
      refine lv_iload_n hx hb dX1_signKnown_37 rfl (lv_at hl 4 rfl) ?_
      have bx8 := i32_rng x8
      have bp1 := i32_rng p1
      refine lv_icmp_gt (tgt := 49) hx hb dX1_signKnown_38 (by decide) (fun c9 => ?_) (fun c9 => ?_)
      · have c99 := i32_lt c9 rfl rfl
        obtain ⟨x10, ex10⟩ : ∃ z : Int32, v2 + Int32.ofInt 1 = z := ⟨_, rfl⟩
        have tx10 := i32_inc ex10 rfl (by decide) (by omega) (by omega)
        refine lv_iinc (v := x10) (lv' := [(4, Value.int x10), (3, Value.int v3), (0, Value.ref o), (1, Value.int p0), (2, Value.int p1)]) hx hb dX1_signKnown_49 hl (k := 0) rfl ex10 (by decide) rfl (fun ls hl => ?_)
        refine lv_goto (tgt := 10) hx hb dX1_signKnown_52 (by decide) ?_
        exact ih10 _ _ _ _ (by omega) ⟨x10, v3, rfl, (iv.m (by omega)), hv3, hP, hD, hS, lv_sub hl [0, 1, 2, 3, 4] rfl⟩
      · have c99 := i32_nlt c9 rfl rfl
        refine lv_aload_n hx hb dX1_signKnown_41 rfl (lv_at hl 2 rfl) ?_
        refine va_get (D := (dC, dI)) (ci := 1) (v := Value.ref a_rightSign) (C := RX1) (T := TX1) (N := 9) hx hb hts iw_X1_signKnown_X1 hown hK hP 0 rfl rfl 8 (by decide) (hts _ kk_X1_signKnown_4) (fun _ h9 => h9) rfl dX1_signKnown_42 ?_
        refine lv_iload hx hb dX1_signKnown_45 (lv_at hl 0 rfl) ?_
        refine va_iald hx hb hK hP 4 3 rfl rfl (vq_in v2 20 (by omega)) dX1_signKnown_47 ?_
        refine lv_topi (fun x11 ex11 => ?_)
        have hx11 : iv x11 0 3 := iv.of (hf_a_rightSign _) ex11
        refine lv_istore_n (lv' := [(3, Value.int x11), (4, Value.int v2), (0, Value.ref o), (1, Value.int p0), (2, Value.int p1)]) hx hb dX1_signKnown_48 rfl hl (by decide) rfl (fun ls hl => ?_)
        obtain ⟨x12, ex12⟩ : ∃ z : Int32, v2 + Int32.ofInt 1 = z := ⟨_, rfl⟩
        have tx12 := i32_inc ex12 rfl (by decide) (by omega) (by omega)
        refine lv_iinc (v := x12) (lv' := [(4, Value.int x12), (3, Value.int x11), (0, Value.ref o), (1, Value.int p0), (2, Value.int p1)]) hx hb dX1_signKnown_49 hl (k := 1) rfl ex12 (by decide) rfl (fun ls hl => ?_)
        refine lv_goto (tgt := 10) hx hb dX1_signKnown_52 (by decide) ?_
        have bx11 := hx11.u
        exact ih10 _ _ _ _ (by omega) ⟨x12, x11, rfl, (iv.m (by omega)), hx11, hP, hD, hS, lv_sub hl [0, 1, 2, 3, 4] rfl⟩

