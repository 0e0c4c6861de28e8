set_option maxHeartbeats 8000000 in
set_option maxRecDepth 100000 in
/-- from the entry, for every script of at most 6 ints, the law comes to its end with true -/
theorem whole_start {p : Program} {e : Env} {s : State} {m : MethodId} {below : List Frame} {meth : Method} {c : Code} (l : Launch) {b L : Nat} {xs : Nat → Int32} (hL : L ≤ 6) (C0 : lw_At p s m meth c b L xs) : W p l e room_1 s m #[Value.ref b] below meth c s.heap [] 0 0 (lw_Z below #[Value.ref b] s) (entryFrame m ([Value.ref b] : List Value).toArray 4) := by
  obtain ⟨hx, hb, hr, hml, hown, hts0, hX, hbl, hlocks, hgv⟩ := id C0
  have hts : ∀ w ∈ wsL_law, w.before #[Value.ref b] s = true := fun w hw => hts0 w (wsL_law_in w hw)
  have hA : ∀ q : Nat, s.heap.size ≤ q → (fun q : Nat => s.heap.size ≤ q) q := fun _ h => h
  have hbA : ¬ (fun q : Nat => s.heap.size ≤ q) b := Nat.not_le.mpr hbl
  obtain ⟨dC, dI, hKc⟩ := law_known hts
  have hF_0 : vq_AOA .int s := law_f0 hts0
  have hF_1 : vq_AOA .long s := law_f1 hts0
  have hF_2 : vq_SR RX7 80 "whole" s := law_f2 hts0 hgv
  have hF_3 : vq_SR RX7 98 "sign" s := law_f3 hts0 hgv
  have hS : va_S (fun q : Nat => s.heap.size ≤ q) s.heap s.heap [] := va_S.rf
  have hK : va_K (dC, dI) vwCl [] s := ⟨hKc, fun k q h => by simp at h⟩
  have hP : va_P (dC, dI) vwCl [] s.heap := fun k q h => by simp at h
  have hD : va_D (fun q : Nat => s.heap.size ≤ q) [] := ⟨fun i j p q h => by simp at h, fun k q h => by simp at h⟩
  have hl := lv_entry ([.ref b]) (n := 4) (Nat.le_of_ble_eq_true rfl)
  rw [lg_entry_eq]
  generalize (lg_sl ([.ref b]) ++ List.replicate (4 - (lg_sl ([.ref b])).length) Slot.unset).toArray = ls at hl ⊢
  have hl : lv_has ls 4 [(0, .ref b)] := hl
  refine va_new (ci := 9) (fs := [.null, .null, .null, .null, .null, .null, .null, .null, .int 0, .null, .null, .null, .null, .null]) (C := RX9) (T := TX9) (N := 14) hx hb hts inlX9 tyX9 tyX9_ok hown (hts _ kk_L_law_0) (hts _ kk_L_law_1) (hts _ kk_L_law_2) hK hP hD hS hA rfl (by decide) (Nat.le_of_ble_eq_true rfl) (Nat.le_of_ble_eq_true rfl) dL_law_0 (fun q1 H hP hD hS => ?_)
  have hP : va_P (dC, dI) vwCl [(q1, .inr (9, [.null, .null, .null, .null, .null, .null, .null, .null, .int 0, .null, .null, .null, .null, .null]))] H := hP
  have hD : va_D (fun q : Nat => s.heap.size ≤ q) [(q1, .inr (9, [.null, .null, .null, .null, .null, .null, .null, .null, .int 0, .null, .null, .null, .null, .null]))] := hD
  refine W.widen (k := 1) (n := 14) (by decide) (by decide) ?_
  refine lv_dup hx hb dL_law_3 rfl ?_
  have hPc := hP.sub (ws' := [(q1, .inr (9, [.null, .null, .null, .null, .null, .null, .null, .null, .int 0, .null, .null, .null, .null, .null]))]) [0] rfl
  have hDc := hD.sub (ws' := [(q1, .inr (9, [.null, .null, .null, .null, .null, .null, .null, .null, .int 0, .null, .null, .null, .null, .null]))]) [0] (by decide) rfl
  have hKc := hK.sub (tys' := []) [] rfl
  have hFc := va_free (wc := [(q1, .inr (9, [.null, .null, .null, .null, .null, .null, .null, .null, .int 0, .null, .null, .null, .null, .null]))]) hD hS hA [0] rfl
  refine va_callv (va_runI (As := []) (rest := [.ref q1]) ⟨hx, hb, hml, hown, hts⟩ (ct_X9_init l dC dI q1 H.size) (cwI 0 hts gL_law_X9_init rfl rfl rfl (hts _ kk_L_law_2) (hts _ kk_L_law_3) (hts _ kk_L_law_4) rfl (by decide +kernel) ⟨Nat.le_of_ble_eq_true rfl, Nat.le_of_ble_eq_true rfl⟩) ⟨fun a U g mk q => by obtain ⟨q0, q1, qP, qK, qD, qF0, qF1⟩ := q; exact ⟨q0, q1, qP, va_K.moved (u := U) (U := U.calling g mk a) (Vm.Alike.refl U.vm) qK, qD, vq_AOA.moved (u := U) (U := U.calling g mk a) (Vm.Alike.refl U.vm) qF0, vq_AOA.moved (u := U) (U := U.calling g mk a) (Vm.Alike.refl U.vm) qF1⟩, fun U hU hW => ⟨rfl, by rw [hU], by rw [hU]; exact hPc, va_K.moved hW.alike hKc, hDc.weaken (fun _ _ _ _ => trivial), vq_AOA.moved hW.alike hF_0, vq_AOA.moved hW.alike hF_1⟩⟩ rfl rfl hl.1 rfl (lv_room (Nat.le_of_ble_eq_true rfl)) dL_law_4 ⟨Nat.le_of_ble_eq_true rfl, Nat.le_of_ble_eq_true rfl⟩) hS (fun q _ h => hFc q h) hFc (fun u t H1 locs ht hvm hw hB hz1 hk1 hS => ?_)
  obtain ⟨q3, q4, q5, q6, q7, q8, q9, q10, q11, q12, q13, q14, q15, q16, q17, q18, q19, q20, q21, q22, q23, q24, cA25, cA26, f27, q28, q29, q30, q31, q32, cA33, q34, q35, q36, q37, q38, q39, q40, q41, hP1, hK1, hD1⟩ := hB
  rw [ht] at hP1
  have hK1 := va_K.moved hvm.symm hK1
  obtain ⟨hP, hD⟩ := va_join (wr := []) (w1 := [(q1, .inr (9, [.ref q3, .ref q4, .ref q5, .ref q6, .ref q7, .ref q8, .ref q9, .ref q10, .int 0, .ref q11, .ref q12, .ref q13, .ref q14, .ref q15])), (q3, .inr (7, [.int 0, .int 0, .int (-1), .ref q16, .ref q17, .int 0, .int 0, .int 0, .int 0, .ref q18, .ref q19, .int 0, .int 0, .int 0])), (q16, .inr (3, [.int 0, .int 0, .int 10, .int 0, .int 0, .int 1, .ref q20, .ref q21, .ref q22, .ref q23, .ref q24])), (q23, .inl (cA25, 3, .inl (lf [1, 0, 0]))), (q17, .inl (cA26, 900, .inl f27)), (q4, .inr (3, [.int 0, .int 0, .int 10, .int 0, .int 0, .int 1, .ref q28, .ref q29, .ref q30, .ref q31, .ref q32])), (q31, .inl (cA33, 3, .inl (lf [1, 0, 0]))), (q6, .inr (2, [.long (-2000000000), .long 0])), (q7, .inr (2, [.long (-2000000000), .long 0])), (q8, .inr (2, [.long (-2000000000), .long 0])), (q14, .inr (6, [.int 1, .ref q34, .int 0, .ref q35])), (q15, .inr (1, [.int 0, .int 0, .int 0, .ref q36, .ref q37, .ref q38, .ref q39, .ref q40, .ref q41]))]) hP hD [0] [] rfl rfl (by decide) (by decide) hk1 hFc hP1 hD1
  have hK := (hK.sub (tys' := []) [] rfl).app hK1
  clear hPc hDc hKc hFc hP1 hD1 hK1 hk1 hz1
  generalize H1 = H at hP hS ⊢
  have hP : va_P (dC, dI) vwCl [(q1, .inr (9, [.ref q3, .ref q4, .ref q5, .ref q6, .ref q7, .ref q8, .ref q9, .ref q10, .int 0, .ref q11, .ref q12, .ref q13, .ref q14, .ref q15])), (q3, .inr (7, [.int 0, .int 0, .int (-1), .ref q16, .ref q17, .int 0, .int 0, .int 0, .int 0, .ref q18, .ref q19, .int 0, .int 0, .int 0])), (q16, .inr (3, [.int 0, .int 0, .int 10, .int 0, .int 0, .int 1, .ref q20, .ref q21, .ref q22, .ref q23, .ref q24])), (q23, .inl (cA25, 3, .inl (lf [1, 0, 0]))), (q17, .inl (cA26, 900, .inl f27)), (q4, .inr (3, [.int 0, .int 0, .int 10, .int 0, .int 0, .int 1, .ref q28, .ref q29, .ref q30, .ref q31, .ref q32])), (q31, .inl (cA33, 3, .inl (lf [1, 0, 0]))), (q6, .inr (2, [.long (-2000000000), .long 0])), (q7, .inr (2, [.long (-2000000000), .long 0])), (q8, .inr (2, [.long (-2000000000), .long 0])), (q14, .inr (6, [.int 1, .ref q34, .int 0, .ref q35])), (q15, .inr (1, [.int 0, .int 0, .int 0, .ref q36, .ref q37, .ref q38, .ref q39, .ref q40, .ref q41]))] H := hP
  have hD : va_D (fun q : Nat => s.heap.size ≤ q) [(q1, .inr (9, [.ref q3, .ref q4, .ref q5, .ref q6, .ref q7, .ref q8, .ref q9, .ref q10, .int 0, .ref q11, .ref q12, .ref q13, .ref q14, .ref q15])), (q3, .inr (7, [.int 0, .int 0, .int (-1), .ref q16, .ref q17, .int 0, .int 0, .int 0, .int 0, .ref q18, .ref q19, .int 0, .int 0, .int 0])), (q16, .inr (3, [.int 0, .int 0, .int 10, .int 0, .int 0, .int 1, .ref q20, .ref q21, .ref q22, .ref q23, .ref q24])), (q23, .inl (cA25, 3, .inl (lf [1, 0, 0]))), (q17, .inl (cA26, 900, .inl f27)), (q4, .inr (3, [.int 0, .int 0, .int 10, .int 0, .int 0, .int 1, .ref q28, .ref q29, .ref q30, .ref q31, .ref q32])), (q31, .inl (cA33, 3, .inl (lf [1, 0, 0]))), (q6, .inr (2, [.long (-2000000000), .long 0])), (q7, .inr (2, [.long (-2000000000), .long 0])), (q8, .inr (2, [.long (-2000000000), .long 0])), (q14, .inr (6, [.int 1, .ref q34, .int 0, .ref q35])), (q15, .inr (1, [.int 0, .int 0, .int 0, .ref q36, .ref q37, .ref q38, .ref q39, .ref q40, .ref q41]))] := hD
  have hK : va_K (dC, dI) vwCl [(cA25, .int), (cA26, .byte), (cA33, .int)] s := hK
  refine W.widen (k := 105) (n := 1689) (by decide) (by decide) ?_
  refine lv_astore_n (lv' := [(1, .ref q1), (0, .ref b)]) hx hb dL_law_7 rfl hl (by decide) rfl (fun ls hl => ?_)
  refine va_new (ci := 10) (fs := [.null, .int 0, .int 0, .int 0, .int 0, .int 0, .int 0, .int 0, .int 0, .int 0, .long 0, .int 0, .null, .null, .null, .null, .null, .null, .null, .null, .int 0, .null, .int 0, .long 0, .long 0, .int 0, .int 0, .null, .null, .null, .int 0, .null, .null, .null, .long 0, .null, .null, .int 0, .long 0, .long 0, .null, .null, .int 0, .int 0, .null, .null, .long 0, .long 0, .null, .long 0, .long 0, .long 0, .long 0, .int 0, .null, .null, .int 0, .int 0, .int 0, .int 0, .null, .null, .null, .null, .null]) (C := RX10) (T := TX10) (N := 65) hx hb hts inlX10 tyX10 tyX10_ok hown (hts _ kk_L_law_5) (hts _ kk_L_law_6) (hts _ kk_L_law_7) hK hP hD hS hA rfl (by decide) (Nat.le_of_ble_eq_true rfl) (Nat.le_of_ble_eq_true rfl) dL_law_8 (fun q42 H hP hD hS => ?_)
  have hP : va_P (dC, dI) vwCl [(q1, .inr (9, [.ref q3, .ref q4, .ref q5, .ref q6, .ref q7, .ref q8, .ref q9, .ref q10, .int 0, .ref q11, .ref q12, .ref q13, .ref q14, .ref q15])), (q3, .inr (7, [.int 0, .int 0, .int (-1), .ref q16, .ref q17, .int 0, .int 0, .int 0, .int 0, .ref q18, .ref q19, .int 0, .int 0, .int 0])), (q16, .inr (3, [.int 0, .int 0, .int 10, .int 0, .int 0, .int 1, .ref q20, .ref q21, .ref q22, .ref q23, .ref q24])), (q23, .inl (cA25, 3, .inl (lf [1, 0, 0]))), (q17, .inl (cA26, 900, .inl f27)), (q4, .inr (3, [.int 0, .int 0, .int 10, .int 0, .int 0, .int 1, .ref q28, .ref q29, .ref q30, .ref q31, .ref q32])), (q31, .inl (cA33, 3, .inl (lf [1, 0, 0]))), (q6, .inr (2, [.long (-2000000000), .long 0])), (q7, .inr (2, [.long (-2000000000), .long 0])), (q8, .inr (2, [.long (-2000000000), .long 0])), (q14, .inr (6, [.int 1, .ref q34, .int 0, .ref q35])), (q15, .inr (1, [.int 0, .int 0, .int 0, .ref q36, .ref q37, .ref q38, .ref q39, .ref q40, .ref q41])), (q42, .inr (10, [.null, .int 0, .int 0, .int 0, .int 0, .int 0, .int 0, .int 0, .int 0, .int 0, .long 0, .int 0, .null, .null, .null, .null, .null, .null, .null, .null, .int 0, .null, .int 0, .long 0, .long 0, .int 0, .int 0, .null, .null, .null, .int 0, .null, .null, .null, .long 0, .null, .null, .int 0, .long 0, .long 0, .null, .null, .int 0, .int 0, .null, .null, .long 0, .long 0, .null, .long 0, .long 0, .long 0, .long 0, .int 0, .null, .null, .int 0, .int 0, .int 0, .int 0, .null, .null, .null, .null, .null]))] H := hP
  have hD : va_D (fun q : Nat => s.heap.size ≤ q) [(q1, .inr (9, [.ref q3, .ref q4, .ref q5, .ref q6, .ref q7, .ref q8, .ref q9, .ref q10, .int 0, .ref q11, .ref q12, .ref q13, .ref q14, .ref q15])), (q3, .inr (7, [.int 0, .int 0, .int (-1), .ref q16, .ref q17, .int 0, .int 0, .int 0, .int 0, .ref q18, .ref q19, .int 0, .int 0, .int 0])), (q16, .inr (3, [.int 0, .int 0, .int 10, .int 0, .int 0, .int 1, .ref q20, .ref q21, .ref q22, .ref q23, .ref q24])), (q23, .inl (cA25, 3, .inl (lf [1, 0, 0]))), (q17, .inl (cA26, 900, .inl f27)), (q4, .inr (3, [.int 0, .int 0, .int 10, .int 0, .int 0, .int 1, .ref q28, .ref q29, .ref q30, .ref q31, .ref q32])), (q31, .inl (cA33, 3, .inl (lf [1, 0, 0]))), (q6, .inr (2, [.long (-2000000000), .long 0])), (q7, .inr (2, [.long (-2000000000), .long 0])), (q8, .inr (2, [.long (-2000000000), .long 0])), (q14, .inr (6, [.int 1, .ref q34, .int 0, .ref q35])), (q15, .inr (1, [.int 0, .int 0, .int 0, .ref q36, .ref q37, .ref q38, .ref q39, .ref q40, .ref q41])), (q42, .inr (10, [.null, .int 0, .int 0, .int 0, .int 0, .int 0, .int 0, .int 0, .int 0, .int 0, .long 0, .int 0, .null, .null, .null, .null, .null, .null, .null, .null, .int 0, .null, .int 0, .long 0, .long 0, .int 0, .int 0, .null, .null, .null, .int 0, .null, .null, .null, .long 0, .null, .null, .int 0, .long 0, .long 0, .null, .null, .int 0, .int 0, .null, .null, .long 0, .long 0, .null, .long 0, .long 0, .long 0, .long 0, .int 0, .null, .null, .int 0, .int 0, .int 0, .int 0, .null, .null, .null, .null, .null]))] := hD
  refine W.widen (k := 106) (n := 1754) (by decide) (by decide) ?_
  refine lv_dup hx hb dL_law_11 rfl ?_
  have hPc := hP.sub (ws' := [(q42, .inr (10, [.null, .int 0, .int 0, .int 0, .int 0, .int 0, .int 0, .int 0, .int 0, .int 0, .long 0, .int 0, .null, .null, .null, .null, .null, .null, .null, .null, .int 0, .null, .int 0, .long 0, .long 0, .int 0, .int 0, .null, .null, .null, .int 0, .null, .null, .null, .long 0, .null, .null, .int 0, .long 0, .long 0, .null, .null, .int 0, .int 0, .null, .null, .long 0, .long 0, .null, .long 0, .long 0, .long 0, .long 0, .int 0, .null, .null, .int 0, .int 0, .int 0, .int 0, .null, .null, .null, .null, .null]))]) [12] rfl
  have hDc := hD.sub (ws' := [(q42, .inr (10, [.null, .int 0, .int 0, .int 0, .int 0, .int 0, .int 0, .int 0, .int 0, .int 0, .long 0, .int 0, .null, .null, .null, .null, .null, .null, .null, .null, .int 0, .null, .int 0, .long 0, .long 0, .int 0, .int 0, .null, .null, .null, .int 0, .null, .null, .null, .long 0, .null, .null, .int 0, .long 0, .long 0, .null, .null, .int 0, .int 0, .null, .null, .long 0, .long 0, .null, .long 0, .long 0, .long 0, .long 0, .int 0, .null, .null, .int 0, .int 0, .int 0, .int 0, .null, .null, .null, .null, .null]))]) [12] (by decide) rfl
  have hKc := hK.sub (tys' := []) [] rfl
  have hFc := va_free (wc := [(q42, .inr (10, [.null, .int 0, .int 0, .int 0, .int 0, .int 0, .int 0, .int 0, .int 0, .int 0, .long 0, .int 0, .null, .null, .null, .null, .null, .null, .null, .null, .int 0, .null, .int 0, .long 0, .long 0, .int 0, .int 0, .null, .null, .null, .int 0, .null, .null, .null, .long 0, .null, .null, .int 0, .long 0, .long 0, .null, .null, .int 0, .int 0, .null, .null, .long 0, .long 0, .null, .long 0, .long 0, .long 0, .long 0, .int 0, .null, .null, .int 0, .int 0, .int 0, .int 0, .null, .null, .null, .null, .null]))]) hD hS hA [12] rfl
  refine va_callv (va_runI (As := []) (rest := [.ref q42]) ⟨hx, hb, hml, hown, hts⟩ (ct_X10_init l dC dI q42 H.size) (cwI 0 hts gL_law_X10_init rfl rfl rfl (hts _ kk_L_law_7) (hts _ kk_L_law_8) (hts _ kk_L_law_9) rfl (by decide +kernel) ⟨Nat.le_of_ble_eq_true rfl, Nat.le_of_ble_eq_true rfl⟩) ⟨fun a U g mk q => by obtain ⟨q0, q1, qP, qK, qD⟩ := q; exact ⟨q0, q1, qP, va_K.moved (u := U) (U := U.calling g mk a) (Vm.Alike.refl U.vm) qK, qD⟩, fun U hU hW => ⟨rfl, by rw [hU], by rw [hU]; exact hPc, va_K.moved hW.alike hKc, hDc.weaken (fun _ _ _ _ => trivial)⟩⟩ rfl rfl hl.1 rfl (lv_room (Nat.le_of_ble_eq_true rfl)) dL_law_12 ⟨Nat.le_of_ble_eq_true rfl, Nat.le_of_ble_eq_true rfl⟩) hS (fun q _ h => hFc q h) hFc (fun u t H1 locs ht hvm hw hB hz1 hk1 hS => ?_)
  obtain ⟨q44, cA45, f46, q47, q48, q49, q50, q51, q52, q53, q54, q55, q56, q57, q58, q59, q60, q61, q62, q63, q64, q65, q66, q67, q68, q69, q70, q71, q72, q73, q74, q75, cA76, cA77, f78, cA79, f80, cA81, f82, cA83, cA84, f85, cA86, f87, cA88, cA89, f90, hP1, hK1, hD1⟩ := hB
  rw [ht] at hP1
  have hK1 := va_K.moved hvm.symm hK1
  obtain ⟨hP, hD⟩ := va_join (wr := [(q1, .inr (9, [.ref q3, .ref q4, .ref q5, .ref q6, .ref q7, .ref q8, .ref q9, .ref q10, .int 0, .ref q11, .ref q12, .ref q13, .ref q14, .ref q15])), (q3, .inr (7, [.int 0, .int 0, .int (-1), .ref q16, .ref q17, .int 0, .int 0, .int 0, .int 0, .ref q18, .ref q19, .int 0, .int 0, .int 0])), (q16, .inr (3, [.int 0, .int 0, .int 10, .int 0, .int 0, .int 1, .ref q20, .ref q21, .ref q22, .ref q23, .ref q24])), (q23, .inl (cA25, 3, .inl (lf [1, 0, 0]))), (q17, .inl (cA26, 900, .inl f27)), (q4, .inr (3, [.int 0, .int 0, .int 10, .int 0, .int 0, .int 1, .ref q28, .ref q29, .ref q30, .ref q31, .ref q32])), (q31, .inl (cA33, 3, .inl (lf [1, 0, 0]))), (q6, .inr (2, [.long (-2000000000), .long 0])), (q7, .inr (2, [.long (-2000000000), .long 0])), (q8, .inr (2, [.long (-2000000000), .long 0])), (q14, .inr (6, [.int 1, .ref q34, .int 0, .ref q35])), (q15, .inr (1, [.int 0, .int 0, .int 0, .ref q36, .ref q37, .ref q38, .ref q39, .ref q40, .ref q41]))]) (w1 := [(q44, .inl (cA45, 900, .inl f46)), (q42, .inr (10, [.ref q44, .int 0, .int 0, .int 0, .int 0, .int 0, .int 0, .int 0, .int 0, .int (-1), .long 0, .int 0, .ref q47, .ref q48, .ref q49, .ref q50, .ref q51, .ref q52, .ref q53, .ref q54, .int 0, .ref q55, .int 0, .long 0, .long 0, .int 0, .int 0, .ref q56, .ref q57, .ref q58, .int 0, .ref q59, .ref q60, .ref q61, .long 0, .ref q62, .ref q63, .int 0, .long 0, .long 0, .ref q64, .ref q65, .int 0, .int 0, .ref q66, .ref q67, .long 0, .long 0, .ref q68, .long 0, .long 0, .long 0, .long 0, .int 0, .ref q69, .ref q70, .int 1, .int 0, .int 0, .int 0, .ref q71, .ref q72, .ref q73, .ref q74, .ref q75])), (q47, .inl (cA76, 12, .inl (lf [10, 0, 0, 0, 0, 1, 10, 0, 0, 0, 0, 1]))), (q50, .inl (cA77, 8, .inl f78)), (q51, .inl (cA79, 10, .inl f80)), (q52, .inl (cA81, 40, .inl f82)), (q53, .inl (cA83, 6, .inl (lf [1, 0, 0, 1, 0, 0]))), (q54, .inl (cA84, 4, .inl f85)), (q55, .inl (cA86, 4, .inl f87)), (q69, .inl (cA88, 6, .inl (lf [0, 0, 0, 0, 0, 0]))), (q70, .inl (cA89, 5, .inl f90))]) hP hD [12] [0, 1, 2, 3, 4, 5, 6, 7, 8, 9, 10, 11] rfl rfl (by decide) (by decide) hk1 hFc hP1 hD1
  have hK := (hK.sub (tys' := [(cA25, .int), (cA26, .byte), (cA33, .int)]) [0, 1, 2] rfl).app hK1
  clear hPc hDc hKc hFc hP1 hD1 hK1 hk1 hz1
  generalize H1 = H at hP hS ⊢
  have hP : va_P (dC, dI) vwCl [(q1, .inr (9, [.ref q3, .ref q4, .ref q5, .ref q6, .ref q7, .ref q8, .ref q9, .ref q10, .int 0, .ref q11, .ref q12, .ref q13, .ref q14, .ref q15])), (q3, .inr (7, [.int 0, .int 0, .int (-1), .ref q16, .ref q17, .int 0, .int 0, .int 0, .int 0, .ref q18, .ref q19, .int 0, .int 0, .int 0])), (q16, .inr (3, [.int 0, .int 0, .int 10, .int 0, .int 0, .int 1, .ref q20, .ref q21, .ref q22, .ref q23, .ref q24])), (q23, .inl (cA25, 3, .inl (lf [1, 0, 0]))), (q17, .inl (cA26, 900, .inl f27)), (q4, .inr (3, [.int 0, .int 0, .int 10, .int 0, .int 0, .int 1, .ref q28, .ref q29, .ref q30, .ref q31, .ref q32])), (q31, .inl (cA33, 3, .inl (lf [1, 0, 0]))), (q6, .inr (2, [.long (-2000000000), .long 0])), (q7, .inr (2, [.long (-2000000000), .long 0])), (q8, .inr (2, [.long (-2000000000), .long 0])), (q14, .inr (6, [.int 1, .ref q34, .int 0, .ref q35])), (q15, .inr (1, [.int 0, .int 0, .int 0, .ref q36, .ref q37, .ref q38, .ref q39, .ref q40, .ref q41])), (q44, .inl (cA45, 900, .inl f46)), (q42, .inr (10, [.ref q44, .int 0, .int 0, .int 0, .int 0, .int 0, .int 0, .int 0, .int 0, .int (-1), .long 0, .int 0, .ref q47, .ref q48, .ref q49, .ref q50, .ref q51, .ref q52, .ref q53, .ref q54, .int 0, .ref q55, .int 0, .long 0, .long 0, .int 0, .int 0, .ref q56, .ref q57, .ref q58, .int 0, .ref q59, .ref q60, .ref q61, .long 0, .ref q62, .ref q63, .int 0, .long 0, .long 0, .ref q64, .ref q65, .int 0, .int 0, .ref q66, .ref q67, .long 0, .long 0, .ref q68, .long 0, .long 0, .long 0, .long 0, .int 0, .ref q69, .ref q70, .int 1, .int 0, .int 0, .int 0, .ref q71, .ref q72, .ref q73, .ref q74, .ref q75])), (q47, .inl (cA76, 12, .inl (lf [10, 0, 0, 0, 0, 1, 10, 0, 0, 0, 0, 1]))), (q50, .inl (cA77, 8, .inl f78)), (q51, .inl (cA79, 10, .inl f80)), (q52, .inl (cA81, 40, .inl f82)), (q53, .inl (cA83, 6, .inl (lf [1, 0, 0, 1, 0, 0]))), (q54, .inl (cA84, 4, .inl f85)), (q55, .inl (cA86, 4, .inl f87)), (q69, .inl (cA88, 6, .inl (lf [0, 0, 0, 0, 0, 0]))), (q70, .inl (cA89, 5, .inl f90))] H := hP
  have hD : va_D (fun q : Nat => s.heap.size ≤ q) [(q1, .inr (9, [.ref q3, .ref q4, .ref q5, .ref q6, .ref q7, .ref q8, .ref q9, .ref q10, .int 0, .ref q11, .ref q12, .ref q13, .ref q14, .ref q15])), (q3, .inr (7, [.int 0, .int 0, .int (-1), .ref q16, .ref q17, .int 0, .int 0, .int 0, .int 0, .ref q18, .ref q19, .int 0, .int 0, .int 0])), (q16, .inr (3, [.int 0, .int 0, .int 10, .int 0, .int 0, .int 1, .ref q20, .ref q21, .ref q22, .ref q23, .ref q24])), (q23, .inl (cA25, 3, .inl (lf [1, 0, 0]))), (q17, .inl (cA26, 900, .inl f27)), (q4, .inr (3, [.int 0, .int 0, .int 10, .int 0, .int 0, .int 1, .ref q28, .ref q29, .ref q30, .ref q31, .ref q32])), (q31, .inl (cA33, 3, .inl (lf [1, 0, 0]))), (q6, .inr (2, [.long (-2000000000), .long 0])), (q7, .inr (2, [.long (-2000000000), .long 0])), (q8, .inr (2, [.long (-2000000000), .long 0])), (q14, .inr (6, [.int 1, .ref q34, .int 0, .ref q35])), (q15, .inr (1, [.int 0, .int 0, .int 0, .ref q36, .ref q37, .ref q38, .ref q39, .ref q40, .ref q41])), (q44, .inl (cA45, 900, .inl f46)), (q42, .inr (10, [.ref q44, .int 0, .int 0, .int 0, .int 0, .int 0, .int 0, .int 0, .int 0, .int (-1), .long 0, .int 0, .ref q47, .ref q48, .ref q49, .ref q50, .ref q51, .ref q52, .ref q53, .ref q54, .int 0, .ref q55, .int 0, .long 0, .long 0, .int 0, .int 0, .ref q56, .ref q57, .ref q58, .int 0, .ref q59, .ref q60, .ref q61, .long 0, .ref q62, .ref q63, .int 0, .long 0, .long 0, .ref q64, .ref q65, .int 0, .int 0, .ref q66, .ref q67, .long 0, .long 0, .ref q68, .long 0, .long 0, .long 0, .long 0, .int 0, .ref q69, .ref q70, .int 1, .int 0, .int 0, .int 0, .ref q71, .ref q72, .ref q73, .ref q74, .ref q75])), (q47, .inl (cA76, 12, .inl (lf [10, 0, 0, 0, 0, 1, 10, 0, 0, 0, 0, 1]))), (q50, .inl (cA77, 8, .inl f78)), (q51, .inl (cA79, 10, .inl f80)), (q52, .inl (cA81, 40, .inl f82)), (q53, .inl (cA83, 6, .inl (lf [1, 0, 0, 1, 0, 0]))), (q54, .inl (cA84, 4, .inl f85)), (q55, .inl (cA86, 4, .inl f87)), (q69, .inl (cA88, 6, .inl (lf [0, 0, 0, 0, 0, 0]))), (q70, .inl (cA89, 5, .inl f90))] := hD
  have hK : va_K (dC, dI) vwCl [(cA25, .int), (cA26, .byte), (cA33, .int), (cA45, .byte), (cA76, .int), (cA77, .int), (cA79, .int), (cA81, .int), (cA83, .int), (cA84, .int), (cA86, .int), (cA88, .int), (cA89, .int)] s := hK
  refine W.widen (k := 136) (n := 2994) (by decide) (by decide) ?_
  refine lv_astore_n (lv' := [(2, .ref q42), (1, .ref q1), (0, .ref b)]) hx hb dL_law_15 rfl hl (by decide) rfl (fun ls hl => ?_)
  refine lv_iconst (v := 0) hx hb dL_law_16 (by decide) ?_
  refine lv_istore_n (lv' := [(3, .int 0), (2, .ref q42), (1, .ref q1), (0, .ref b)]) hx hb dL_law_17 rfl hl (by decide) rfl (fun ls hl => ?_)
  refine lv_iload_n hx hb dL_law_18 rfl (lv_at hl 0 rfl) ?_
  refine lv_aload_n hx hb dL_law_19 rfl (lv_at hl 3 rfl) ?_
  refine va_slen hx hb hX hbl hbA hS dL_law_20 ?_
  refine lv_bipush (v := 6) hx hb dL_law_21 (by decide) ?_
  refine lv_isub hx hb dL_law_23 ?_
  refine lv_icmp_gt (tgt := 1195) hx hb dL_law_24 (by decide) (fun c1 => ?_) (fun c1 => ?_)
  · refine lv_iconst (v := 1) hx hb dL_law_1195 (by decide) ?_
    refine va_forget (fun q hq => hS.2.2 q hq) ?_
    refine W.widen (k := 600000) (n := 7302250) (by decide) (by decide) ?_
    exact lw_ret hx hb hr hlocks dL_law_1196
  have hL6 : L = 6 := by
    rcases (show L = 0 ∨ L = 1 ∨ L = 2 ∨ L = 3 ∨ L = 4 ∨ L = 5 ∨ L = 6 by omega) with h | h | h | h | h | h | h
    · subst h; exact absurd (by decide) c1
    · subst h; exact absurd (by decide) c1
    · subst h; exact absurd (by decide) c1
    · subst h; exact absurd (by decide) c1
    · subst h; exact absurd (by decide) c1
    · subst h; exact absurd (by decide) c1
    · exact h
  subst hL6
  clear c1
  obtain ⟨a0, ha0⟩ : ∃ y : Int32, xs (Int32.toNatClampNeg 0) = y := ⟨_, rfl⟩
  refine lv_aload_n hx hb dL_law_27 rfl (lv_at hl 3 rfl) ?_
  refine lv_iload_n hx hb dL_law_28 rfl (lv_at hl 0 rfl) ?_
  refine va_sld hx hb hX hbl hbA hS (vq_in 0 6 (by decide)) dL_law_29 ?_
  refine px_i (v := a0) ha0 ?_
  refine lv_bipush (v := 63) hx hb dL_law_30 (by decide) ?_
  refine lv_iand hx hb dL_law_32 ?_
  refine lv_topi (fun y0 ey0 => ?_)
  by_cases c91 : y0 = 0
  · skip
    have hpin : y0 = 0 := by grind
    subst hpin
    refine lv_tableIn (off := 159) (tgt := 192) hx hb dL_law_33 (by decide) (by decide) rfl (by decide) ?_
    exact law_c0 C0 hF_0 hF_1 hF_2 hF_3 hK hP hD hS (lv_sub hl [3, 2, 1, 0] rfl)
  -- else
  by_cases c92 : y0 = 1
  · skip
    have hpin : y0 = 1 := by grind
    subst hpin
    refine lv_tableIn (off := 222) (tgt := 255) hx hb dL_law_33 (by decide) (by decide) rfl (by decide) ?_
    exact law_c1 C0 hF_0 hF_1 hF_2 hF_3 hK hP hD hS (lv_sub hl [3, 2, 1, 0] rfl)
  -- else
  by_cases c93 : y0 = 2
  · skip
    have hpin : y0 = 2 := by grind
    subst hpin
    refine lv_tableIn (off := 245) (tgt := 278) hx hb dL_law_33 (by decide) (by decide) rfl (by decide) ?_
    exact law_c2 C0 hF_0 hF_1 hF_2 hF_3 hK hP hD hS (lv_sub hl [3, 2, 1, 0] rfl)
  -- else
  by_cases c94 : y0 = 3
  · skip
    have hpin : y0 = 3 := by grind
    subst hpin
    refine lv_tableIn (off := 258) (tgt := 291) hx hb dL_law_33 (by decide) (by decide) rfl (by decide) ?_
    exact law_c3 C0 hF_0 hF_1 hF_2 hF_3 hK hP hD hS (lv_sub hl [3, 2, 1, 0] rfl)
  -- else
  by_cases c95 : y0 = 4
  · skip
    have hpin : y0 = 4 := by grind
    subst hpin
    refine lv_tableIn (off := 281) (tgt := 314) hx hb dL_law_33 (by decide) (by decide) rfl (by decide) ?_
    exact law_c4 C0 hF_0 hF_1 hF_2 hF_3 hK hP hD hS (lv_sub hl [3, 2, 1, 0] rfl)
  -- else
  by_cases c96 : y0 = 5
  · skip
    have hpin : y0 = 5 := by grind
    subst hpin
    refine lv_tableIn (off := 304) (tgt := 337) hx hb dL_law_33 (by decide) (by decide) rfl (by decide) ?_
    exact law_c5 C0 hF_0 hF_1 hF_2 hF_3 hK hP hD hS (lv_sub hl [3, 2, 1, 0] rfl)
  -- else
  by_cases c97 : y0 = 6
  · skip
    have hpin : y0 = 6 := by grind
    subst hpin
    refine lv_tableIn (off := 337) (tgt := 370) hx hb dL_law_33 (by decide) (by decide) rfl (by decide) ?_
    exact law_c6 C0 hF_0 hF_1 hF_2 hF_3 hK hP hD hS (lv_sub hl [3, 2, 1, 0] rfl)
  -- else
  by_cases c98 : y0 = 7
  · skip
    have hpin : y0 = 7 := by grind
    subst hpin
    refine lv_tableIn (off := 360) (tgt := 393) hx hb dL_law_33 (by decide) (by decide) rfl (by decide) ?_
    exact law_c7 C0 hF_0 hF_1 hF_2 hF_3 hK hP hD hS (lv_sub hl [3, 2, 1, 0] rfl)
  -- else
  by_cases c99 : y0 = 8
  · skip
    have hpin : y0 = 8 := by grind
    subst hpin
    refine lv_tableIn (off := 393) (tgt := 426) hx hb dL_law_33 (by decide) (by decide) rfl (by decide) ?_
    exact law_c8 C0 hF_0 hF_1 hF_2 hF_3 hK hP hD hS (lv_sub hl [3, 2, 1, 0] rfl)
  -- else
  by_cases c100 : y0 = 9
  · skip
    have hpin : y0 = 9 := by grind
    subst hpin
    refine lv_tableIn (off := 416) (tgt := 449) hx hb dL_law_33 (by decide) (by decide) rfl (by decide) ?_
    exact law_c9 C0 hF_0 hF_1 hF_2 hF_3 hK hP hD hS (lv_sub hl [3, 2, 1, 0] rfl)
  -- else
  by_cases c101 : y0 = 10
  · skip
    have hpin : y0 = 10 := by grind
    subst hpin
    refine lv_tableIn (off := 439) (tgt := 472) hx hb dL_law_33 (by decide) (by decide) rfl (by decide) ?_
    exact law_c10 C0 hF_0 hF_1 hF_2 hF_3 hK hP hD hS (lv_sub hl [3, 2, 1, 0] rfl)
  -- else
  by_cases c102 : y0 = 11
  · skip
    have hpin : y0 = 11 := by grind
    subst hpin
    refine lv_tableIn (off := 452) (tgt := 485) hx hb dL_law_33 (by decide) (by decide) rfl (by decide) ?_
    exact law_c11 C0 hF_0 hF_1 hF_2 hF_3 hK hP hD hS (lv_sub hl [3, 2, 1, 0] rfl)
  -- else
  by_cases c103 : y0 = 12
  · skip
    have hpin : y0 = 12 := by grind
    subst hpin
    refine lv_tableIn (off := 465) (tgt := 498) hx hb dL_law_33 (by decide) (by decide) rfl (by decide) ?_
    exact law_c12 C0 hF_0 hF_1 hF_2 hF_3 hK hP hD hS (lv_sub hl [3, 2, 1, 0] rfl)
  -- else
  by_cases c104 : y0 = 13
  · skip
    have hpin : y0 = 13 := by grind
    subst hpin
    refine lv_tableIn (off := 479) (tgt := 512) hx hb dL_law_33 (by decide) (by decide) rfl (by decide) ?_
    exact law_c13 C0 hF_0 hF_1 hF_2 hF_3 hK hP hD hS (lv_sub hl [3, 2, 1, 0] rfl)
  -- else
  by_cases c105 : y0 = 14
  · skip
    have hpin : y0 = 14 := by grind
    subst hpin
    refine lv_tableIn (off := 493) (tgt := 526) hx hb dL_law_33 (by decide) (by decide) rfl (by decide) ?_
    exact law_c14 C0 hF_0 hF_1 hF_2 hF_3 hK hP hD hS (lv_sub hl [3, 2, 1, 0] rfl)
  -- else
  by_cases c106 : y0 = 15
  · skip
    have hpin : y0 = 15 := by grind
    subst hpin
    refine lv_tableIn (off := 516) (tgt := 549) hx hb dL_law_33 (by decide) (by decide) rfl (by decide) ?_
    exact law_c15 C0 hF_0 hF_1 hF_2 hF_3 hK hP hD hS (lv_sub hl [3, 2, 1, 0] rfl)
  -- else
  by_cases c107 : y0 = 16
  · skip
    have hpin : y0 = 16 := by grind
    subst hpin
    refine lv_tableIn (off := 566) (tgt := 599) hx hb dL_law_33 (by decide) (by decide) rfl (by decide) ?_
    exact law_c16 C0 hF_0 hF_1 hF_2 hF_3 hK hP hD hS (lv_sub hl [3, 2, 1, 0] rfl)
  -- else
  by_cases c108 : y0 = 17
  · skip
    have hpin : y0 = 17 := by grind
    subst hpin
    refine lv_tableIn (off := 589) (tgt := 622) hx hb dL_law_33 (by decide) (by decide) rfl (by decide) ?_
    exact law_c17 C0 hF_0 hF_1 hF_2 hF_3 hK hP hD hS (lv_sub hl [3, 2, 1, 0] rfl)
  -- else
  by_cases c109 : y0 = 18
  · skip
    have hpin : y0 = 18 := by grind
    subst hpin
    refine lv_tableIn (off := 602) (tgt := 635) hx hb dL_law_33 (by decide) (by decide) rfl (by decide) ?_
    exact law_c18 C0 hF_0 hF_1 hF_2 hF_3 hK hP hD hS (lv_sub hl [3, 2, 1, 0] rfl)
  -- else
  by_cases c110 : y0 = 19
  · skip
    have hpin : y0 = 19 := by grind
    subst hpin
    refine lv_tableIn (off := 645) (tgt := 678) hx hb dL_law_33 (by decide) (by decide) rfl (by decide) ?_
    exact law_c19 C0 hF_0 hF_1 hF_2 hF_3 hK hP hD hS (lv_sub hl [3, 2, 1, 0] rfl)
  -- else
  by_cases c111 : y0 = 20
  · skip
    have hpin : y0 = 20 := by grind
    subst hpin
    refine lv_tableIn (off := 678) (tgt := 711) hx hb dL_law_33 (by decide) (by decide) rfl (by decide) ?_
    exact law_c20 C0 hF_0 hF_1 hF_2 hF_3 hK hP hD hS (lv_sub hl [3, 2, 1, 0] rfl)
  -- else
  by_cases c112 : y0 = 21
  · skip
    have hpin : y0 = 21 := by grind
    subst hpin
    refine lv_tableIn (off := 701) (tgt := 734) hx hb dL_law_33 (by decide) (by decide) rfl (by decide) ?_
    exact law_c21 C0 hF_0 hF_1 hF_2 hF_3 hK hP hD hS (lv_sub hl [3, 2, 1, 0] rfl)
  -- else
  by_cases c113 : y0 = 22
  · skip
    have hpin : y0 = 22 := by grind
    subst hpin
    refine lv_tableIn (off := 734) (tgt := 767) hx hb dL_law_33 (by decide) (by decide) rfl (by decide) ?_
    exact law_c22 C0 hF_0 hF_1 hF_2 hF_3 hK hP hD hS (lv_sub hl [3, 2, 1, 0] rfl)
  -- else
  by_cases c114 : y0 = 23
  · skip
    have hpin : y0 = 23 := by grind
    subst hpin
    refine lv_tableIn (off := 767) (tgt := 800) hx hb dL_law_33 (by decide) (by decide) rfl (by decide) ?_
    exact law_c23 C0 hF_0 hF_1 hF_2 hF_3 hK hP hD hS (lv_sub hl [3, 2, 1, 0] rfl)
  -- else
  by_cases c115 : y0 = 24
  · skip
    have hpin : y0 = 24 := by grind
    subst hpin
    refine lv_tableIn (off := 800) (tgt := 833) hx hb dL_law_33 (by decide) (by decide) rfl (by decide) ?_
    exact law_c24 C0 hF_0 hF_1 hF_2 hF_3 hK hP hD hS (lv_sub hl [3, 2, 1, 0] rfl)
  -- else
  by_cases c116 : y0 = 25
  · skip
    have hpin : y0 = 25 := by grind
    subst hpin
    refine lv_tableIn (off := 823) (tgt := 856) hx hb dL_law_33 (by decide) (by decide) rfl (by decide) ?_
    exact law_c25 C0 hF_0 hF_1 hF_2 hF_3 hK hP hD hS (lv_sub hl [3, 2, 1, 0] rfl)
  -- else
  by_cases c117 : y0 = 26
  · skip
    have hpin : y0 = 26 := by grind
    subst hpin
    refine lv_tableIn (off := 846) (tgt := 879) hx hb dL_law_33 (by decide) (by decide) rfl (by decide) ?_
    exact law_c26 C0 hF_0 hF_1 hF_2 hF_3 hK hP hD hS (lv_sub hl [3, 2, 1, 0] rfl)
  -- else
  by_cases c118 : y0 = 27
  · skip
    have hpin : y0 = 27 := by grind
    subst hpin
    refine lv_tableIn (off := 879) (tgt := 912) hx hb dL_law_33 (by decide) (by decide) rfl (by decide) ?_
    exact law_c27 C0 hF_0 hF_1 hF_2 hF_3 hK hP hD hS (lv_sub hl [3, 2, 1, 0] rfl)
  -- else
  by_cases c119 : y0 = 28
  · skip
    have hpin : y0 = 28 := by grind
    subst hpin
    refine lv_tableIn (off := 902) (tgt := 935) hx hb dL_law_33 (by decide) (by decide) rfl (by decide) ?_
    exact law_c28 C0 hF_0 hF_1 hF_2 hF_3 hK hP hD hS (lv_sub hl [3, 2, 1, 0] rfl)
  -- else
  by_cases c120 : y0 = 29
  · skip
    have hpin : y0 = 29 := by grind
    subst hpin
    refine lv_tableIn (off := 945) (tgt := 978) hx hb dL_law_33 (by decide) (by decide) rfl (by decide) ?_
    exact law_c29 C0 hF_0 hF_1 hF_2 hF_3 hK hP hD hS (lv_sub hl [3, 2, 1, 0] rfl)
  -- else
  by_cases c121 : y0 = 30
  · skip
    have hpin : y0 = 30 := by grind
    subst hpin
    refine lv_tableIn (off := 978) (tgt := 1011) hx hb dL_law_33 (by decide) (by decide) rfl (by decide) ?_
    exact law_c30 C0 hF_0 hF_1 hF_2 hF_3 hK hP hD hS (lv_sub hl [3, 2, 1, 0] rfl)
  -- else
  by_cases c122 : y0 = 31
  · skip
    have hpin : y0 = 31 := by grind
    subst hpin
    refine lv_tableIn (off := 1001) (tgt := 1034) hx hb dL_law_33 (by decide) (by decide) rfl (by decide) ?_
    exact law_c31 C0 hF_0 hF_1 hF_2 hF_3 hK hP hD hS (lv_sub hl [3, 2, 1, 0] rfl)
  -- else
  by_cases c123 : y0 = 32
  · skip
    have hpin : y0 = 32 := by grind
    subst hpin
    refine lv_tableIn (off := 1034) (tgt := 1067) hx hb dL_law_33 (by decide) (by decide) rfl (by decide) ?_
    exact law_c32 C0 hF_0 hF_1 hF_2 hF_3 hK hP hD hS (lv_sub hl [3, 2, 1, 0] rfl)
  -- else
  by_cases c124 : y0 = 33
  · skip
    have hpin : y0 = 33 := by grind
    subst hpin
    refine lv_tableIn (off := 1077) (tgt := 1110) hx hb dL_law_33 (by decide) (by decide) rfl (by decide) ?_
    exact law_c33 C0 hF_0 hF_1 hF_2 hF_3 hK hP hD hS (lv_sub hl [3, 2, 1, 0] rfl)
  -- else
  by_cases c125 : y0 = 34
  · skip
    have hpin : y0 = 34 := by grind
    subst hpin
    refine lv_tableIn (off := 1110) (tgt := 1143) hx hb dL_law_33 (by decide) (by decide) rfl (by decide) ?_
    exact law_c34 C0 hF_0 hF_1 hF_2 hF_3 hK hP hD hS (lv_sub hl [3, 2, 1, 0] rfl)
  -- else
  by_cases c126 : y0 = 35
  · skip
    have hpin : y0 = 35 := by grind
    subst hpin
    refine lv_tableIn (off := 1133) (tgt := 1166) hx hb dL_law_33 (by decide) (by decide) rfl (by decide) ?_
    exact law_c35 C0 hF_0 hF_1 hF_2 hF_3 hK hP hD hS (lv_sub hl [3, 2, 1, 0] rfl)
  -- else
  refine lv_tableOut (tgt := 1189) hx hb dL_law_33 (by have z0 := lv_neT c91 (show (0 : Int32).toInt = 0 by decide); have z1 := lv_neT c92 (show (1 : Int32).toInt = 1 by decide); have z2 := lv_neT c93 (show (2 : Int32).toInt = 2 by decide); have z3 := lv_neT c94 (show (3 : Int32).toInt = 3 by decide); have z4 := lv_neT c95 (show (4 : Int32).toInt = 4 by decide); have z5 := lv_neT c96 (show (5 : Int32).toInt = 5 by decide); have z6 := lv_neT c97 (show (6 : Int32).toInt = 6 by decide); have z7 := lv_neT c98 (show (7 : Int32).toInt = 7 by decide); have z8 := lv_neT c99 (show (8 : Int32).toInt = 8 by decide); have z9 := lv_neT c100 (show (9 : Int32).toInt = 9 by decide); have z10 := lv_neT c101 (show (10 : Int32).toInt = 10 by decide); have z11 := lv_neT c102 (show (11 : Int32).toInt = 11 by decide); have z12 := lv_neT c103 (show (12 : Int32).toInt = 12 by decide); have z13 := lv_neT c104 (show (13 : Int32).toInt = 13 by decide); have z14 := lv_neT c105 (show (14 : Int32).toInt = 14 by decide); have z15 := lv_neT c106 (show (15 : Int32).toInt = 15 by decide); have z16 := lv_neT c107 (show (16 : Int32).toInt = 16 by decide); have z17 := lv_neT c108 (show (17 : Int32).toInt = 17 by decide); have z18 := lv_neT c109 (show (18 : Int32).toInt = 18 by decide); have z19 := lv_neT c110 (show (19 : Int32).toInt = 19 by decide); have z20 := lv_neT c111 (show (20 : Int32).toInt = 20 by decide); have z21 := lv_neT c112 (show (21 : Int32).toInt = 21 by decide); have z22 := lv_neT c113 (show (22 : Int32).toInt = 22 by decide); have z23 := lv_neT c114 (show (23 : Int32).toInt = 23 by decide); have z24 := lv_neT c115 (show (24 : Int32).toInt = 24 by decide); have z25 := lv_neT c116 (show (25 : Int32).toInt = 25 by decide); have z26 := lv_neT c117 (show (26 : Int32).toInt = 26 by decide); have z27 := lv_neT c118 (show (27 : Int32).toInt = 27 by decide); have z28 := lv_neT c119 (show (28 : Int32).toInt = 28 by decide); have z29 := lv_neT c120 (show (29 : Int32).toInt = 29 by decide); have z30 := lv_neT c121 (show (30 : Int32).toInt = 30 by decide); have z31 := lv_neT c122 (show (31 : Int32).toInt = 31 by decide); have z32 := lv_neT c123 (show (32 : Int32).toInt = 32 by decide); have z33 := lv_neT c124 (show (33 : Int32).toInt = 33 by decide); have z34 := lv_neT c125 (show (34 : Int32).toInt = 34 by decide); have z35 := lv_neT c126 (show (35 : Int32).toInt = 35 by decide); omega) (by decide) ?_
  refine lv_iinc (v := 6) (lv' := [(3, .int 6), (2, .ref q42), (1, .ref q1), (0, .ref b)]) hx hb dL_law_1189 hl (k := 0) rfl (by decide) (by decide) rfl (fun ls hl => ?_)
  refine lv_goto (tgt := 18) hx hb dL_law_1192 (by decide) ?_
  refine W.widen (k := 2000) (n := 20000) (by decide) (by decide) ?_
  exact law_end C0 hS (lv_sub hl [0, 3] rfl)

set_option maxHeartbeats 4000000 in
theorem lw_walk (l : Launch) (b : Addr) (xs : List Int32) : MetFree l x (headSpec (Jvm.Cond.code x code maxLocals ret :: tables_1) room_1) (lw_P b xs) (fun _ _ _ _ _ => True) lw_Q := by
  refine MetFree.of_bodyS (code := code) (maxLocals := maxLocals) (ret := ret) (by decide) ?_ ?_
  · intro args s m h hn
    obtain ⟨meth, c, h1, h2, h3, h4, h5, h6, -, -⟩ := Cond.code_spec hn (atoms_spec (ws := Jvm.Cond.code x code maxLocals ret :: tables_1) h _ List.mem_cons_self)
    exact ⟨meth, c, h1, h2, h3, h4, h5, h6⟩
  · intro p e s m args below meth c s₁ B hml0 hP _
    obtain ⟨rfl, hx, hbd, hgv⟩ := hP
    obtain ⟨scr, harrAt, hlist, hof, hsmall⟩ := hx
    obtain ⟨hcb, hkn, -, -⟩ := State.arrayAt?_spec harrAt
    have hown : s.vm.findClass R_law = some m.cls := findClass_of_methodNamed B.named
    have hts0 : ∀ c ∈ (Jvm.Cond.code x code maxLocals ret :: tables_1), c.before #[Value.ref b] s = true := atoms_spec (ws := Jvm.Cond.code x code maxLocals ret :: tables_1) B.pre
    have hts : ∀ w ∈ lw_tbl, w.before #[Value.ref b] s = true := k2_hts_sels lw_privs (fun w hw => hts0 w (List.mem_cons_of_mem _ hw)) lw_privs_ok
    have hml : c.maxLocals = 4 := B.maxLocals_eq (hts0 _ List.mem_cons_self)
    have X₀ : Stand p l e room_1 s m #[Value.ref b] below meth c s₁ [] 0 0 := Stand.of_body B
    have hh0 : s₁.heap = s.heap := by rw [B.state]; rfl
    have hsz : scr.slots.size = xs.length := by rw [← Array.length_toList, hlist, List.length_map]
    have hval : ∀ j : Nat, j < xs.length → scr.slots[j]? = some (.int (xs.getD j 0)) := fun j hj => by
      rw [← Array.getElem?_toList, hlist]
      simp [hj]
    have hbl : b < s.heap.size := (Array.getElem?_eq_some_iff.mp hcb).1
    have hX : va_X b xs.length (fun j => xs.getD j 0) s s.heap := ⟨scr, hcb, hof, hkn, hsz, hval⟩
    have K : W p l e room_1 s m #[Value.ref b] below meth c s₁.heap [] 0 0 (lw_Z below #[Value.ref b] s) (entryFrame m ([Value.ref b] : List Value).toArray 4) := by
      rw [hh0]
      exact whole_start l hbd ⟨B.exec, B.bytes, B.returns, hml, hown, hts, hX, hbl, B.notSynchronized, hgv⟩
    obtain ⟨t, a1, o, b1, b2, b3⟩ := K s₁ rfl X₀
    exact ⟨t, o, a1, b1, b2, b3⟩
theorem lw_pre_spec {args : Array Value} {s : State} (h : (Jvm.Cond.and given_1 narrow_1).before args s = true) (hr : rest_1_c.before args s = true) : ∃ (b : Addr) (xs : List Int32), lw_P b xs args s := by
  have hs := flat_of_before _ h
  have hq := flat_of_before _ hr
  have hc : (Cond.count 1).before args s = true := hs _ (by decide +kernel)
  have harr : (Cond.arrayOf (.arg 0) .int).before args s = true := hs _ (by decide +kernel)
  have hle : (Cond.le (.length (.arg 0)) (.int 6)).before args s = true := hs _ (by decide +kernel)
  have hlen : (Cond.isInt (.length (.arg 0))).before args s = true := hq _ (by decide +kernel)
  have hall : (Cond.all (.arg 0) (.isInt (.elem (.arg 0) (.index 0)))).before args s = true := hq _ (by decide +kernel)
  obtain ⟨b, xs, hb, hx⟩ := State.ints_of_pre rfl harr hlen hall
  have hsm : xs.length < 2 ^ 31 := hx.choose_spec.2.2.2
  have hev : (Term.length (.arg 0)).eval args s none [] s = some (.int xs.length.toInt32) := hx.length_eval hb
  have hv := Cond.le_ints hev (show (Term.int 6).eval args s none [] s = some (.int 6) from rfl)
  have hd : xs.length.toInt32 ≤ 6 := by
    simpa [Cond.before, Cond.holds, hv] using hle
  have hN : xs.length ≤ 6 := (Int32.ofNat_le_ofNat hsm (by decide)).mp (show Int32.ofNat xs.length ≤ Int32.ofNat 6 from hd)
  exact ⟨b, xs, Cond.one_arg hc (show args[0]? = some (.ref b) from hb), hx, hN, h⟩
theorem lw_comes (l : Launch) : Comes l x (Jvm.Cond.code x code maxLocals ret :: tables_1) room_1 (fun tb e args s => Calls_1 tb e args s ∧ rest_1 tb e args s ∧ Pre_1 tb e args s)
    (fun _ _ args s o t => lw_Q args s o t) := by
  intro p e ha hc hk s m args below hf hfit hheap happ hpre
  obtain ⟨b, xs, hP⟩ := lw_pre_spec hpre.2.2 hpre.2.1
  obtain ⟨k, o, h1, h2, h3, hQ⟩ := lw_walk l b xs p e ha hc hk s m args below hf ((Spec.applies_iff_loose hf).mp happ).1 hP trivial
  exact ⟨k, o, h1, h2, h3, hQ⟩
theorem lw_frame {s t : State} {o : Outcome} {args : Array Value} (h : Framed s o t [] 600000 7302250) :
    Framed s o t (fieldLocs frame_1_writes args s ++ arrayLocs frame_1_arrays args s ++ staticLocs frame_1_statics s) 600000 7302250 := h
theorem lw_limb (L : Cond) (hL : ∀ (args : Array Value) (s t : State), L.after args s (.returned (some (.int 1))) t = true) :
    ArmFor flags0 classFile x code maxLocals ret World_1 tables_1 room_1 Calls_1 rest_1 Pre_1
      (fun tb e a s o t => postC L tb e a s o t ∧ Framed s o t (fieldLocs frame_1_writes a s ++ arrayLocs frame_1_arrays a s ++ staticLocs frame_1_statics s) 600000 7302250) := by
  intro l _ _ _ p e ha hc hk s m args below hf hfit hheap happ hpre
  obtain ⟨k, o, h1, h2, h3, rfl, hF⟩ := lw_comes l p e ha hc hk s m args below hf hfit hheap happ hpre
  exact ⟨k, _, h1, h2, h3, hL args s _, lw_frame hF⟩
theorem i_vc : Claimed_1_1 ∧ Claimed_1_2 := ⟨lw_limb limb_1_1 (fun args s t => by simp [limb_1_1, Cond.after, Cond.holds, Cond.value]), lw_limb limb_1_2 (fun args s t => Cond.after_iff.mpr (by
  first | (rw [show limb_1_2 = Cond.eq .result (.int 1) from rfl, Cond.eq_ints (x := 1) (y := 1) rfl rfl]; simp; done) | (simp [limb_1_2, Cond.value, Term.eval]; done)))⟩

