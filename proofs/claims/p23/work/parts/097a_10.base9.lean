/-- the two tapes alike, the two readers tell alike -/
theorem hire_eq {f g : Nat → Int32} {n m : Int32} (hf : f = g) (hn : n.toInt = m.toInt) : phr f n.toNatClampNeg 0 = phr g m.toNatClampNeg 0 := by
  rw [hf, show n = m from Int32.toInt_inj.mp hn]
theorem i32_nn2 {x y : Int32} (h : x.toNatClampNeg = y.toNatClampNeg) (hx : 0 ≤ x.toInt) (hy : 0 ≤ y.toInt) : x = y := by
  have e1 := nn_eq x; have e2 := nn_eq y
  exact Int32.toInt_inj.mp (by omega)
theorem hire_two {f g : Nat → Int32} {n m : Nat} {r u k k' p p' wh sg wk el le rt wh' sg' wk' el' le' rt' a b c : Int32} {fb fc fr fm fb' fc' fm' : Nat → Int32} (hxy : phr f n 0 = phr g m 0)
    (h : (r.toInt = -1 ∧ phr f n 0 = .error (k.toInt, p.toInt)) ∨ (∃ (br co ch ra mr : Nat → Int), phr f n 0 = .ok (wh.toInt, sg.toNatClampNeg, br, wk.toNatClampNeg, co, ch, el.toInt, le.toInt, rt.toNatClampNeg, ra, mr) ∧ brK sg.toNatClampNeg fb br ∧ brK wk.toNatClampNeg fc co ∧ brK rt.toNatClampNeg fr ra ∧ brK (rt.toNatClampNeg - 1) fm mr ∧ r = wk ∧ k.toInt = 0 ∧ p.toInt = -1 ∧ 2 ≤ sg.toInt ∧ 2 ≤ wk.toInt))
    (h' : (u.toInt = -1 ∧ phr g m 0 = .error (k'.toInt, p'.toInt)) ∨ (∃ (br co ch ra mr : Nat → Int), phr g m 0 = .ok (wh'.toInt, sg'.toNatClampNeg, br, wk'.toNatClampNeg, co, ch, el'.toInt, le'.toInt, rt'.toNatClampNeg, ra, mr) ∧ brK sg'.toNatClampNeg fb' br ∧ brK wk'.toNatClampNeg fc' co ∧ rtM rt'.toNatClampNeg a b c ra ∧ brK (rt'.toNatClampNeg - 1) fm' mr ∧ u = wk' ∧ k'.toInt = 0 ∧ p'.toInt = -1 ∧ 2 ≤ sg'.toInt ∧ 2 ≤ wk'.toInt)) : r = u ∧ k = k' ∧ p = p' := by
  rcases h with ⟨h1, h2⟩ | ⟨br, co, ch, ra, mr, h1, h2, h3, h4, h5, h6, h7, h8, h9, h10⟩ <;> rcases h' with ⟨g1, g2⟩ | ⟨br', co', ch', ra', mr', g1, g2, g3, g4, g5, g6, g7, g8, g9, g10⟩
  · rw [h2, g2] at hxy
    have q := Except.error.inj hxy
    have q1 := congrArg Prod.fst q
    have q2 := congrArg Prod.snd q
    exact ⟨Int32.toInt_inj.mp (by rw [h1, g1]), Int32.toInt_inj.mp q1, Int32.toInt_inj.mp q2⟩
  · rw [h2, g1] at hxy; cases hxy
  · rw [h1, g2] at hxy; cases hxy
  · rw [h1, g1] at hxy
    have q := Except.ok.inj hxy
    have q3 : wk.toNatClampNeg = wk'.toNatClampNeg := congrArg (fun z => z.2.2.2.1) q
    have e : wk = wk' := i32_nn2 q3 (by omega) (by omega)
    exact ⟨by rw [h6, g6, e], Int32.toInt_inj.mp (by rw [h7, g7]), Int32.toInt_inj.mp (by rw [h8, g8])⟩
/-- feed keeps the tapes alike -/
theorem feed_two {f g f' g' : Nat → Int32} {r u n m n' m' a b c d e : Int32} (hf : f = g) (hn : n.toInt = m.toInt)
    (h : (r.toInt = -3 ∧ 880 < n.toInt ∧ n' = n ∧ f' = f) ∨ (n.toInt ≤ 880 ∧ r.toInt = n.toInt + 20 ∧ n'.toInt = n.toInt + 20 ∧ f' = fdv f n.toNatClampNeg a b c d e))
    (h' : (u.toInt = -3 ∧ 880 < m.toInt ∧ m' = m ∧ g' = g) ∨ (m.toInt ≤ 880 ∧ u.toInt = m.toInt + 20 ∧ m'.toInt = m.toInt + 20 ∧ g' = fdv g m.toNatClampNeg a b c d e)) : f' = g' ∧ n'.toInt = m'.toInt ∧ r.toInt = u.toInt := by
  have hm : n = m := Int32.toInt_inj.mp hn
  subst hm; subst hf
  rcases h with h | h <;> rcases h' with h' | h'
  · exact ⟨by rw [h.2.2.2, h'.2.2.2], by rw [h.2.2.1, h'.2.2.1], by rw [h.1, h'.1]⟩
  · exfalso; have a1 := h.2.1; have a2 := h'.1; omega
  · exfalso; have a1 := h.1; have a2 := h'.2.1; omega
  · exact ⟨by rw [h.2.2.2, h'.2.2.2], by rw [h.2.2.1, h'.2.2.1], by rw [h.2.1, h'.2.1]⟩
theorem fault_two {w r u k k' p p' : Int32} (hk : k = k') (hp : p = p') (h : (w.toInt = 0 ∧ r = k) ∨ (w.toInt = 1 ∧ r = p) ∨ (¬ w.toInt = 0 ∧ ¬ w.toInt = 1 ∧ r = -1)) (h' : (w.toInt = 0 ∧ u = k') ∨ (w.toInt = 1 ∧ u = p') ∨ (¬ w.toInt = 0 ∧ ¬ w.toInt = 1 ∧ u = -1)) : r = u := by
  subst hk; subst hp
  rcases h with h | h | h <;> rcases h' with h' | h' | h'
  · rw [h.2, h'.2]
  · exfalso; omega
  · exact absurd h.1 h'.1
  · exfalso; omega
  · rw [h.2, h'.2]
  · exact absurd h.1 h'.2.1
  · exact absurd h'.1 h.1
  · exact absurd h'.1 h.2.1
  · rw [h.2.2, h'.2.2]
