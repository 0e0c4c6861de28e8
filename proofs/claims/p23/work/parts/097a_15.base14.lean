/-! the two programs side by side: CHANCES, FEELING, WORTH, LEAVES, DOES, COMES -/
theorem ct_fail {C C' : Nat → Nat → Int32} {R Q : Nat → Nat} {f f' : Nat → Int32} {wk sg : Int32} (h : ∀ a : Nat, a < wk.toNatClampNeg → ∀ j : Nat, j < sg.toNatClampNeg → C (R a) j = f (4 * a + j)) (fr : ∀ a : Nat, (∀ i : Nat, i < 5 → ¬ a = Q i) → C' a = C a) (ap : ∀ i j : Nat, i < 5 → j < 5 → ¬ Q i = R j) (lw : lwK 20 f f') (w5 : wk.toInt ≤ 5) (s4 : sg.toInt ≤ 4) : ∀ a : Nat, a < wk.toNatClampNeg → ∀ j : Nat, j < sg.toNatClampNeg → C' (R a) j = f' (4 * a + j) := by
  have e1 := nn_eq wk; have e2 := nn_eq sg
  intro a ha j hj
  rw [fr (R a) (fun i hi e => ap i a hi (by omega) e.symm), h a ha j hj, lw _ (by omega)]
theorem ct_good {C : Nat → Nat → Int32} {R : Nat → Nat} {f f1 g1 : Nat → Int32} {n m : Nat} {wk sg wk' sg' : Int32} (hxy : phr f1 n 0 = phr g1 m 0) (hw : wk = wk') (hs : sg = sg') (h : chC sg.toNatClampNeg wk.toNatClampNeg R C (phc (phr f1 n 0))) (h' : ∀ a : Nat, a < wk'.toNatClampNeg → ∀ j : Nat, j < sg'.toNatClampNeg → (f (4 * a + j)).toInt = phc (phr g1 m 0) (4 * a + j)) : ∀ a : Nat, a < wk.toNatClampNeg → ∀ j : Nat, j < sg.toNatClampNeg → C (R a) j = f (4 * a + j) := by
  subst hw; subst hs
  intro a ha j hj
  exact Int32.toInt_inj.mp (by rw [h a ha j hj, h' a ha j hj, hxy])
theorem mkR_lw {rt : Nat} {f f' : Nat → Int32} (h : mkR rt f) (l : lwK 2 f f') : mkR rt f' := by
  unfold mkR; rw [l 0 (by decide), l 1 (by decide)]; exact h
theorem mkR_1 {x : Int32} {f : Nat → Int32} (h : x.toInt = 1) : mkR x.toNatClampNeg f := by
  have e := nn_eq x
  exact ⟨fun z => by omega, fun z => by omega, by omega⟩
theorem hire_mk {g : Nat → Int32} {m : Nat} {u k' p' wh' sg' wk' el' le' rt' a b c : Int32} {fb' fc' fm' : Nat → Int32}
    (h' : (u.toInt = -1 ∧ phr g m 0 = .error (k'.toInt, p'.toInt)) ∨ (∃ (br co ch ra mr : Nat → Int), phr g m 0 = .ok (wh'.toInt, sg'.toNatClampNeg, br, wk'.toNatClampNeg, co, ch, el'.toInt, le'.toInt, rt'.toNatClampNeg, ra, mr) ∧ brK sg'.toNatClampNeg fb' br ∧ brK wk'.toNatClampNeg fc' co ∧ rtM rt'.toNatClampNeg a b c ra ∧ brK (rt'.toNatClampNeg - 1) fm' mr ∧ u = wk' ∧ k'.toInt = 0 ∧ p'.toInt = -1 ∧ 2 ≤ sg'.toInt ∧ 2 ≤ wk'.toInt)) (hu : ¬ u.toInt = -1) : mkR rt'.toNatClampNeg fm' := by
  rcases h' with ⟨h1, _⟩ | ⟨br, co, ch, ra, mr, h1, _, _, _, h5, _⟩
  · exact absurd h1 hu
  · obtain ⟨q1, q2, q3⟩ := phr_mk h1
    refine ⟨fun z => ?_, fun z => ?_, q3⟩
    · rw [h5 0 (by omega)]; exact q1 z
    · rw [h5 0 (by omega), h5 1 (by omega)]; exact q2 z
section LAW3
variable {wh wh' sg sg' wk wk' ow ow' rt rt' w x r u a b c d e0 f0 : Int32} {br br' co co' fr fm gm h g f : Nat → Int32} {C : Nat → Nat → Int32} {R : Nat → Nat} {W W' L L' : Nat → Int32}
theorem fel_law (h6 : rt = rt') (t1 : 1 ≤ rt.toInt) (t3 : rt.toInt ≤ 3) (hr : rtE rt fr a b c) (hm : ∀ i : Nat, i < rt.toNatClampNeg - 1 → fm i = gm i) (hR : mkR rt'.toNatClampNeg gm) (w0 : 0 ≤ w.toInt) : felC rt.toNatClampNeg fr fm w = felM rt'.toNatClampNeg (lf [a, b, c, d, e0, f0]) gm w := by
  subst h6
  have e := nn_eq rt
  refine fel_two (fun i hi => ?_) hm hR w0
  have q : i = 0 ∨ i = 1 ∨ i = 2 := by omega
  rcases q with q | q | q
  · subst q; exact hr.1 (by omega)
  · subst q; exact hr.2.1 (by omega)
  · subst q; exact hr.2.2 (by omega)
theorem feeling_two (hF : ∀ w : Int32, 0 ≤ w.toInt → felC rt.toNatClampNeg fr fm w = felM rt'.toNatClampNeg (lf [a, b, c, d, e0, f0]) gm w) (q : (0 ≤ w.toInt ∧ w.toInt ≤ 9999 ∧ r = felC rt.toNatClampNeg fr fm w) ∨ ((w.toInt < 0 ∨ 9999 < w.toInt) ∧ r = -2)) (q' : (0 ≤ w.toInt ∧ w.toInt ≤ 9999 ∧ u = felM rt'.toNatClampNeg (lf [a, b, c, d, e0, f0]) gm w) ∨ ((w.toInt < 0 ∨ 9999 < w.toInt) ∧ u = -2)) : r = u := by
  rcases q with ⟨a1, a2, a3⟩ | ⟨a1, a2⟩ <;> rcases q' with ⟨b1, b2, b3⟩ | ⟨b1, b2⟩
  · rw [a3, b3]; exact hF w a1
  · exfalso; omega
  · exfalso; omega
  · rw [a2, b2]
theorem chance_two (hw : wk = wk') (hs : sg = sg') (hct : ∀ a : Nat, a < wk.toNatClampNeg → ∀ j : Nat, j < sg.toNatClampNeg → C (R a) j = f (4 * a + j)) (q : (0 ≤ w.toInt ∧ w.toInt < wk.toInt ∧ 0 ≤ x.toInt ∧ x.toInt < sg.toInt ∧ r = (fun a s => C (R a) s) w.toNatClampNeg x.toNatClampNeg) ∨ ((w.toInt < 0 ∨ wk.toInt ≤ w.toInt ∨ x.toInt < 0 ∨ sg.toInt ≤ x.toInt) ∧ r = -2)) (q' : (0 ≤ w.toInt ∧ w.toInt < wk'.toInt ∧ 0 ≤ x.toInt ∧ x.toInt < sg'.toInt ∧ u = (fun a s => f (4 * a + s)) w.toNatClampNeg x.toNatClampNeg) ∨ ((w.toInt < 0 ∨ wk'.toInt ≤ w.toInt ∨ x.toInt < 0 ∨ sg'.toInt ≤ x.toInt) ∧ u = -2)) : r = u := by
  subst hw; subst hs
  rcases q with ⟨a1, a2, a3, a4, a5⟩ | ⟨a1, a2⟩ <;> rcases q' with ⟨b1, b2, b3, b4, b5⟩ | ⟨b1, b2⟩
  · rw [a5, b5]; exact hct _ (nn_lt a1 a2) _ (nn_lt a3 a4)
  · exfalso; omega
  · exfalso; omega
  · rw [a2, b2]
theorem wthE (h1 : wh = wh') (h2 : sg = sg') (hF : ∀ w : Int32, 0 ≤ w.toInt → felC rt.toNatClampNeg fr fm w = felM rt'.toNatClampNeg (lf [a, b, c, d, e0, f0]) gm w) (hc : ∀ i : Nat, i < wk.toNatClampNeg → co i = co' i) (hct : ∀ a : Nat, a < wk.toNatClampNeg → ∀ j : Nat, j < sg.toNatClampNeg → C (R a) j = f (4 * a + j)) (hh : ∀ i : Nat, i < 4 → h i = g i) (hg : ivf g 0 9999) (s4 : sg.toInt ≤ 4) : ∀ y : Nat, y < wk.toNatClampNeg → wthC wh sg.toNatClampNeg rt.toNatClampNeg co (fun a => C (R a)) fr fm h y = wthM wh' sg'.toNatClampNeg rt'.toNatClampNeg co' (fun a s => f (4 * a + s)) (lf [a, b, c, d, e0, f0]) gm g y := by
  subst h1; subst h2
  have e := nn_eq sg
  intro y hy
  unfold wthC wthM
  refine wsm_two (by rw [hc y hy]) (fun s hs => hct y hy s hs) (fun s hs => ?_)
  show felC _ _ _ (h s) = felM _ _ _ (g s)
  rw [hh s (by omega)]
  exact hF _ (hg s).1
theorem lftE (h2 : sg = sg') (hb : ∀ i : Nat, i < sg.toNatClampNeg → br i = br' i) (hct : ∀ a : Nat, a < wk.toNatClampNeg → ∀ j : Nat, j < sg.toNatClampNeg → C (R a) j = f (4 * a + j)) (hh : ∀ i : Nat, i < 4 → h i = g i) (s4 : sg.toInt ≤ 4) : ∀ y : Nat, y < wk.toNatClampNeg → lftV sg.toNatClampNeg (fun a => C (R a)) br h y = lftV sg'.toNatClampNeg (fun a s => f (4 * a + s)) br' g y := by
  subst h2
  have e := nn_eq sg
  intro y hy
  unfold lftV
  refine wsm_two rfl (fun s hs => hct y hy s hs) (fun s hs => ?_)
  show br s - h s = br' s - g s
  rw [hh s (by omega), hb s hs]
theorem worth_two (hw : wk = wk') (hW : ∀ y : Nat, y < wk.toNatClampNeg → W y = W' y) (q : (0 ≤ w.toInt ∧ w.toInt < wk.toInt ∧ r = W w.toNatClampNeg) ∨ ((w.toInt < 0 ∨ wk.toInt ≤ w.toInt) ∧ r = (-2000000000))) (q' : (0 ≤ w.toInt ∧ w.toInt < wk'.toInt ∧ u = W' w.toNatClampNeg) ∨ ((w.toInt < 0 ∨ wk'.toInt ≤ w.toInt) ∧ u = (-2000000000))) : r = u := by
  subst hw
  rcases q with ⟨a1, a2, a3⟩ | ⟨a1, a2⟩ <;> rcases q' with ⟨b1, b2, b3⟩ | ⟨b1, b2⟩
  · rw [a3, b3]; exact hW _ (nn_lt a1 a2)
  · exfalso; omega
  · exfalso; omega
  · rw [a2, b2]
theorem does_two (hw : wk = wk') (hW : ∀ y : Nat, y < wk.toNatClampNeg → W y = W' y) (hL : ∀ y : Nat, y < wk.toNatClampNeg → L y = L' y) (q : (wk.toInt = 0 ∧ r = -4) ∨ (1 ≤ wk.toInt ∧ 0 ≤ r.toInt ∧ r.toNatClampNeg = dnv W L wk.toNatClampNeg)) (q' : (wk'.toInt = 0 ∧ u = -4) ∨ (1 ≤ wk'.toInt ∧ 0 ≤ u.toInt ∧ u.toNatClampNeg = dnv W' L' wk'.toNatClampNeg)) : r = u := by
  subst hw
  rcases q with ⟨a1, a2⟩ | ⟨a1, a2, a3⟩ <;> rcases q' with ⟨b1, b2⟩ | ⟨b1, b2, b3⟩
  · rw [a2, b2]
  · exfalso; omega
  · exfalso; omega
  · exact i32_nn2 (by rw [a3, b3]; exact dnv_two hW hL) a2 b2
theorem comes_two (hw : wk = wk') (h1 : wh = wh') (h4 : ow = ow') (hW : ∀ y : Nat, y < wk.toNatClampNeg → W y = W' y) (hL : ∀ y : Nat, y < wk.toNatClampNeg → L y = L' y) (q : (wk.toInt = 0 ∧ r = -4) ∨ (1 ≤ wk.toInt ∧ ((r = 1 ∧ (wh * ow).toInt ≤ (W (dnv W L wk.toNatClampNeg)).toInt) ∨ (r = 0 ∧ (W (dnv W L wk.toNatClampNeg)).toInt < (wh * ow).toInt)))) (q' : (wk'.toInt = 0 ∧ u = -4) ∨ (1 ≤ wk'.toInt ∧ ((u = 1 ∧ (wh' * ow').toInt ≤ (W' (dnv W' L' wk'.toNatClampNeg)).toInt) ∨ (u = 0 ∧ (W' (dnv W' L' wk'.toNatClampNeg)).toInt < (wh' * ow').toInt)))) : r = u := by
  subst hw; subst h1; subst h4
  have e := nn_eq wk
  rcases q with ⟨a1, a2⟩ | ⟨a1, a2⟩ <;> rcases q' with ⟨b1, b2⟩ | ⟨b1, b2⟩
  · rw [a2, b2]
  · exfalso; omega
  · exfalso; omega
  · have z := dnv_two hW hL
    have y := hW _ (dnv_lt (W := W) (L := L) (n := wk.toNatClampNeg) (by omega))
    rw [← z, ← y] at b2
    rcases a2 with ⟨c1, c2⟩ | ⟨c1, c2⟩ <;> rcases b2 with ⟨d1, d2⟩ | ⟨d1, d2⟩
    · rw [c1, d1]
    · exfalso; omega
    · exfalso; omega
    · rw [c1, d1]
end LAW3
