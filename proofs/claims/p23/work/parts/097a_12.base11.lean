/-- two rows alike below k stay so under one store -/
theorem up_two {k : Nat} {f g : Nat → Int32} {j : Nat} {v : Int32} (h : ∀ i : Nat, i < k → f i = g i) : ∀ i : Nat, i < k → upd f j v i = upd g j v i := by
  intro i hi
  show (if i = j then v else f i) = (if i = j then v else g i)
  rw [h i hi]
theorem fl_two {k : Nat} {f g : Nat → Int32} {v : Int32} (h : flK k f v) (h' : flK k g v) : ∀ i : Nat, i < k → f i = g i := fun i hi => (h i hi).trans (h' i hi).symm
section TWO
variable {w x sg sg' le le' wk wk' r u : Int32}
theorem wage_two {f g f' g' : Nat → Int32} (hs : sg = sg') (hl : le = le') (s4 : sg.toInt ≤ 4) (hh : ∀ i : Nat, i < 4 → f i = g i)
    (h : (0 ≤ w.toInt ∧ w.toInt < sg.toInt ∧ le.toInt ≤ x.toInt ∧ x.toInt ≤ 9999 ∧ r = f w.toNatClampNeg ∧ f' = upd f w.toNatClampNeg x) ∨ ((w.toInt < 0 ∨ sg.toInt ≤ w.toInt ∨ x.toInt < le.toInt ∨ 9999 < x.toInt) ∧ r = -2 ∧ f' = f))
    (h' : (0 ≤ w.toInt ∧ w.toInt < sg'.toInt ∧ le'.toInt ≤ x.toInt ∧ x.toInt ≤ 9999 ∧ u = g w.toNatClampNeg ∧ g' = upd g w.toNatClampNeg x) ∨ ((w.toInt < 0 ∨ sg'.toInt ≤ w.toInt ∨ x.toInt < le'.toInt ∨ 9999 < x.toInt) ∧ u = -2 ∧ g' = g)) : r = u ∧ ∀ i : Nat, i < 4 → f' i = g' i := by
  subst hs; subst hl
  have e := nn_eq w
  rcases h with ⟨a1, a2, a3, a4, a5, a6⟩ | ⟨a1, a2, a3⟩ <;> rcases h' with ⟨b1, b2, b3, b4, b5, b6⟩ | ⟨b1, b2, b3⟩
  · exact ⟨by rw [a5, b5]; exact hh _ (by omega), by rw [a6, b6]; exact up_two hh⟩
  · exfalso; omega
  · exfalso; omega
  · exact ⟨by rw [a2, b2], by rw [a3, b3]; exact hh⟩
theorem mix_two {f g f' g' : Nat → Int32} (hs : wk = wk') (s4 : wk.toInt ≤ 5) (hh : ∀ i : Nat, i < 5 → f i = g i)
    (h : (0 ≤ w.toInt ∧ w.toInt < wk.toInt ∧ 0 ≤ x.toInt ∧ x.toInt ≤ 1000 ∧ r = f w.toNatClampNeg ∧ f' = upd f w.toNatClampNeg x) ∨ ((w.toInt < 0 ∨ wk.toInt ≤ w.toInt ∨ x.toInt < 0 ∨ 1000 < x.toInt) ∧ r = -2 ∧ f' = f))
    (h' : (0 ≤ w.toInt ∧ w.toInt < wk'.toInt ∧ 0 ≤ x.toInt ∧ x.toInt ≤ 1000 ∧ u = g w.toNatClampNeg ∧ g' = upd g w.toNatClampNeg x) ∨ ((w.toInt < 0 ∨ wk'.toInt ≤ w.toInt ∨ x.toInt < 0 ∨ 1000 < x.toInt) ∧ u = -2 ∧ g' = g)) : r = u ∧ ∀ i : Nat, i < 5 → f' i = g' i := by
  subst hs
  have e := nn_eq w
  rcases h with ⟨a1, a2, a3, a4, a5, a6⟩ | ⟨a1, a2, a3⟩ <;> rcases h' with ⟨b1, b2, b3, b4, b5, b6⟩ | ⟨b1, b2, b3⟩
  · exact ⟨by rw [a5, b5]; exact hh _ (by omega), by rw [a6, b6]; exact up_two hh⟩
  · exfalso; omega
  · exfalso; omega
  · exact ⟨by rw [a2, b2], by rw [a3, b3]; exact hh⟩
theorem by_two {l l' m m' : Int32} (hl : l = m) (h : (1 ≤ w.toInt ∧ w.toInt ≤ 9999 ∧ r = l ∧ l' = w) ∨ ((w.toInt < 1 ∨ 9999 < w.toInt) ∧ r = -2 ∧ l' = l)) (h' : (1 ≤ w.toInt ∧ w.toInt ≤ 9999 ∧ u = m ∧ m' = w) ∨ ((w.toInt < 1 ∨ 9999 < w.toInt) ∧ u = -2 ∧ m' = m)) : r = u ∧ l' = m' := by
  subst hl
  rcases h with ⟨a1, a2, a3, a4⟩ | ⟨a1, a2, a3⟩ <;> rcases h' with ⟨b1, b2, b3, b4⟩ | ⟨b1, b2, b3⟩
  · exact ⟨by rw [a3, b3], by rw [a4, b4]⟩
  · exfalso; omega
  · exfalso; omega
  · exact ⟨by rw [a2, b2], by rw [a3, b3]⟩
theorem seen_two (hs : wk = wk') (h : (0 ≤ w.toInt ∧ w.toInt < wk.toInt ∧ r = 1) ∨ ((w.toInt < 0 ∨ wk.toInt ≤ w.toInt) ∧ r = -2)) (h' : (0 ≤ w.toInt ∧ w.toInt < wk'.toInt ∧ u = 1) ∨ ((w.toInt < 0 ∨ wk'.toInt ≤ w.toInt) ∧ u = -2)) : r = u := by
  subst hs
  rcases h with ⟨a1, a2, a3⟩ | ⟨a1, a2⟩ <;> rcases h' with ⟨b1, b2, b3⟩ | ⟨b1, b2⟩
  · rw [a3, b3]
  · exfalso; omega
  · exfalso; omega
  · rw [a2, b2]
theorem press_two {f g f' g' : Nat → Int32} {e0 e0' : Int32} (hs : wk = wk') (s4 : wk.toInt ≤ 5) (hh : ∀ i : Nat, i < 5 → f i = g i) (he : e0 = g 5)
    (h : (w.toInt = -1 ∧ 0 ≤ x.toInt ∧ x.toInt ≤ 9999 ∧ r = e0 ∧ e0' = x ∧ f' = f) ∨ (0 ≤ w.toInt ∧ w.toInt < wk.toInt ∧ 0 ≤ x.toInt ∧ x.toInt ≤ 9999 ∧ r = f w.toNatClampNeg ∧ e0' = e0 ∧ f' = upd f w.toNatClampNeg x) ∨ (((¬ w.toInt = -1 ∧ (w.toInt < 0 ∨ wk.toInt ≤ w.toInt)) ∨ x.toInt < 0 ∨ 9999 < x.toInt) ∧ r = -2 ∧ e0' = e0 ∧ f' = f))
    (h' : (w.toInt = -1 ∧ 0 ≤ x.toInt ∧ x.toInt ≤ 9999 ∧ u = g 5 ∧ g' = upd g 5 x) ∨ (0 ≤ w.toInt ∧ w.toInt < wk'.toInt ∧ 0 ≤ x.toInt ∧ x.toInt ≤ 9999 ∧ u = g w.toNatClampNeg ∧ g' = upd g w.toNatClampNeg x) ∨ (((¬ w.toInt = -1 ∧ (w.toInt < 0 ∨ wk'.toInt ≤ w.toInt)) ∨ x.toInt < 0 ∨ 9999 < x.toInt) ∧ u = -2 ∧ g' = g)) : r = u ∧ (∀ i : Nat, i < 5 → f' i = g' i) ∧ e0' = g' 5 := by
  subst hs
  have e := nn_eq w
  have u5 : ∀ (j : Nat) (v : Int32), ¬ 5 = j → upd g j v 5 = g 5 := fun j v hj => if_neg hj
  rcases h with ⟨a1, a2, a3, a4, a5, a6⟩ | ⟨a1, a2, a3, a4, a5, a6, a7⟩ | ⟨a1, a2, a3, a4⟩ <;> rcases h' with ⟨b1, b2, b3, b4, b5⟩ | ⟨b1, b2, b3, b4, b5, b6⟩ | ⟨b1, b2, b3⟩
  · refine ⟨by rw [a4, b4, he], ?_, ?_⟩
    · intro i hi
      rw [a6, b5]
      show f i = (if i = 5 then x else g i)
      rw [if_neg (by omega)]; exact hh i hi
    · rw [a5, b5]; exact (if_pos rfl).symm
  · exfalso; omega
  · exfalso; omega
  · exfalso; omega
  · refine ⟨by rw [a5, b5]; exact hh _ (by omega), by rw [a7, b6]; exact up_two hh, ?_⟩
    rw [a6, b6, he, u5 _ _ (by omega)]
  · exfalso; omega
  · exfalso; omega
  · exfalso; omega
  · exact ⟨by rw [a2, b2], by rw [a4, b3]; exact hh, by rw [a3, b3]; exact he⟩
theorem told_two {wh wh' el el' rt rt' a b c d e0 f0 : Int32} {fb fc fr fm gb gc gm : Nat → Int32} (h1 : sg = sg') (h2 : wk = wk') (h3 : wh = wh') (h4 : el = el') (h5 : le = le') (h6 : rt = rt') (t3 : rt.toInt ≤ 3) (hb : ∀ i : Nat, i < sg.toNatClampNeg → fb i = gb i) (hc : ∀ i : Nat, i < wk.toNatClampNeg → fc i = gc i) (hr : rtE rt fr a b c) (hm : ∀ i : Nat, i < rt.toNatClampNeg - 1 → fm i = gm i) (h : r = tolv w sg wk wh el le rt fb fc fr fm) (h' : u = tolv w sg' wk' wh' el' le' rt' gb gc (lf [a, b, c, d, e0, f0]) gm) : r = u := by
  subst h1; subst h2; subst h3; subst h4; subst h5; subst h6
  have e := nn_eq rt
  rw [h, h']
  refine tol_two hb hc (fun i hi => ?_) hm
  have q : i = 0 ∨ i = 1 ∨ i = 2 := by omega
  rcases q with q | q | q
  · subst q; exact hr.1 (by omega)
  · subst q; exact hr.2.1 (by omega)
  · subst q; exact hr.2.2 (by omega)
end TWO
