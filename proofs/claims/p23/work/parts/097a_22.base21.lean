/-! BAR, WATCH: the two programs side by side -/
theorem pick_two {w wk wk' r u : Int32} {F F' : Nat → Prop} {Q Q' : Nat → Int → Int → Prop} {n n' : Nat} (hw : wk = wk') (hn : n = n') (hF : 0 ≤ w.toInt → w.toInt < wk.toInt → ∀ s : Nat, s < n → (F s ↔ F' s)) (hQ : 0 ≤ w.toInt → w.toInt < wk.toInt → ∀ s : Nat, s < n → ∀ a b : Int, Q s a b ↔ Q' s a b) (q : (0 ≤ w.toInt ∧ w.toInt < wk.toInt ∧ ∃ x l : Int, pickI F Q n r.toInt x l) ∨ ((w.toInt < 0 ∨ wk.toInt ≤ w.toInt) ∧ r = -2)) (q' : (0 ≤ w.toInt ∧ w.toInt < wk'.toInt ∧ ∃ x l : Int, pickI F' Q' n' u.toInt x l) ∨ ((w.toInt < 0 ∨ wk'.toInt ≤ w.toInt) ∧ u = -2)) : r = u := by
  subst hw; subst hn
  rcases q with ⟨a1, a2, x, l, a3⟩ | ⟨a1, a2⟩ <;> rcases q' with ⟨b1, b2, x', l', b3⟩ | ⟨b1, b2⟩
  · exact Int32.toInt_inj.mp (pick_uq (hF a1 a2) (hQ a1 a2) a3 b3)
  · exfalso; omega
  · exfalso; omega
  · rw [a2, b2]
theorem pick_two2 {w x r u wk wk' : Int32} {F F' : Nat → Prop} {Q Q' : Nat → Int → Int → Prop} {n n' : Nat} (hw : wk = wk') (hn : n = n') (hF : 0 ≤ w.toInt → w.toInt < wk.toInt → ∀ s : Nat, s < n + 1 → (F s ↔ F' s)) (hQ : 0 ≤ w.toInt → w.toInt < wk.toInt → ∀ s : Nat, s < n + 1 → ∀ a b : Int, Q s a b ↔ Q' s a b) (q : (0 ≤ w.toInt ∧ w.toInt < wk.toInt ∧ 0 ≤ x.toInt ∧ x.toInt ≤ 9999 ∧ ∃ y l : Int, pickI F Q (n + 1) r.toInt y l) ∨ ((w.toInt < 0 ∨ wk.toInt ≤ w.toInt ∨ x.toInt < 0 ∨ 9999 < x.toInt) ∧ r = -2)) (q' : (0 ≤ w.toInt ∧ w.toInt < wk'.toInt ∧ 0 ≤ x.toInt ∧ x.toInt ≤ 9999 ∧ ∃ y l : Int, pickI F' Q' (n' + 1) u.toInt y l) ∨ ((w.toInt < 0 ∨ wk'.toInt ≤ w.toInt ∨ x.toInt < 0 ∨ 9999 < x.toInt) ∧ u = -2)) : r = u := by
  subst hw; subst hn
  rcases q with ⟨a1, a2, a4, a5, y, l, a3⟩ | ⟨a1, a2⟩ <;> rcases q' with ⟨b1, b2, b4, b5, y', l', b3⟩ | ⟨b1, b2⟩
  · exact Int32.toInt_inj.mp (pick_uq (hF a1 a2) (hQ a1 a2) a3 b3)
  · exfalso; omega
  · exfalso; omega
  · rw [a2, b2]
theorem lowR_e {P P' : Nat → Prop} {t m t' m' : Nat → Int} {L u l : Int} (hP : ∀ j : Nat, P j ↔ P' j) (ht : ∀ j : Nat, P j → t' j = t j) (hm : ∀ j : Nat, P j → m' j = m j) : lowR P t m L u l ↔ lowR P' t' m' L u l :=
  lowR_sc (c := fun _ => 1) hP (fun j hj => ⟨by decide, by rw [ht j hj, Int.one_mul], by rw [hm j hj, Int.one_mul]⟩)
theorem cstQ_e {X X' : Int → Int → Prop} {Y Y' : Int → Int → Int → Int → Prop} {W p r u l : Int} (hX : ∀ a b : Int, X a b ↔ X' a b) (hY : ∀ a b c d : Int, Y a b c d ↔ Y' a b c d) : cstQ X Y W p r u l ↔ cstQ X' Y' W p r u l :=
  ⟨cstQ_imp (fun a b => (hX a b).mp) (fun a b c d => (hY a b c d).mp), cstQ_imp (fun a b => (hX a b).mpr) (fun a b c d => (hY a b c d).mpr)⟩
section LAW5
variable {w le le' sg sg' wk wk' wh wh' ow ow' rt rt' a b c d e0 f0 : Int32} {br br' co co' fr fm gm f : Nat → Int32} {C : Nat → Nat → Int32} {R : Nat → Nat}
theorem wg_law (h6 : rt = rt') (t3 : rt.toInt ≤ 3) (hr : rtE rt fr a b c) (hm : ∀ i : Nat, i < rt.toNatClampNeg - 1 → fm i = gm i) : ∀ x y z v : Int, wgR rt.toNatClampNeg (tI fr) (tI fm) (rcV (tI fr) (tI fm)) x y z v ↔ wgR rt'.toNatClampNeg (tI (lf [a, b, c, d, e0, f0])) (tI gm) (rcV (tI (lf [a, b, c, d, e0, f0])) (tI gm)) x y z v := by
  subst h6
  have e := nn_eq rt
  have h1 : ∀ i : Nat, i < rt.toNatClampNeg → tI fr i = tI (lf [a, b, c, d, e0, f0]) i := fun i hi => by
    have q : i = 0 ∨ i = 1 ∨ i = 2 := by omega
    rcases q with q | q | q
    · subst q; exact congrArg Int32.toInt (hr.1 (by omega))
    · subst q; exact congrArg Int32.toInt (hr.2.1 (by omega))
    · subst q; exact congrArg Int32.toInt (hr.2.2 (by omega))
  have h2 : ∀ i : Nat, i + 1 < rt.toNatClampNeg → tI fm i = tI gm i := fun i hi => congrArg Int32.toInt (hm i (by omega))
  have h3 := rcV_two h1 h2
  exact fun x y z v => ⟨wgR_two h1 h2 h3, wgR_two (fun i hi => (h1 i hi).symm) (fun i hi => (h2 i hi).symm) (fun i hi => (h3 i hi).symm)⟩
theorem cf_law (hs : sg = sg') (hb : ∀ i : Nat, i < sg.toNatClampNeg → br i = br' i) (hct : ∀ a : Nat, a < wk.toNatClampNeg → ∀ j : Nat, j < sg.toNatClampNeg → C (R a) j = f (4 * a + j)) {s : Nat} (h : s < sg.toNatClampNeg) : ∀ y : Nat, y < wk.toNatClampNeg → cfr br (C (R y)) s sg.toNatClampNeg = cfr br' (fun j => f (4 * y + j)) s sg'.toNatClampNeg := by
  subst hs
  exact fun y hy => cfr_two (hb _ h) hb (fun i hi => hct y hy i hi)
theorem barF (hs : sg = sg') (hw : wk = wk') (h1 : wh = wh') (h4 : ow = ow') (h5 : le = le') (hF : felC rt.toNatClampNeg fr fm le = felM rt'.toNatClampNeg (lf [a, b, c, d, e0, f0]) gm le) (hb : ∀ i : Nat, i < sg.toNatClampNeg → br i = br' i) (hc : ∀ i : Nat, i < wk.toNatClampNeg → co i = co' i) (hct : ∀ a : Nat, a < wk.toNatClampNeg → ∀ j : Nat, j < sg.toNatClampNeg → C (R a) j = f (4 * a + j)) (w0 : 0 ≤ w.toInt) (w1 : w.toInt < wk.toInt) {s : Nat} (h : s < sg.toNatClampNeg) : Fea (fun j => j < wk.toNatClampNeg) (neT (fun b => cfr br (C (R b)) s sg.toNatClampNeg) w.toNatClampNeg (1 : Int32).toInt) (neM co ow.toInt (felC rt.toNatClampNeg fr fm le).toInt wh.toInt w.toNatClampNeg) 0 ↔ Fea (fun j => j < wk'.toNatClampNeg) (neT (fun b => cfr br' (fun j => f (4 * b + j)) s sg'.toNatClampNeg) w.toNatClampNeg 1) (fun j => neM co' ow'.toInt (felM rt'.toNatClampNeg (lf [a, b, c, d, e0, f0]) gm le').toInt wh'.toInt w.toNatClampNeg j + neT (fun b => cfr br' (fun j => f (4 * b + j)) s sg'.toNatClampNeg) w.toNatClampNeg 1 j * (felM rt'.toNatClampNeg (lf [a, b, c, d, e0, f0]) gm le').toInt) (felM rt'.toNatClampNeg (lf [a, b, c, d, e0, f0]) gm le').toInt := by
  have z := cf_law hs hb hct h
  subst hw; subst h1; subst h4; subst h5
  rw [← hF, fea_sh, show (1 : Int32).toInt = 1 by decide]
  refine fea_two (fun j => Iff.rfl) (fun j hj => ?_) (fun j hj => ?_)
  · unfold neT
    simp only [z _ (nn_lt w0 w1), z j hj]
  · unfold neM lakV
    rw [hc _ (nn_lt w0 w1), hc j hj]
theorem barQ (hs : sg = sg') (hw : wk = wk') (h1 : wh = wh') (h4 : ow = ow') (h5 : le = le') (h6 : rt = rt') (t3 : rt.toInt ≤ 3) (hr : rtE rt fr a b c) (hm : ∀ i : Nat, i < rt.toNatClampNeg - 1 → fm i = gm i) (hF : felC rt.toNatClampNeg fr fm le = felM rt'.toNatClampNeg (lf [a, b, c, d, e0, f0]) gm le) (hb : ∀ i : Nat, i < sg.toNatClampNeg → br i = br' i) (hc : ∀ i : Nat, i < wk.toNatClampNeg → co i = co' i) (hct : ∀ a : Nat, a < wk.toNatClampNeg → ∀ j : Nat, j < sg.toNatClampNeg → C (R a) j = f (4 * a + j)) (w0 : 0 ≤ w.toInt) (w1 : w.toInt < wk.toInt) {s : Nat} (h : s < sg.toNatClampNeg) (u l : Int) : cstQ (lowR (fun j => j < wk.toNatClampNeg) (neT (fun b => cfr br (C (R b)) s sg.toNatClampNeg) w.toNatClampNeg (1 : Int32).toInt) (fun j => neM co ow.toInt (felC rt.toNatClampNeg fr fm le).toInt wh.toInt w.toNatClampNeg j + neT (fun b => cfr br (C (R b)) s sg.toNatClampNeg) w.toNatClampNeg (1 : Int32).toInt j * (felC rt.toNatClampNeg fr fm le).toInt) (felC rt.toNatClampNeg fr fm le).toInt) (wgR rt.toNatClampNeg (tI fr) (tI fm) (rcV (tI fr) (tI fm))) wh.toInt ((fun b => cfr br (C (R b)) s sg.toNatClampNeg) w.toNatClampNeg) ((wh.toInt - (fun b => cfr br (C (R b)) s sg.toNatClampNeg) w.toNatClampNeg) * le.toInt) u l ↔ cstQ (lowR (fun j => j < wk'.toNatClampNeg) (neT (fun b => cfr br' (fun j => f (4 * b + j)) s sg'.toNatClampNeg) w.toNatClampNeg 1) (fun j => neM co' ow'.toInt (felM rt'.toNatClampNeg (lf [a, b, c, d, e0, f0]) gm le').toInt wh'.toInt w.toNatClampNeg j + neT (fun b => cfr br' (fun j => f (4 * b + j)) s sg'.toNatClampNeg) w.toNatClampNeg 1 j * (felM rt'.toNatClampNeg (lf [a, b, c, d, e0, f0]) gm le').toInt) (felM rt'.toNatClampNeg (lf [a, b, c, d, e0, f0]) gm le').toInt) (wgR rt'.toNatClampNeg (tI (lf [a, b, c, d, e0, f0])) (tI gm) (rcV (tI (lf [a, b, c, d, e0, f0])) (tI gm))) wh'.toInt ((fun b => cfr br' (fun j => f (4 * b + j)) s sg'.toNatClampNeg) w.toNatClampNeg) ((wh'.toInt - (fun b => cfr br' (fun j => f (4 * b + j)) s sg'.toNatClampNeg) w.toNatClampNeg) * le'.toInt) u l := by
  have z := cf_law hs hb hct h
  have y := wg_law (d := d) (e0 := e0) (f0 := f0) h6 t3 hr hm
  subst hw; subst h1; subst h4; subst h5
  have k := z _ (nn_lt w0 w1)
  show cstQ _ _ _ (cfr br (C (R w.toNatClampNeg)) s sg.toNatClampNeg) ((wh.toInt - cfr br (C (R w.toNatClampNeg)) s sg.toNatClampNeg) * le.toInt) u l ↔ cstQ _ _ _ (cfr br' (fun j => f (4 * w.toNatClampNeg + j)) s sg'.toNatClampNeg) ((wh.toInt - cfr br' (fun j => f (4 * w.toNatClampNeg + j)) s sg'.toNatClampNeg) * le.toInt) u l
  rw [k, ← hF, show (1 : Int32).toInt = 1 by decide]
  have hT : ∀ j : Nat, j < wk.toNatClampNeg → neT (fun b => cfr br' (fun j => f (4 * b + j)) s sg'.toNatClampNeg) w.toNatClampNeg 1 j = neT (fun b => cfr br (C (R b)) s sg.toNatClampNeg) w.toNatClampNeg 1 j := fun j hj => by
    unfold neT
    simp only [k, z j hj]
  refine cstQ_e (fun p q => lowR_e (fun j => Iff.rfl) hT (fun j hj => ?_)) y
  rw [hT j hj]
  unfold neM lakV
  rw [hc _ (nn_lt w0 w1), hc j hj]
theorem wat_c {co co' : Nat → Int32} {ow fl W q : Int} {n a : Nat} (hW : 0 < W) (ha : a < n) (hc : ∀ i : Nat, i < n → co i = co' i) : ∀ j : Nat, j < n → 0 < (if j = a then W else 1) ∧ twV W q a j = (if j = a then W else 1) * twM q a j ∧ neM co ow fl W a j + twV W q a j * fl = (if j = a then W else 1) * mwM co' ow fl W q a j := by
  intro j hj
  unfold twV twM neM lakV mwM
  by_cases z : j = a
  · rw [if_pos z, if_pos z, if_pos z, if_pos z, if_pos z, hc a ha]
    exact ⟨hW, by rw [Int.mul_one], by grind⟩
  · rw [if_neg z, if_neg z, if_neg z, if_neg z, if_neg z, hc a ha, hc j hj]
    exact ⟨by decide, by rw [Int.one_mul], by rw [Int.one_mul]⟩
theorem watF (hw : wk = wk') (h1 : wh = wh') (h4 : ow = ow') (h5 : le = le') (hW : 2 ≤ wh.toInt) (hF : felC rt.toNatClampNeg fr fm le = felM rt'.toNatClampNeg (lf [a, b, c, d, e0, f0]) gm le) (hc : ∀ i : Nat, i < wk.toNatClampNeg → co i = co' i) (w0 : 0 ≤ w.toInt) (w1 : w.toInt < wk.toInt) (q : Int) : Fea (fun j => j < wk.toNatClampNeg) (twV wh.toInt q w.toNatClampNeg) (neM co ow.toInt (felC rt.toNatClampNeg fr fm le).toInt wh.toInt w.toNatClampNeg) 0 ↔ Fea (fun j => j < wk'.toNatClampNeg) (twM q w.toNatClampNeg) (mwM co' ow'.toInt (felM rt'.toNatClampNeg (lf [a, b, c, d, e0, f0]) gm le').toInt wh'.toInt q w.toNatClampNeg) (felM rt'.toNatClampNeg (lf [a, b, c, d, e0, f0]) gm le').toInt := by
  subst hw; subst h1; subst h4; subst h5
  rw [← hF, ← fea_sh (felC rt.toNatClampNeg fr fm le).toInt]
  exact (fea_sc (fun j => Iff.rfl) (wat_c (by omega) (nn_lt w0 w1) hc)).symm
theorem watQ (hw : wk = wk') (h1 : wh = wh') (h4 : ow = ow') (h5 : le = le') (hW : 2 ≤ wh.toInt) (h6 : rt = rt') (t3 : rt.toInt ≤ 3) (hr : rtE rt fr a b c) (hm : ∀ i : Nat, i < rt.toNatClampNeg - 1 → fm i = gm i) (hF : felC rt.toNatClampNeg fr fm le = felM rt'.toNatClampNeg (lf [a, b, c, d, e0, f0]) gm le) (hc : ∀ i : Nat, i < wk.toNatClampNeg → co i = co' i) (w0 : 0 ≤ w.toInt) (w1 : w.toInt < wk.toInt) (q X u l : Int) : cstQ (lowR (fun j => j < wk.toNatClampNeg) (twV wh.toInt q w.toNatClampNeg) (fun j => neM co ow.toInt (felC rt.toNatClampNeg fr fm le).toInt wh.toInt w.toNatClampNeg j + twV wh.toInt q w.toNatClampNeg j * (felC rt.toNatClampNeg fr fm le).toInt) (felC rt.toNatClampNeg fr fm le).toInt) (wgR rt.toNatClampNeg (tI fr) (tI fm) (rcV (tI fr) (tI fm))) wh.toInt wh.toInt ((wh.toInt - wh.toInt) * le.toInt + X) u l ↔ cstQ (lowR (fun j => j < wk'.toNatClampNeg) (twM q w.toNatClampNeg) (mwM co' ow'.toInt (felM rt'.toNatClampNeg (lf [a, b, c, d, e0, f0]) gm le').toInt wh'.toInt q w.toNatClampNeg) (felM rt'.toNatClampNeg (lf [a, b, c, d, e0, f0]) gm le').toInt) (wgR rt'.toNatClampNeg (tI (lf [a, b, c, d, e0, f0])) (tI gm) (rcV (tI (lf [a, b, c, d, e0, f0])) (tI gm))) wh'.toInt wh'.toInt ((wh'.toInt - wh'.toInt) * le'.toInt + X) u l := by
  have y := wg_law (d := d) (e0 := e0) (f0 := f0) h6 t3 hr hm
  subst hw; subst h1; subst h4; subst h5
  rw [← hF]
  exact cstQ_e (fun p v => (lowR_sc (fun j => Iff.rfl) (wat_c (by omega) (nn_lt w0 w1) hc)).symm) y
end LAW5
