/-! CREW: the needs of both programs -/
theorem nlt_s {b b' : Int32} (e : b'.toInt = b.toInt + 1) (b0 : 0 ≤ b.toInt) : ∀ j : Nat, j < b'.toNatClampNeg ↔ j < b.toNatClampNeg ∨ j = b.toNatClampNeg := by
  have e2 := nn_s e b0
  intro j; omega
theorem nlt_0 : ∀ j : Nat, ¬ j < Int32.toNatClampNeg 0 := fun j h => nl_0 h
theorem lowI_iff {P Q : Nat → Prop} {t m : Nat → Int} {L lu ll : Int} (h : lowI P t m L lu ll) (hQ : ∀ j : Nat, Q j ↔ P j) : lowI Q t m L lu ll := by
  obtain ⟨a1, a2, a3, a4⟩ := h
  refine ⟨a1, ?_, a3, fun j hj => a4 j ((hQ j).mp hj)⟩
  rcases a2 with c | ⟨j, j1, j2⟩
  · exact Or.inl c
  · exact Or.inr ⟨j, (hQ j).mpr j1, j2⟩
theorem capI_iff {P Q : Nat → Prop} {t m : Nat → Int} {cu cl : Int} (h : capI P t m cu cl) (hQ : ∀ j : Nat, Q j ↔ P j) : capI Q t m cu cl := by
  rcases h with ⟨b, b2⟩ | ⟨b1, ⟨j, j1, j2⟩, b3⟩
  · exact Or.inl ⟨b, fun j hj => b2 j ((hQ j).mp hj)⟩
  · exact Or.inr ⟨b1, ⟨j, (hQ j).mpr j1, j2⟩, fun i hi => b3 i ((hQ i).mp hi)⟩
theorem brI_iff {P Q : Nat → Prop} {t m : Nat → Int} {B : Prop} (h : brI P t m B) (hQ : ∀ j : Nat, Q j ↔ P j) : brI Q t m B := by
  unfold brI at h ⊢
  rw [h]
  exact ⟨fun ⟨j, j1, j2⟩ => ⟨j, (hQ j).mpr j1, j2⟩, fun ⟨j, j1, j2⟩ => ⟨j, (hQ j).mp j1, j2⟩⟩
/-- what a WORK lacks against another one (against else, in its own place) -/
def lakV (co : Nat → Int32) (ow fl : Int) (a b : Nat) : Int := if b = a then (co a).toInt + ow - fl else (co a).toInt - (co b).toInt
def neT (cf : Nat → Int) (a : Nat) (w : Int) (b : Nat) : Int := (cf a - (if b = a then 0 else cf b)) * w
def neM (co : Nat → Int32) (ow fl all : Int) (a b : Nat) : Int := all * lakV co ow fl a b
theorem lak_y {co : Nat → Int32} {a b x y o z r : Int32} {fl : Int} (h : b.toInt = a.toInt) (ex : x = co a.toNatClampNeg) (ty : y.toInt = x.toInt + o.toInt) (hz : z.toInt = fl) (tr : r.toInt = y.toInt - z.toInt) : r.toInt = lakV co o.toInt fl a.toNatClampNeg b.toNatClampNeg := by
  unfold lakV; rw [if_pos (nn_e h), ← ex, tr, ty, hz]
theorem lak_n {co : Nat → Int32} {a b x y o r : Int32} {fl : Int} (h : ¬ b.toInt = a.toInt) (a0 : 0 ≤ a.toInt) (b0 : 0 ≤ b.toInt) (ex : x = co a.toNatClampNeg) (ey : y = co b.toNatClampNeg) (tr : r.toInt = x.toInt - y.toInt) : r.toInt = lakV co o.toInt fl a.toNatClampNeg b.toNatClampNeg := by
  unfold lakV; rw [if_neg (nn_ne b0 a0 h), ← ex, ← ey, tr]
theorem lak_b {co : Nat → Int32} {ow fl : Int} {a b : Nat} (hc : ivf co 0 99) (o0 : 0 ≤ ow) (o1 : ow ≤ 99) (f0 : 0 ≤ fl) (f1 : fl ≤ 495) : -495 ≤ lakV co ow fl a b ∧ lakV co ow fl a b ≤ 198 := by
  have z1 := (hc a).u; have z2 := (hc b).u
  unfold lakV; split <;> omega
/-- FEELING stays within five times the wage -/
theorem fsc_b {rt : Nat} {ra mk : Nat → Int32} {w : Int32} (hR : mkR rt mk) (hr : ivf ra 0 5) (w0 : 0 ≤ w.toInt) (w1 : w.toInt ≤ 9999) : ∀ i : Nat, i ≤ rt → 0 ≤ (fsc rt ra mk w i).2.toInt ∧ (fsc rt ra mk w i).2.toInt ≤ w.toInt ∧ 0 ≤ (fsc rt ra mk w i).1.toInt ∧ (fsc rt ra mk w i).1.toInt ≤ 5 * (fsc rt ra mk w i).2.toInt
  | 0, _ => by
    have e1 : (fsc rt ra mk w 0).2 = 0 := rfl
    have e2 : (fsc rt ra mk w 0).1 = 0 := rfl
    rw [e1, e2, show (0 : Int32).toInt = 0 by decide]; omega
  | i + 1, hi => by
    obtain ⟨q1, q2, q3, q4⟩ := fsc_b hR hr w0 w1 i (by omega)
    by_cases c : (fsc rt ra mk w i).2.toInt < (fto rt mk w i).toInt
    · have ew : (fto rt mk w i).toInt ≤ w.toInt := by
        unfold fto; split
        · next u => exact Int.le_of_lt u.2
        · exact Int.le_refl _
      rw [fsc, if_pos c]
      show 0 ≤ (fto rt mk w i).toInt ∧ (fto rt mk w i).toInt ≤ w.toInt ∧ 0 ≤ ((fsc rt ra mk w i).1 + ra i * (fto rt mk w i - (fsc rt ra mk w i).2)).toInt ∧ ((fsc rt ra mk w i).1 + ra i * (fto rt mk w i - (fsc rt ra mk w i).2)).toInt ≤ 5 * (fto rt mk w i).toInt
      have z := (hr i).u
      have d := i32_sub (x := fto rt mk w i - (fsc rt ra mk w i).2) rfl rfl rfl (by omega) (by omega)
      have p := i32_mulv (x := ra i * (fto rt mk w i - (fsc rt ra mk w i).2)) rfl rfl d (b := 5) (d := 9999) z.1 z.2 (by omega) (by omega) (by decide)
      have s := i32_add (x := (fsc rt ra mk w i).1 + ra i * (fto rt mk w i - (fsc rt ra mk w i).2)) rfl rfl rfl (by omega) (by omega)
      omega
    · rw [fsc, if_neg c]; exact ⟨q1, q2, q3, q4⟩
theorem felC_b {rt : Nat} {ra mk : Nat → Int32} {w : Int32} (hR : mkR rt mk) (hr : ivf ra 0 5) (w0 : 0 ≤ w.toInt) (w1 : w.toInt ≤ 99) : 0 ≤ (felC rt ra mk w).toInt ∧ (felC rt ra mk w).toInt ≤ 495 := by
  have q := fsc_b hR hr w0 (by omega) rt (Nat.le_refl _)
  unfold felC; omega
theorem i64_ml {x y m : Int64} (e : m = x * y) (x0 : -10000000 ≤ x.toInt) (x1 : x.toInt ≤ 10000000) (y0 : -10000000 ≤ y.toInt) (y1 : y.toInt ≤ 10000000) : m.toInt = x.toInt * y.toInt := i64_mulE (A := 10000000) (B := 10000000) e (jv_self x0 x1) (jv_self y0 y1) (by decide)
theorem neT_at {cf : Nat → Int} {a b : Nat} {w : Int} {y : Int64} {g q d : Int} (hg : g = cf a) (hq : q = if b = a then 0 else cf b) (hd : d = g - q) (hy : y.toInt = d * w) : y.toInt = neT cf a w b := by
  unfold neT; rw [hy, hd, hg, hq]
theorem neM_at {co : Nat → Int32} {ow fl all : Int} {a b : Nat} {y : Int64} {k : Int} (hk : k = lakV co ow fl a b) (hy : y.toInt = all * k) : y.toInt = neM co ow fl all a b := by
  unfold neM; rw [hy, hk]
theorem if_y {b a : Int32} {X : Int} (h : b.toInt = a.toInt) : (0 : Int) = if b.toNatClampNeg = a.toNatClampNeg then 0 else X := by rw [if_pos (nn_e h)]
theorem if_n {b a : Int32} {X k : Int} (h : ¬ b.toInt = a.toInt) (a0 : 0 ≤ a.toInt) (b0 : 0 ≤ b.toInt) (hk : k = X) : k = if b.toNatClampNeg = a.toNatClampNeg then 0 else X := by rw [if_neg (nn_ne b0 a0 h), hk]
theorem l_neg {x y : Int64} (e : x = -y) (h : -10000000 ≤ y.toInt) : x.toInt = -y.toInt := by
  have b := i64_max y
  rw [e, Int64.toInt_neg]; exact i64_bm (by omega) (by omega)
theorem mkR_eq {rt rt' : Int32} {f g : Nat → Int32} (hr : rt = rt') (hm : ∀ i : Nat, i < rt.toNatClampNeg - 1 → f i = g i) (h : mkR rt'.toNatClampNeg g) : mkR rt.toNatClampNeg f := by
  subst hr
  exact ⟨fun z => by rw [hm 0 (by omega)]; exact h.1 z, fun z => by rw [hm 0 (by omega), hm 1 (by omega)]; exact h.2.1 z, h.2.2⟩
theorem sq_b {a : Int} (h0 : 2 ≤ a) (h1 : a ≤ 10) : 0 ≤ a * a ∧ a * a ≤ 100 := by
  have m0 : 0 ≤ a * a := Int.mul_nonneg (by omega) (by omega)
  have m1 : a * a ≤ 10 * a := Int.mul_le_mul_of_nonneg_right h1 (by omega)
  omega
theorem cfr_sz {br c : Nat → Int32} {k : Nat} {u u' s s' bs bb : Int32} (h : u.toInt = cfr br c k s.toNatClampNeg) (e1 : bs = br s.toNatClampNeg) (e2 : bb = br k) (hl : bs.toInt < bb.toInt) (tu : u'.toInt = u.toInt + 0) (es : s'.toInt = s.toInt + 1) (s0 : 0 ≤ s.toInt) : u'.toInt = cfr br c k s'.toNatClampNeg := by
  rw [nn_s es s0, cfr, ← e1, ← e2, if_neg (by omega), ← h]; exact tu
theorem ap_e {p0 p1 p2 p3 a b r : Int64} (e1 : a = p0 * p3) (e2 : b = p2 * p1) (e3 : r = a - b) : -10000000 ≤ p0.toInt ∧ p0.toInt ≤ 10000000 ∧ -10000000 ≤ p1.toInt ∧ p1.toInt ≤ 10000000 ∧ -10000000 ≤ p2.toInt ∧ p2.toInt ≤ 10000000 ∧ -10000000 ≤ p3.toInt ∧ p3.toInt ≤ 10000000 → r.toInt = p0.toInt * p3.toInt - p2.toInt * p1.toInt := by
  rintro ⟨a1, a2, b1, b2, c1, c2, d1, d2⟩
  have x1 := i64_ml e1 a1 a2 d1 d2
  have x2 := i64_ml e2 c1 c2 b1 b2
  have y1 : jv a (-100000000000000) 100000000000000 := jv.mula (B := 10000000) (D := 10000000) e1 (jv_self a1 a2) (jv_self d1 d2) (by decide) (by decide) (by decide) (by decide) (by decide) (by decide)
  have y2 : jv b (-100000000000000) 100000000000000 := jv.mula (B := 10000000) (D := 10000000) e2 (jv_self c1 c2) (jv_self b1 b2) (by decide) (by decide) (by decide) (by decide) (by decide) (by decide)
  rw [i64_subE e3 y1 y2 (by decide) (by decide), x1, x2]
theorem nlt_0n {a : Nat} : ∀ j : Nat, ¬ (j < Int32.toNatClampNeg 0 ∧ ¬ j = a) := fun j h => nl_0 h.1
theorem nlt_so {b b' a : Int32} (e : b'.toInt = b.toInt + 1) (b0 : 0 ≤ b.toInt) (h : b.toInt = a.toInt) : ∀ j : Nat, (j < b'.toNatClampNeg ∧ ¬ j = a.toNatClampNeg) ↔ (j < b.toNatClampNeg ∧ ¬ j = a.toNatClampNeg) := by
  have e2 := nn_s e b0; have e3 := nn_e h
  intro j; omega
theorem nlt_sn {b b' a : Int32} (e : b'.toInt = b.toInt + 1) (b0 : 0 ≤ b.toInt) (a0 : 0 ≤ a.toInt) (h : ¬ b.toInt = a.toInt) : ∀ j : Nat, (j < b'.toNatClampNeg ∧ ¬ j = a.toNatClampNeg) ↔ (j < b.toNatClampNeg ∧ ¬ j = a.toNatClampNeg) ∨ j = b.toNatClampNeg := by
  have e2 := nn_s e b0; have e3 := nn_ne b0 a0 h
  intro j; omega
theorem crM_o {co : Nat → Int32} {cf : Nat → Int} {a b x z k : Int32} {ow fl W P Q F y1 y2 : Int} (h : ¬ b.toInt = a.toInt) (a0 : 0 ≤ a.toInt) (b0 : 0 ≤ b.toInt) (hp : P = cf a.toNatClampNeg) (hq : Q = cf b.toNatClampNeg) (ex : x = co a.toNatClampNeg) (ez : z = co b.toNatClampNeg) (tk : k.toInt = x.toInt - z.toInt) (hf : F = fl) (e1 : y1 = (P - Q) * P) (e2 : y2 = W * W * k.toInt + (P - Q) * P * F) : y1 = neT cf a.toNatClampNeg (cf a.toNatClampNeg) b.toNatClampNeg ∧ y2 = (fun j => neM co ow fl (W * W) a.toNatClampNeg j + neT cf a.toNatClampNeg (cf a.toNatClampNeg) j * fl) b.toNatClampNeg := by
  have n := nn_ne b0 a0 h
  have t : y1 = neT cf a.toNatClampNeg (cf a.toNatClampNeg) b.toNatClampNeg := by unfold neT; rw [if_neg n, ← hp, ← hq]; exact e1
  refine ⟨t, ?_⟩
  show y2 = neM co ow fl (W * W) a.toNatClampNeg b.toNatClampNeg + neT cf a.toNatClampNeg (cf a.toNatClampNeg) b.toNatClampNeg * fl
  rw [← t, e1, e2, ← hf]
  unfold neM lakV
  rw [if_neg n, ← ex, ← ez, tk]
theorem crM_a {co : Nat → Int32} {cf : Nat → Int} {a x o k : Int32} {fl W P F y1 y2 : Int} (hp : P = cf a.toNatClampNeg) (ex : x = co a.toNatClampNeg) (tk : k.toInt = x.toInt + o.toInt) (hf : F = fl) (e1 : y1 = P * P) (e2 : y2 = W * W * k.toInt - (W * W - P * P) * F) : y1 = neT cf a.toNatClampNeg (cf a.toNatClampNeg) a.toNatClampNeg ∧ y2 = (fun j => neM co o.toInt fl (W * W) a.toNatClampNeg j + neT cf a.toNatClampNeg (cf a.toNatClampNeg) j * fl) a.toNatClampNeg := by
  have t : y1 = neT cf a.toNatClampNeg (cf a.toNatClampNeg) a.toNatClampNeg := by unfold neT; rw [if_pos rfl, ← hp, Int.sub_zero]; exact e1
  refine ⟨t, ?_⟩
  show y2 = neM co o.toInt fl (W * W) a.toNatClampNeg a.toNatClampNeg + neT cf a.toNatClampNeg (cf a.toNatClampNeg) a.toNatClampNeg * fl
  rw [← t, e1, e2, ← hf]
  unfold neM lakV
  rw [if_pos rfl, ← ex, tk]
  grind
theorem crew_two {w x r u sg sg' wk wk' wh wh' ow ow' le le' rt rt' a b c d e0 f0 : Int32} {br br' co co' fr fm gm f : Nat → Int32} {C : Nat → Nat → Int32} {R : Nat → Nat} (hs : sg = sg') (hw : wk = wk') (h1 : wh = wh') (h4 : ow = ow') (h5 : le = le') (hF : felC rt.toNatClampNeg fr fm le = felM rt'.toNatClampNeg (lf [a, b, c, d, e0, f0]) gm le) (hb : ∀ i : Nat, i < sg.toNatClampNeg → br i = br' i) (hc : ∀ i : Nat, i < wk.toNatClampNeg → co i = co' i) (hct : ∀ a : Nat, a < wk.toNatClampNeg → ∀ j : Nat, j < sg.toNatClampNeg → C (R a) j = f (4 * a + j))
    (q : (0 ≤ w.toInt ∧ w.toInt < wk.toInt ∧ 0 ≤ x.toInt ∧ x.toInt < sg.toInt ∧ ((r = 1 ∧ Fea (fun j => j < wk.toNatClampNeg) (neT (fun b => cfr br (C (R b)) x.toNatClampNeg sg.toNatClampNeg) w.toNatClampNeg ((fun b => cfr br (C (R b)) x.toNatClampNeg sg.toNatClampNeg) w.toNatClampNeg)) (neM co ow.toInt (felC rt.toNatClampNeg fr fm le).toInt (wh.toInt * wh.toInt) w.toNatClampNeg) 0) ∨ (r = -1 ∧ ¬ Fea (fun j => j < wk.toNatClampNeg) (neT (fun b => cfr br (C (R b)) x.toNatClampNeg sg.toNatClampNeg) w.toNatClampNeg ((fun b => cfr br (C (R b)) x.toNatClampNeg sg.toNatClampNeg) w.toNatClampNeg)) (neM co ow.toInt (felC rt.toNatClampNeg fr fm le).toInt (wh.toInt * wh.toInt) w.toNatClampNeg) 0))) ∨ ((w.toInt < 0 ∨ wk.toInt ≤ w.toInt ∨ x.toInt < 0 ∨ sg.toInt ≤ x.toInt) ∧ r = -2))
    (q' : (0 ≤ w.toInt ∧ w.toInt < wk'.toInt ∧ 0 ≤ x.toInt ∧ x.toInt < sg'.toInt ∧ ((u = 1 ∧ Fea (fun j => j < wk'.toNatClampNeg) (neT (fun b => cfr br' (fun j => f (4 * b + j)) x.toNatClampNeg sg'.toNatClampNeg) w.toNatClampNeg ((fun b => cfr br' (fun j => f (4 * b + j)) x.toNatClampNeg sg'.toNatClampNeg) w.toNatClampNeg)) (fun j => (neM co' ow'.toInt (felM rt'.toNatClampNeg (lf [a, b, c, d, e0, f0]) gm le').toInt (wh'.toInt * wh'.toInt) w.toNatClampNeg) j + (neT (fun b => cfr br' (fun j => f (4 * b + j)) x.toNatClampNeg sg'.toNatClampNeg) w.toNatClampNeg ((fun b => cfr br' (fun j => f (4 * b + j)) x.toNatClampNeg sg'.toNatClampNeg) w.toNatClampNeg)) j * (felM rt'.toNatClampNeg (lf [a, b, c, d, e0, f0]) gm le').toInt) (felM rt'.toNatClampNeg (lf [a, b, c, d, e0, f0]) gm le').toInt) ∨ (u = -1 ∧ ¬ Fea (fun j => j < wk'.toNatClampNeg) (neT (fun b => cfr br' (fun j => f (4 * b + j)) x.toNatClampNeg sg'.toNatClampNeg) w.toNatClampNeg ((fun b => cfr br' (fun j => f (4 * b + j)) x.toNatClampNeg sg'.toNatClampNeg) w.toNatClampNeg)) (fun j => (neM co' ow'.toInt (felM rt'.toNatClampNeg (lf [a, b, c, d, e0, f0]) gm le').toInt (wh'.toInt * wh'.toInt) w.toNatClampNeg) j + (neT (fun b => cfr br' (fun j => f (4 * b + j)) x.toNatClampNeg sg'.toNatClampNeg) w.toNatClampNeg ((fun b => cfr br' (fun j => f (4 * b + j)) x.toNatClampNeg sg'.toNatClampNeg) w.toNatClampNeg)) j * (felM rt'.toNatClampNeg (lf [a, b, c, d, e0, f0]) gm le').toInt) (felM rt'.toNatClampNeg (lf [a, b, c, d, e0, f0]) gm le').toInt))) ∨ ((w.toInt < 0 ∨ wk'.toInt ≤ w.toInt ∨ x.toInt < 0 ∨ sg'.toInt ≤ x.toInt) ∧ u = -2)) : r = u := by
  subst hs; subst hw; subst h1; subst h4; subst h5
  rw [← hF] at q'
  rcases q with ⟨a1, a2, a3, a4, a5⟩ | ⟨a1, a2⟩ <;> rcases q' with ⟨b1, b2, b3, b4, b5⟩ | ⟨b1, b2⟩
  · have hx := nn_lt a3 a4
    have z : ∀ y : Nat, y < wk.toNatClampNeg → cfr br (C (R y)) x.toNatClampNeg sg.toNatClampNeg = cfr br' (fun j => f (4 * y + j)) x.toNatClampNeg sg.toNatClampNeg := fun y hy => cfr_two (hb _ hx) hb (fun i hi => hct y hy i hi)
    have hz := z _ (nn_lt a1 a2)
    have k : Fea (fun j => j < wk.toNatClampNeg) (neT (fun b => cfr br (C (R b)) x.toNatClampNeg sg.toNatClampNeg) w.toNatClampNeg ((fun b => cfr br (C (R b)) x.toNatClampNeg sg.toNatClampNeg) w.toNatClampNeg)) (neM co ow.toInt (felC rt.toNatClampNeg fr fm le).toInt (wh.toInt * wh.toInt) w.toNatClampNeg) 0 ↔ Fea (fun j => j < wk.toNatClampNeg) (neT (fun b => cfr br' (fun j => f (4 * b + j)) x.toNatClampNeg sg.toNatClampNeg) w.toNatClampNeg ((fun b => cfr br' (fun j => f (4 * b + j)) x.toNatClampNeg sg.toNatClampNeg) w.toNatClampNeg)) (neM co' ow.toInt (felC rt.toNatClampNeg fr fm le).toInt (wh.toInt * wh.toInt) w.toNatClampNeg) 0 := by
      refine fea_two (fun j => Iff.rfl) (fun j hj => ?_) (fun j hj => ?_)
      · unfold neT
        simp only [hz, z j hj]
      · unfold neM lakV
        rw [hc _ (nn_lt a1 a2), hc j hj]
    have k2 := fea_sh (P := fun j => j < wk.toNatClampNeg) (t := neT (fun b => cfr br' (fun j => f (4 * b + j)) x.toNatClampNeg sg.toNatClampNeg) w.toNatClampNeg ((fun b => cfr br' (fun j => f (4 * b + j)) x.toNatClampNeg sg.toNatClampNeg) w.toNatClampNeg)) (m := neM co' ow.toInt (felC rt.toNatClampNeg fr fm le).toInt (wh.toInt * wh.toInt) w.toNatClampNeg) (felC rt.toNatClampNeg fr fm le).toInt
    rcases a5 with ⟨c1, c2⟩ | ⟨c1, c2⟩ <;> rcases b5 with ⟨d1, d2⟩ | ⟨d1, d2⟩
    · rw [c1, d1]
    · exact absurd (k2.mpr (k.mp c2)) d2
    · exact absurd (k.mpr (k2.mp d2)) c2
    · rw [c1, d1]
  · exfalso; omega
  · exfalso; omega
  · rw [a2, b2]
