/-! RATIO, MIX, PRESS: as both programs count them -/
/-- SIGN t brings more, and the CHANCES fall behind -/
def rbad (br c d : Nat → Int32) (s t : Nat) : Prop := (br s).toInt < (br t).toInt ∧ (c t * d s).toInt < (c s * d t).toInt
section RAT
variable {br c d : Nat → Int32} {s t t' bs bt x1 x2 x3 x4 m1 m2 sg : Int32}
theorem rb_a (e1 : bt = br t.toNatClampNeg) (e2 : bs = br s.toNatClampNeg) (h : bt.toInt ≤ bs.toInt) : ¬ rbad br c d s.toNatClampNeg t.toNatClampNeg := fun q => by
  have z := q.1; rw [← e1, ← e2] at z; omega
theorem rb_b (e1 : x1 = c t.toNatClampNeg) (e2 : x2 = d s.toNatClampNeg) (f1 : m1 = x1 * x2) (e3 : x3 = c s.toNatClampNeg) (e4 : x4 = d t.toNatClampNeg) (f2 : m2 = x3 * x4) (h : m2.toInt ≤ m1.toInt) : ¬ rbad br c d s.toNatClampNeg t.toNatClampNeg := fun q => by
  have z := q.2; rw [← e1, ← e2, ← e3, ← e4, ← f1, ← f2] at z; omega
theorem rb_c (g1 : bt = br t.toNatClampNeg) (g2 : bs = br s.toNatClampNeg) (g : bs.toInt < bt.toInt) (e1 : x1 = c t.toNatClampNeg) (e2 : x2 = d s.toNatClampNeg) (f1 : m1 = x1 * x2) (e3 : x3 = c s.toNatClampNeg) (e4 : x4 = d t.toNatClampNeg) (f2 : m2 = x3 * x4) (h : m1.toInt < m2.toInt) : rbad br c d s.toNatClampNeg t.toNatClampNeg := by
  refine ⟨?_, ?_⟩
  · rw [← g1, ← g2]; exact g
  · rw [← e1, ← e2, ← e3, ← e4, ← f1, ← f2]; exact h
theorem rb_up {k : Nat} (h : ∀ y : Nat, y < t.toNatClampNeg → ¬ rbad br c d k y) (n : ¬ rbad br c d k t.toNatClampNeg) (e : t'.toInt = t.toInt + 1) (t0 : 0 ≤ t.toInt) : ∀ y : Nat, y < t'.toNatClampNeg → ¬ rbad br c d k y := by
  have e2 := nn_s e t0
  intro y hy
  by_cases q : y = t.toNatClampNeg
  · subst q; exact n
  · exact h y (by omega)
theorem rb_out {s' : Int32} (h : ∀ x : Nat, x < s.toNatClampNeg → ∀ y : Nat, y < sg.toNatClampNeg → ¬ rbad br c d x y) (n : ∀ y : Nat, y < t.toNatClampNeg → ¬ rbad br c d s.toNatClampNeg y) (ht : sg.toInt ≤ t.toInt) (e : s'.toInt = s.toInt + 1) (s0 : 0 ≤ s.toInt) : ∀ x : Nat, x < s'.toNatClampNeg → ∀ y : Nat, y < sg.toNatClampNeg → ¬ rbad br c d x y := by
  have e2 := nn_s e s0; have e3 := nn_eq t; have e4 := nn_eq sg
  intro x hx y hy
  by_cases q : x = s.toNatClampNeg
  · subst q; exact n y (by omega)
  · exact h x (by omega) y hy
theorem rb_end (h : ∀ x : Nat, x < s.toNatClampNeg → ∀ y : Nat, y < sg.toNatClampNeg → ¬ rbad br c d x y) (hs : sg.toInt ≤ s.toInt) : ∀ x : Nat, x < sg.toNatClampNeg → ∀ y : Nat, y < sg.toNatClampNeg → ¬ rbad br c d x y := by
  have e3 := nn_eq s; have e4 := nn_eq sg
  exact fun x hx => h x (by omega)
end RAT
theorem rbad_two {br br' c c' d d' : Nat → Int32} {n : Nat} (hb : ∀ i : Nat, i < n → br i = br' i) (hc : ∀ i : Nat, i < n → c i = c' i) (hd : ∀ i : Nat, i < n → d i = d' i) {x y : Nat} (hx : x < n) (hy : y < n) : rbad br c d x y ↔ rbad br' c' d' x y := by
  unfold rbad
  rw [hb x hx, hb y hy, hc x hx, hc y hy, hd x hx, hd y hy]
theorem ratio_two {w x r u sg sg' wk wk' : Int32} {br br' f : Nat → Int32} {C : Nat → Nat → Int32} {R : Nat → Nat} (hs : sg = sg') (hw : wk = wk') (hb : ∀ i : Nat, i < sg.toNatClampNeg → br i = br' i) (hct : ∀ a : Nat, a < wk.toNatClampNeg → ∀ j : Nat, j < sg.toNatClampNeg → C (R a) j = f (4 * a + j))
    (q : (0 ≤ w.toInt ∧ w.toInt < wk.toInt ∧ 0 ≤ x.toInt ∧ x.toInt < wk.toInt ∧ ((r = 1 ∧ ∀ a : Nat, a < sg.toNatClampNeg → ∀ b : Nat, b < sg.toNatClampNeg → ¬ rbad br (C (R w.toNatClampNeg)) (C (R x.toNatClampNeg)) a b) ∨ (r = 0 ∧ ∃ a b : Nat, a < sg.toNatClampNeg ∧ b < sg.toNatClampNeg ∧ rbad br (C (R w.toNatClampNeg)) (C (R x.toNatClampNeg)) a b))) ∨ ((w.toInt < 0 ∨ wk.toInt ≤ w.toInt ∨ x.toInt < 0 ∨ wk.toInt ≤ x.toInt) ∧ r = -2))
    (q' : (0 ≤ w.toInt ∧ w.toInt < wk'.toInt ∧ 0 ≤ x.toInt ∧ x.toInt < wk'.toInt ∧ ((u = 1 ∧ ∀ a : Nat, a < sg'.toNatClampNeg → ∀ b : Nat, b < sg'.toNatClampNeg → ¬ rbad br' (fun j => f (4 * w.toNatClampNeg + j)) (fun j => f (4 * x.toNatClampNeg + j)) a b) ∨ (u = 0 ∧ ∃ a b : Nat, a < sg'.toNatClampNeg ∧ b < sg'.toNatClampNeg ∧ rbad br' (fun j => f (4 * w.toNatClampNeg + j)) (fun j => f (4 * x.toNatClampNeg + j)) a b))) ∨ ((w.toInt < 0 ∨ wk'.toInt ≤ w.toInt ∨ x.toInt < 0 ∨ wk'.toInt ≤ x.toInt) ∧ u = -2)) : r = u := by
  subst hs; subst hw
  rcases q with ⟨a1, a2, a3, a4, a5⟩ | ⟨a1, a2⟩ <;> rcases q' with ⟨b1, b2, b3, b4, b5⟩ | ⟨b1, b2⟩
  · have z : ∀ a b : Nat, a < sg.toNatClampNeg → b < sg.toNatClampNeg → (rbad br (C (R w.toNatClampNeg)) (C (R x.toNatClampNeg)) a b ↔ rbad br' (fun j => f (4 * w.toNatClampNeg + j)) (fun j => f (4 * x.toNatClampNeg + j)) a b) := fun a b ha hb' => rbad_two hb (fun i hi => hct _ (nn_lt a1 a2) i hi) (fun i hi => hct _ (nn_lt a3 a4) i hi) ha hb'
    rcases a5 with ⟨c1, c2⟩ | ⟨c1, a, b, c2, c3, c4⟩ <;> rcases b5 with ⟨d1, d2⟩ | ⟨d1, a', b', d2, d3, d4⟩
    · rw [c1, d1]
    · exact absurd ((z a' b' d2 d3).mpr d4) (c2 a' d2 b' d3)
    · exact absurd ((z a b c2 c3).mp c4) (d2 a c2 b c3)
    · rw [c1, d1]
  · exfalso; omega
  · exfalso; omega
  · rw [a2, b2]
/-- MIX: its numbers' sum, and their sum of products, without WORK a -/
def mxT (mi : Nat → Int32) (a : Nat) : Nat → Int
  | 0 => 0
  | b + 1 => mxT mi a b + (if b = a then 0 else (mi b).toInt)
def mxS (mi v : Nat → Int32) (a : Nat) : Nat → Int
  | 0 => 0
  | b + 1 => mxS mi v a b + (if b = a then 0 else (mi b).toInt * (v b).toInt)
theorem mxT_b {mi : Nat → Int32} {a : Nat} (h : ∀ i : Nat, i < 5 → iv (mi i) 0 1000) : ∀ n : Nat, n ≤ 5 → 0 ≤ mxT mi a n ∧ mxT mi a n ≤ 1000 * n
  | 0, _ => ⟨Int.le_refl _, by show (0 : Int) ≤ 1000 * ((0 : Nat) : Int); decide⟩
  | n + 1, hn => by
    have q := mxT_b (a := a) h n (by omega)
    have z := (h n (by omega)).u
    rw [mxT]
    split <;> omega
theorem mxS_b {mi v : Nat → Int32} {a : Nat} (h : ∀ i : Nat, i < 5 → iv (mi i) 0 1000) (hv : ∀ i : Nat, i < 5 → iv (v i) 0 99) : ∀ n : Nat, n ≤ 5 → 0 ≤ mxS mi v a n ∧ mxS mi v a n ≤ 99000 * n
  | 0, _ => ⟨Int.le_refl _, by show (0 : Int) ≤ 99000 * ((0 : Nat) : Int); decide⟩
  | n + 1, hn => by
    have q := mxS_b (a := a) h hv n (by omega)
    have z := (h n (by omega)).u
    have y := (hv n (by omega)).u
    have m0 : 0 ≤ (mi n).toInt * (v n).toInt := Int.mul_nonneg z.1 y.1
    have m1 : (mi n).toInt * (v n).toInt ≤ 1000 * (v n).toInt := Int.mul_le_mul_of_nonneg_right z.2 y.1
    rw [mxS]
    split <;> omega
section MIX
variable {mi v : Nat → Int32} {a : Nat} {s s' x y m b b' : Int32}
theorem i32_sm (e : m = x * y) {p q : Int} (hx : x.toInt = p) (hy : y.toInt = q) (p0 : 0 ≤ p) (p1 : p ≤ 500000) (q0 : 0 ≤ q) (q1 : q ≤ 1000) : m.toInt = p * q := by
  have m0 : 0 ≤ p * q := Int.mul_nonneg p0 q0
  have m1 : p * q ≤ 500000 * q := Int.mul_le_mul_of_nonneg_right p1 q0
  exact i32_mul e hx hy (by omega) (by omega)
theorem mxT_0 : (0 : Int32).toInt = mxT mi a (Int32.toNatClampNeg 0) := by rw [show Int32.toNatClampNeg 0 = 0 from by decide]; rfl
theorem mxS_0 : (0 : Int32).toInt = mxS mi v a (Int32.toNatClampNeg 0) := by rw [show Int32.toNatClampNeg 0 = 0 from by decide]; rfl
theorem mxT_st (h : s.toInt = mxT mi a b.toNatClampNeg) (he : b.toNatClampNeg = a) (eb : b'.toInt = b.toInt + 1) (b0 : 0 ≤ b.toInt) : s.toInt = mxT mi a b'.toNatClampNeg := by
  rw [nn_s eb b0, mxT, if_pos he, h]; omega
theorem mxS_st (h : s.toInt = mxS mi v a b.toNatClampNeg) (he : b.toNatClampNeg = a) (eb : b'.toInt = b.toInt + 1) (b0 : 0 ≤ b.toInt) : s.toInt = mxS mi v a b'.toNatClampNeg := by
  rw [nn_s eb b0, mxS, if_pos he, h]; omega
theorem mxT_up (hb : ∀ i : Nat, i < 5 → iv (mi i) 0 1000) (h : s.toInt = mxT mi a b.toNatClampNeg) (ex : x = mi b.toNatClampNeg) (es : s' = s + x) (hn : ¬ b.toNatClampNeg = a) (eb : b'.toInt = b.toInt + 1) (b0 : 0 ≤ b.toInt) (b4 : b.toInt < 5) : s'.toInt = mxT mi a b'.toNatClampNeg := by
  have e := nn_eq b
  have z := (hb b.toNatClampNeg (by omega)).u
  have q := mxT_b (a := a) hb b.toNatClampNeg (by omega)
  rw [nn_s eb b0, mxT, if_neg hn, ← h, ← ex]
  rw [← ex] at z; rw [← h] at q
  exact i32_add es rfl rfl (by omega) (by omega)
theorem mxS_up (hb : ∀ i : Nat, i < 5 → iv (mi i) 0 1000) (hv : ∀ i : Nat, i < 5 → iv (v i) 0 99) (h : s.toInt = mxS mi v a b.toNatClampNeg) (ex : x = mi b.toNatClampNeg) (ey : y = v b.toNatClampNeg) (em : m = x * y) (es : s' = s + m) (hn : ¬ b.toNatClampNeg = a) (eb : b'.toInt = b.toInt + 1) (b0 : 0 ≤ b.toInt) (b4 : b.toInt < 5) : s'.toInt = mxS mi v a b'.toNatClampNeg := by
  have e := nn_eq b
  have z := (hb b.toNatClampNeg (by omega)).u
  have y1 := (hv b.toNatClampNeg (by omega)).u
  have q := mxS_b (a := a) hb hv b.toNatClampNeg (by omega)
  rw [nn_s eb b0, mxS, if_neg hn, ← h, ← ex, ← ey]
  rw [← ex] at z; rw [← ey] at y1; rw [← h] at q
  have em2 := i32_sm em rfl rfl z.1 (by omega) y1.1 (by omega)
  have m1 : x.toInt * y.toInt ≤ 1000 * y.toInt := Int.mul_le_mul_of_nonneg_right z.2 y1.1
  have m0 : 0 ≤ x.toInt * y.toInt := Int.mul_nonneg z.1 y1.1
  rw [← em2]
  exact i32_add es rfl rfl (by omega) (by omega)
theorem mxT_end {g : Int32} (h : s.toInt = mxT mi a b.toNatClampNeg) (h1 : g.toInt ≤ b.toInt) (h2 : b.toInt ≤ g.toInt) : s.toInt = mxT mi a g.toNatClampNeg := by
  have e1 := nn_eq b; have e2 := nn_eq g
  rw [h, show b.toNatClampNeg = g.toNatClampNeg by omega]
theorem mxS_end {g : Int32} (h : s.toInt = mxS mi v a b.toNatClampNeg) (h1 : g.toInt ≤ b.toInt) (h2 : b.toInt ≤ g.toInt) : s.toInt = mxS mi v a g.toNatClampNeg := by
  have e1 := nn_eq b; have e2 := nn_eq g
  rw [h, show b.toNatClampNeg = g.toNatClampNeg by omega]
end MIX
/-- whether MIX proves it -/
def mxR (sg wk : Nat) (mi co : Nat → Int32) (CC : Nat → Nat → Int32) (a : Nat) : Prop := (∀ s : Nat, s < sg → mxS mi (fun b => CC b s) a wk = mxT mi a wk * (CC a s).toInt) ∧ mxS mi co a wk < mxT mi a wk * (co a).toInt
theorem mxS_two {mi mi' v v' : Nat → Int32} {a : Nat} : ∀ {n : Nat}, (∀ i : Nat, i < n → mi i = mi' i) → (∀ i : Nat, i < n → v i = v' i) → mxS mi v a n = mxS mi' v' a n
  | 0, _, _ => rfl
  | n + 1, h1, h2 => by rw [mxS, mxS, mxS_two (fun i hi => h1 i (by omega)) (fun i hi => h2 i (by omega)), h1 n (by omega), h2 n (by omega)]
theorem mxT_two {mi mi' : Nat → Int32} {a : Nat} : ∀ {n : Nat}, (∀ i : Nat, i < n → mi i = mi' i) → mxT mi a n = mxT mi' a n
  | 0, _ => rfl
  | n + 1, h1 => by rw [mxT, mxT, mxT_two (fun i hi => h1 i (by omega)), h1 n (by omega)]
theorem mxR_two {sg wk : Nat} {mi mi' co co' : Nat → Int32} {CC CC' : Nat → Nat → Int32} {a : Nat} (ha : a < wk) (h1 : ∀ i : Nat, i < wk → mi i = mi' i) (h2 : ∀ i : Nat, i < wk → co i = co' i) (h3 : ∀ b : Nat, b < wk → ∀ s : Nat, s < sg → CC b s = CC' b s) : mxR sg wk mi co CC a ↔ mxR sg wk mi' co' CC' a := by
  unfold mxR
  rw [mxS_two h1 h2, mxT_two h1, h2 a ha]
  have z : ∀ s : Nat, s < sg → (mxS mi (fun b => CC b s) a wk = mxT mi' a wk * (CC a s).toInt ↔ mxS mi' (fun b => CC' b s) a wk = mxT mi' a wk * (CC' a s).toInt) := fun s hs => by
    rw [mxS_two (mi := mi) (mi' := mi') (v := fun b => CC b s) (v' := fun b => CC' b s) h1 (fun b hb => h3 b hb s hs), h3 a ha s hs]
  exact ⟨fun q => ⟨fun s hs => (z s hs).mp (q.1 s hs), q.2⟩, fun q => ⟨fun s hs => (z s hs).mpr (q.1 s hs), q.2⟩⟩
theorem same_two {w r u sg sg' wk wk' : Int32} {mi mi' co co' f : Nat → Int32} {C : Nat → Nat → Int32} {R : Nat → Nat} (hs : sg = sg') (hw : wk = wk') (w5 : wk.toInt ≤ 5) (hm : ∀ i : Nat, i < 5 → mi i = mi' i) (hc : ∀ i : Nat, i < wk.toNatClampNeg → co i = co' i) (hct : ∀ a : Nat, a < wk.toNatClampNeg → ∀ j : Nat, j < sg.toNatClampNeg → C (R a) j = f (4 * a + j))
    (q : (0 ≤ w.toInt ∧ w.toInt < wk.toInt ∧ ((r = 1 ∧ mxR sg.toNatClampNeg wk.toNatClampNeg mi co (fun a => C (R a)) w.toNatClampNeg) ∨ (r = 0 ∧ ¬ mxR sg.toNatClampNeg wk.toNatClampNeg mi co (fun a => C (R a)) w.toNatClampNeg))) ∨ ((w.toInt < 0 ∨ wk.toInt ≤ w.toInt) ∧ r = -2))
    (q' : (0 ≤ w.toInt ∧ w.toInt < wk'.toInt ∧ ((u = 1 ∧ mxR sg'.toNatClampNeg wk'.toNatClampNeg mi' co' (fun a j => f (4 * a + j)) w.toNatClampNeg) ∨ (u = 0 ∧ ¬ mxR sg'.toNatClampNeg wk'.toNatClampNeg mi' co' (fun a j => f (4 * a + j)) w.toNatClampNeg))) ∨ ((w.toInt < 0 ∨ wk'.toInt ≤ w.toInt) ∧ u = -2)) : r = u := by
  subst hs; subst hw
  have e := nn_eq wk
  rcases q with ⟨a1, a2, a5⟩ | ⟨a1, a2⟩ <;> rcases q' with ⟨b1, b2, b5⟩ | ⟨b1, b2⟩
  · have z : mxR sg.toNatClampNeg wk.toNatClampNeg mi co (fun a => C (R a)) w.toNatClampNeg ↔ mxR sg.toNatClampNeg wk.toNatClampNeg mi' co' (fun a j => f (4 * a + j)) w.toNatClampNeg := mxR_two (nn_lt a1 a2) (fun i hi => hm i (by omega)) hc (fun b hb s hs => hct b hb s hs)
    rcases a5 with ⟨c1, c2⟩ | ⟨c1, c2⟩ <;> rcases b5 with ⟨d1, d2⟩ | ⟨d1, d2⟩
    · rw [c1, d1]
    · exact absurd (z.mp c2) d2
    · exact absurd (z.mpr d2) c2
    · rw [c1, d1]
  · exfalso; omega
  · exfalso; omega
  · rw [a2, b2]
-- the reference counts in longs
section MIXL
variable {mi v : Nat → Int32} {a : Nat} {s s' m : Int64} {x y b b' : Int32}
theorem l_i (x : Int32) : x.toInt64.toInt = x.toInt := Int32.toInt_toInt64 x
theorem jv_self {x : Int64} {lo hi : Int} (h1 : lo ≤ x.toInt) (h2 : x.toInt ≤ hi) : jv x lo hi := ⟨h1, h2⟩
theorem i64_sm {x y m : Int64} (e : m = x * y) (x0 : -100000000 ≤ x.toInt) (x1 : x.toInt ≤ 100000000) (y0 : -100000000 ≤ y.toInt) (y1 : y.toInt ≤ 100000000) : m.toInt = x.toInt * y.toInt := i64_mulE (A := 100000000) (B := 100000000) e (jv_self x0 x1) (jv_self y0 y1) (by decide)
theorem i64_sa {x y m : Int64} (e : m = x + y) (x0 : -1000000000000 ≤ x.toInt) (x1 : x.toInt ≤ 1000000000000) (y0 : -1000000000000 ≤ y.toInt) (y1 : y.toInt ≤ 1000000000000) : m.toInt = x.toInt + y.toInt := i64_addE (a := -1000000000000) (b := 1000000000000) (c := -1000000000000) (d := 1000000000000) e (jv_self x0 x1) (jv_self y0 y1) (by decide) (by decide)
theorem mxT_0L : (0 : Int64).toInt = mxT mi a (Int32.toNatClampNeg 0) := by rw [show Int32.toNatClampNeg 0 = 0 from by decide]; rfl
theorem mxS_0L : (0 : Int64).toInt = mxS mi v a (Int32.toNatClampNeg 0) := by rw [show Int32.toNatClampNeg 0 = 0 from by decide]; rfl
theorem mxT_stL (h : s.toInt = mxT mi a b.toNatClampNeg) (he : b.toNatClampNeg = a) (eb : b'.toInt = b.toInt + 1) (b0 : 0 ≤ b.toInt) : s.toInt = mxT mi a b'.toNatClampNeg := by
  rw [nn_s eb b0, mxT, if_pos he, h]; omega
theorem mxS_stL (h : s.toInt = mxS mi v a b.toNatClampNeg) (he : b.toNatClampNeg = a) (eb : b'.toInt = b.toInt + 1) (b0 : 0 ≤ b.toInt) : s.toInt = mxS mi v a b'.toNatClampNeg := by
  rw [nn_s eb b0, mxS, if_pos he, h]; omega
theorem mxT_upL (hb : ∀ i : Nat, i < 5 → iv (mi i) 0 1000) (h : s.toInt = mxT mi a b.toNatClampNeg) (ex : x = mi b.toNatClampNeg) (es : s' = s + x.toInt64) (hn : ¬ b.toNatClampNeg = a) (eb : b'.toInt = b.toInt + 1) (b0 : 0 ≤ b.toInt) (b4 : b.toInt < 5) : s'.toInt = mxT mi a b'.toNatClampNeg := by
  have e := nn_eq b
  have z := (hb b.toNatClampNeg (by omega)).u
  have q := mxT_b (a := a) hb b.toNatClampNeg (by omega)
  rw [nn_s eb b0, mxT, if_neg hn, ← h, ← ex]
  rw [← ex] at z; rw [← h] at q
  have l := l_i x
  rw [i64_sa es (by omega) (by omega) (by omega) (by omega), l]
theorem mxS_upL (hb : ∀ i : Nat, i < 5 → iv (mi i) 0 1000) (hv : ∀ i : Nat, i < 5 → iv (v i) 0 99) (h : s.toInt = mxS mi v a b.toNatClampNeg) (ex : x = mi b.toNatClampNeg) (ey : y = v b.toNatClampNeg) (em : m = x.toInt64 * y.toInt64) (es : s' = s + m) (hn : ¬ b.toNatClampNeg = a) (eb : b'.toInt = b.toInt + 1) (b0 : 0 ≤ b.toInt) (b4 : b.toInt < 5) : s'.toInt = mxS mi v a b'.toNatClampNeg := by
  have e := nn_eq b
  have z := (hb b.toNatClampNeg (by omega)).u
  have y1 := (hv b.toNatClampNeg (by omega)).u
  have q := mxS_b (a := a) hb hv b.toNatClampNeg (by omega)
  rw [nn_s eb b0, mxS, if_neg hn, ← h, ← ex, ← ey]
  rw [← ex] at z; rw [← ey] at y1; rw [← h] at q
  have l := l_i x; have l2 := l_i y
  have em2 := i64_sm em (by omega) (by omega) (by omega) (by omega)
  have m1 : x.toInt * y.toInt ≤ 1000 * y.toInt := Int.mul_le_mul_of_nonneg_right z.2 y1.1
  have m0 : 0 ≤ x.toInt * y.toInt := Int.mul_nonneg z.1 y1.1
  rw [l, l2] at em2
  rw [i64_sa es (by omega) (by omega) (by omega) (by omega), em2]
theorem mxS_zL (h : s.toInt = mxS mi v a b.toNatClampNeg) (hb : ∀ i : Nat, i < 5 → iv (mi i) 0 1000) (hv : ∀ i : Nat, i < 5 → iv (v i) 0 99) (es : s' = s + 0) (he : b.toNatClampNeg = a) (eb : b'.toInt = b.toInt + 1) (b0 : 0 ≤ b.toInt) (b4 : b.toInt < 5) : s'.toInt = mxS mi v a b'.toNatClampNeg := by
  have e := nn_eq b
  have q := mxS_b (a := a) hb hv b.toNatClampNeg (by omega)
  rw [← h] at q
  have z : (0 : Int64).toInt = 0 := by decide
  have y := i64_sa es (by omega) (by omega) (by omega) (by omega)
  rw [nn_s eb b0, mxS, if_pos he, ← h, y, z]
theorem mxT_endL {g : Int32} (h : s.toInt = mxT mi a b.toNatClampNeg) (h1 : g.toInt ≤ b.toInt) (h2 : b.toInt ≤ g.toInt) : s.toInt = mxT mi a g.toNatClampNeg := by
  have e1 := nn_eq b; have e2 := nn_eq g
  rw [h, show b.toNatClampNeg = g.toNatClampNeg by omega]
theorem mxS_endL {g : Int32} (h : s.toInt = mxS mi v a b.toNatClampNeg) (h1 : g.toInt ≤ b.toInt) (h2 : b.toInt ≤ g.toInt) : s.toInt = mxS mi v a g.toNatClampNeg := by
  have e1 := nn_eq b; have e2 := nn_eq g
  rw [h, show b.toNatClampNeg = g.toNatClampNeg by omega]
end MIXL
/-- PRESS at a SIGN -/
def prS (pe : Int32) (pr : Nat → Int32) (CC : Nat → Nat → Int32) (a s : Nat) : Nat → Int
  | 0 => pe.toInt * (CC a s).toInt
  | b + 1 => prS pe pr CC a s b + (pr b).toInt * ((CC a s).toInt - (CC b s).toInt)
theorem pr_m {p c : Int} (p0 : 0 ≤ p) (p1 : p ≤ 9999) (c0 : -10 ≤ c) (c1 : c ≤ 10) : -99990 ≤ p * c ∧ p * c ≤ 99990 := by
  have h1 : p * c ≤ p * 10 := Int.mul_le_mul_of_nonneg_left c1 p0
  have h2 : p * (-10) ≤ p * c := Int.mul_le_mul_of_nonneg_left c0 p0
  omega
theorem prS_b {pe : Int32} {pr : Nat → Int32} {CC : Nat → Nat → Int32} {a s : Nat} (he : iv pe 0 9999) (hp : ∀ i : Nat, i < 5 → iv (pr i) 0 9999) (hc : ∀ i : Nat, i < 5 → iv (CC i s) 0 10) (ha : a < 5) : ∀ n : Nat, n ≤ 5 → -99990 * (n + 1 : Int) ≤ prS pe pr CC a s n ∧ prS pe pr CC a s n ≤ 99990 * (n + 1 : Int)
  | 0, _ => by
    have c := (hc a ha).u
    have q := pr_m (c := (CC a s).toInt) he.1 he.2 (by omega) (by omega)
    rw [prS]; omega
  | n + 1, hn => by
    have q := prS_b (a := a) he hp hc ha n (by omega)
    have c := (hc a ha).u; have c2 := (hc n (by omega)).u; have z := (hp n (by omega)).u
    have y := pr_m (c := (CC a s).toInt - (CC n s).toInt) z.1 z.2 (by omega) (by omega)
    rw [prS]; omega
def prB (rl D pe : Int32) (pr : Nat → Int32) (CC : Nat → Nat → Int32) (a wk s : Nat) : Prop := (CC a s).toInt * D.toInt < rl.toInt * prS pe pr CC a s wk
section PRE
variable {pe rl D : Int32} {pr : Nat → Int32} {CC : Nat → Nat → Int32} {a s : Nat} {y y' m m1 m2 d2 : Int64} {x ca cb d b b' : Int32}
theorem prS_0 (he : iv pe 0 9999) (hc : iv (CC a s) 0 10) (ec : ca = CC a s) (ey : y = pe.toInt64 * ca.toInt64) : y.toInt = prS pe pr CC a s (Int32.toNatClampNeg 0) := by
  rw [show Int32.toNatClampNeg 0 = 0 from by decide, prS, ← ec]
  rw [← ec] at hc
  have l := l_i pe; have l2 := l_i ca; have z := he.u; have z2 := hc.u
  rw [i64_sm ey (by omega) (by omega) (by omega) (by omega), l, l2]
theorem prS_up (he : iv pe 0 9999) (hp : ∀ i : Nat, i < 5 → iv (pr i) 0 9999) (hc : ∀ i : Nat, i < 5 → iv (CC i s) 0 10) (ha : a < 5) (h : y.toInt = prS pe pr CC a s b.toNatClampNeg) (ex : x = pr b.toNatClampNeg) (ea : ca = CC a s) (eb : cb = CC b.toNatClampNeg s) (hd : d2.toInt = ca.toInt - cb.toInt) (em : m = x.toInt64 * d2) (ey : y' = y + m) (et : b'.toInt = b.toInt + 1) (b0 : 0 ≤ b.toInt) (b4 : b.toInt < 5) : y'.toInt = prS pe pr CC a s b'.toNatClampNeg := by
  have e := nn_eq b
  have z := (hp b.toNatClampNeg (by omega)).u
  have c1 := (hc a ha).u; have c2 := (hc b.toNatClampNeg (by omega)).u
  have q := prS_b (a := a) he hp hc ha b.toNatClampNeg (by omega)
  rw [nn_s et b0, prS, ← h, ← ex, ← ea, ← eb, ← hd]
  rw [← ex] at z; rw [← h] at q; rw [← ea] at c1; rw [← eb] at c2
  have l := l_i x
  have w := pr_m (c := d2.toInt) z.1 z.2 (by omega) (by omega)
  have em2 := i64_sm em (by omega) (by omega) (by omega) (by omega)
  rw [l] at em2
  rw [i64_sa ey (by omega) (by omega) (by omega) (by omega), em2]
theorem l_sub (e : d2 = ca.toInt64 - cb.toInt64) (ha : iv ca 0 10) (hb : iv cb 0 10) : d2.toInt = ca.toInt - cb.toInt := by
  rw [i64_subE e (jv.i ha) (jv.i hb) (by decide) (by decide), l_i, l_i]
theorem prS_end {g : Int32} (h : y.toInt = prS pe pr CC a s b.toNatClampNeg) (h1 : g.toInt ≤ b.toInt) (h2 : b.toInt ≤ g.toInt) : y.toInt = prS pe pr CC a s g.toNatClampNeg := by
  have e1 := nn_eq b; have e2 := nn_eq g
  rw [h, show b.toNatClampNeg = g.toNatClampNeg by omega]
theorem prB_x {wk : Nat} (he : iv pe 0 9999) (hp : ∀ i : Nat, i < 5 → iv (pr i) 0 9999) (hc : ∀ i : Nat, i < 5 → iv (CC i s) 0 10) (ha : a < 5) (hw : wk ≤ 5) (hr : iv rl 0 5) (hD : iv D 1 9999) (h : y.toInt = prS pe pr CC a s wk) (ec : ca = CC a s) (e1 : m1 = ca.toInt64 * D.toInt64) (e2 : m2 = rl.toInt64 * y ∨ m2 = y * rl.toInt64) : prB rl D pe pr CC a wk s ↔ m1.toInt < m2.toInt := by
  have q := prS_b (a := a) he hp hc ha wk hw
  have c := (hc a ha).u
  rw [← h] at q; rw [← ec] at c
  have l := l_i ca; have l2 := l_i D; have l3 := l_i rl; have z := hr.u; have z2 := hD.u
  have f1 := i64_sm e1 (by omega) (by omega) (by omega) (by omega)
  have f2 : m2.toInt = rl.toInt * y.toInt := by
    rcases e2 with e2 | e2
    · rw [i64_sm e2 (by omega) (by omega) (by omega) (by omega), l3]
    · rw [i64_sm e2 (by omega) (by omega) (by omega) (by omega), l3, Int.mul_comm]
  unfold prB
  rw [f1, f2, ← h, ← ec, l, l2]
end PRE
theorem prS_two {pe pe' : Int32} {pr pr' : Nat → Int32} {CC CC' : Nat → Nat → Int32} {a s : Nat} (he : pe = pe') (hca : CC a s = CC' a s) : ∀ {n : Nat}, (∀ i : Nat, i < n → pr i = pr' i) → (∀ i : Nat, i < n → CC i s = CC' i s) → prS pe pr CC a s n = prS pe' pr' CC' a s n
  | 0, _, _ => by rw [prS, prS, he, hca]
  | n + 1, h1, h2 => by rw [prS, prS, prS_two he hca (fun i hi => h1 i (by omega)) (fun i hi => h2 i (by omega)), h1 n (by omega), h2 n (by omega), hca]
theorem prB_up {P : Nat → Prop} {t t' : Int32} (h : ∀ y : Nat, y < t.toNatClampNeg → ¬ P y) (n : ¬ P t.toNatClampNeg) (e : t'.toInt = t.toInt + 1) (t0 : 0 ≤ t.toInt) : ∀ y : Nat, y < t'.toNatClampNeg → ¬ P y := by
  have e2 := nn_s e t0
  intro y hy
  by_cases q : y = t.toNatClampNeg
  · subst q; exact n
  · exact h y (by omega)
theorem prB_end {P : Nat → Prop} {t g : Int32} (h : ∀ y : Nat, y < t.toNatClampNeg → ¬ P y) (h1 : g.toInt ≤ t.toInt) : ∀ y : Nat, y < g.toNatClampNeg → ¬ P y := by
  have e1 := nn_eq t; have e2 := nn_eq g
  exact fun y hy => h y (by omega)
theorem proves_two {w r u sg sg' wk wk' pe rl rl' D D' : Int32} {pr g f : Nat → Int32} {C : Nat → Nat → Int32} {R : Nat → Nat} (hs : sg = sg') (hw : wk = wk') (w5 : wk.toInt ≤ 5) (hp : ∀ i : Nat, i < 5 → pr i = g i) (he : pe = g 5) (hD : D = D') (hr : rl = rl') (hct : ∀ a : Nat, a < wk.toNatClampNeg → ∀ j : Nat, j < sg.toNatClampNeg → C (R a) j = f (4 * a + j))
    (q : (0 ≤ w.toInt ∧ w.toInt < wk.toInt ∧ ((r = 1 ∧ ∀ s : Nat, s < sg.toNatClampNeg → ¬ prB rl D pe pr (fun a => C (R a)) w.toNatClampNeg wk.toNatClampNeg s) ∨ (r = -1 ∧ ∃ s : Nat, s < sg.toNatClampNeg ∧ prB rl D pe pr (fun a => C (R a)) w.toNatClampNeg wk.toNatClampNeg s))) ∨ ((w.toInt < 0 ∨ wk.toInt ≤ w.toInt) ∧ r = -2))
    (q' : (0 ≤ w.toInt ∧ w.toInt < wk'.toInt ∧ ((u = 1 ∧ ∀ s : Nat, s < sg'.toNatClampNeg → ¬ prB rl' D' (g 5) g (fun a j => f (4 * a + j)) w.toNatClampNeg wk'.toNatClampNeg s) ∨ (u = -1 ∧ ∃ s : Nat, s < sg'.toNatClampNeg ∧ prB rl' D' (g 5) g (fun a j => f (4 * a + j)) w.toNatClampNeg wk'.toNatClampNeg s))) ∨ ((w.toInt < 0 ∨ wk'.toInt ≤ w.toInt) ∧ u = -2)) : r = u := by
  subst hs; subst hw; subst hD; subst hr
  have e := nn_eq wk
  rcases q with ⟨a1, a2, a5⟩ | ⟨a1, a2⟩ <;> rcases q' with ⟨b1, b2, b5⟩ | ⟨b1, b2⟩
  · have z : ∀ s : Nat, s < sg.toNatClampNeg → (prB rl D pe pr (fun a => C (R a)) w.toNatClampNeg wk.toNatClampNeg s ↔ prB rl D (g 5) g (fun a j => f (4 * a + j)) w.toNatClampNeg wk.toNatClampNeg s) := fun s hs => by
      have h1 : C (R w.toNatClampNeg) s = f (4 * w.toNatClampNeg + s) := hct _ (nn_lt a1 a2) s hs
      unfold prB
      rw [prS_two (pe := pe) (pe' := g 5) (pr := pr) (pr' := g) (CC := fun a => C (R a)) (CC' := fun a j => f (4 * a + j)) (a := w.toNatClampNeg) (s := s) he h1 (fun i hi => hp i (by omega)) (fun i hi => hct i hi s hs)]
      show (C (R w.toNatClampNeg) s).toInt * _ < _ ↔ (f (4 * w.toNatClampNeg + s)).toInt * _ < _
      rw [h1]
    rcases a5 with ⟨c1, c2⟩ | ⟨c1, s, c2, c3⟩ <;> rcases b5 with ⟨d1, d2⟩ | ⟨d1, s', d2, d3⟩
    · rw [c1, d1]
    · exact absurd ((z s' d2).mpr d3) (c2 s' d2)
    · exact absurd ((z s c2).mp c3) (d2 s c2)
    · rw [c1, d1]
  · exfalso; omega
  · exfalso; omega
  · rw [a2, b2]
theorem nn_e {x y : Int32} (h : x.toInt = y.toInt) : x.toNatClampNeg = y.toNatClampNeg := by rw [nn_eq, nn_eq, h]
theorem mxl_0 {P : Nat → Prop} : ∀ x : Nat, x < Int32.toNatClampNeg 0 → P x := fun _ h => nl_0 h
theorem mxl_up {P : Nat → Prop} {t t' : Int32} (h : ∀ y : Nat, y < t.toNatClampNeg → P y) (n : P t.toNatClampNeg) (e : t'.toInt = t.toInt + 1) (t0 : 0 ≤ t.toInt) : ∀ y : Nat, y < t'.toNatClampNeg → P y := by
  have e2 := nn_s e t0
  intro y hy
  by_cases q : y = t.toNatClampNeg
  · subst q; exact n
  · exact h y (by omega)
theorem mxl_end {P : Nat → Prop} {t g : Int32} (h : ∀ y : Nat, y < t.toNatClampNeg → P y) (h1 : g.toInt ≤ t.toInt) : ∀ y : Nat, y < g.toNatClampNeg → P y := by
  have e1 := nn_eq t; have e2 := nn_eq g
  exact fun y hy => h y (by omega)
theorem mxT_5 {mi : Nat → Int32} {a : Nat} {wk : Int32} (h : ∀ i : Nat, i < 5 → iv (mi i) 0 1000) (w5 : wk.toInt ≤ 5) : 0 ≤ mxT mi a wk.toNatClampNeg ∧ mxT mi a wk.toNatClampNeg ≤ 5000 := by
  have e := nn_eq wk
  have q := mxT_b (a := a) h wk.toNatClampNeg (by omega)
  omega
theorem mx_c {mi : Nat → Int32} {a : Nat} {wk b s c m : Int32} (hb : ∀ i : Nat, i < 5 → iv (mi i) 0 1000) (hT : s.toInt = mxT mi a b.toNatClampNeg) (h1 : wk.toInt ≤ b.toInt) (h2 : b.toInt ≤ wk.toInt) (w5 : wk.toInt ≤ 5) (em : m = s * c) (hc : iv c 0 99) : m.toInt = mxT mi a wk.toNatClampNeg * c.toInt := by
  have q := mxT_5 (a := a) hb w5
  exact i32_sm em (mxT_end hT h1 h2) rfl q.1 (by omega) hc.1 (Int.le_trans hc.2 (by decide))
theorem mx_cL {mi : Nat → Int32} {a : Nat} {wk b c : Int32} {s m : Int64} (hb : ∀ i : Nat, i < 5 → iv (mi i) 0 1000) (hT : s.toInt = mxT mi a b.toNatClampNeg) (h1 : wk.toInt ≤ b.toInt) (h2 : b.toInt ≤ wk.toInt) (w5 : wk.toInt ≤ 5) (em : m = s * c.toInt64) (hc : iv c 0 99) : m.toInt = mxT mi a wk.toNatClampNeg * c.toInt := by
  have q := mxT_5 (a := a) hb w5
  have z := mxT_endL hT h1 h2
  have l := l_i c; have y := hc.u
  rw [← z] at q
  rw [i64_sm em (by omega) (by omega) (by omega) (by omega), l, z]
theorem mx_st {S T x y : Int} {c k : Int32} (w : x = S) (h : x = y) (e : y = T * c.toInt) (ec : c = k) : S = T * k.toInt := by rw [← w, h, e, ec]
theorem mx_sn {S T x y : Int} {c k : Int32} (w : x = S) (h : ¬ x = y) (e : y = T * c.toInt) (ec : c = k) : ¬ S = T * k.toInt := by rw [← w, ← ec, ← e]; exact h
theorem mx_lt {S T x y : Int} {c k : Int32} (w : x = S) (h : x < y) (e : y = T * c.toInt) (ec : c = k) : S < T * k.toInt := by rw [← w, ← ec, ← e]; exact h
theorem mx_nl {S T x y : Int} {c k : Int32} (w : x = S) (h : y ≤ x) (e : y = T * c.toInt) (ec : c = k) : ¬ S < T * k.toInt := by rw [← w, ← ec, ← e]; omega
theorem mxR_no1 {sg wk a : Nat} {mi co : Nat → Int32} {CC : Nat → Nat → Int32} (s : Nat) (hs : s < sg) (h : ¬ mxS mi (fun b => CC b s) a wk = mxT mi a wk * (CC a s).toInt) : ¬ mxR sg wk mi co CC a := fun q => h (q.1 s hs)
theorem mxR_no2 {sg wk a : Nat} {mi co : Nat → Int32} {CC : Nat → Nat → Int32} (h : ¬ mxS mi co a wk < mxT mi a wk * (co a).toInt) : ¬ mxR sg wk mi co CC a := fun q => h q.2
theorem l_eq {x y : Int64} (h : x = y) : x.toInt = y.toInt := congrArg Int64.toInt h
theorem l_ne {x y : Int64} (h : ¬ x = y) : ¬ x.toInt = y.toInt := fun z => h (Int64.toInt_inj.mp z)
theorem l_lt {x y : Int64} (h : x < y) : x.toInt < y.toInt := i64_lt h rfl rfl
theorem l_le {x y : Int64} (h : x ≤ y) : x.toInt ≤ y.toInt := i64_le h rfl rfl
theorem prS_0x {pe : Int32} {pr : Nat → Int32} {CC : Nat → Nat → Int32} {a s : Nat} {y : Int64} {x ca : Int32} (ep : x = pe) (he : iv pe 0 9999) (hc : iv (CC a s) 0 10) (ec : ca = CC a s) (ey : y = x.toInt64 * ca.toInt64) : y.toInt = prS pe pr CC a s (Int32.toNatClampNeg 0) := by
  subst ep; exact prS_0 he hc ec ey
theorem rl_at {f : Nat → Int32} {rt ix x : Int32} (e : x = f ix.toNatClampNeg) (t : ix.toInt = rt.toInt - 1) (r1 : 1 ≤ rt.toInt) : x = f (rt.toNatClampNeg - 1) := by
  have e1 := nn_eq ix; have e2 := nn_eq rt
  rw [e, show ix.toNatClampNeg = rt.toNatClampNeg - 1 by omega]
theorem rl_two {rt rt' a b c d e0 f0 : Int32} {fr : Nat → Int32} (h6 : rt = rt') (t1 : 1 ≤ rt.toInt) (t3 : rt.toInt ≤ 3) (hr : rtE rt fr a b c) : fr (rt.toNatClampNeg - 1) = (lf [a, b, c, d, e0, f0]) (rt'.toNatClampNeg - 1) := by
  subst h6
  have e := nn_eq rt
  have q : rt.toNatClampNeg - 1 = 0 ∨ rt.toNatClampNeg - 1 = 1 ∨ rt.toNatClampNeg - 1 = 2 := by omega
  rcases q with q | q | q
  · rw [q]; exact hr.1 (by omega)
  · rw [q]; exact hr.2.1 (by omega)
  · rw [q]; exact hr.2.2 (by omega)
theorem prB_y {rl D pe x : Int32} {pr : Nat → Int32} {CC : Nat → Nat → Int32} {a wk s : Nat} (e : x = rl) (h : prB x D pe pr CC a wk s) : prB rl D pe pr CC a wk s := e ▸ h
theorem prB_n {rl D pe x : Int32} {pr : Nat → Int32} {CC : Nat → Nat → Int32} {a wk s : Nat} (e : x = rl) (h : ¬ prB x D pe pr CC a wk s) : ¬ prB rl D pe pr CC a wk s := e ▸ h
