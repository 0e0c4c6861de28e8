/-! CHANCES as the readers lay them; MARKS rise -/
theorem nl_0 {j : Nat} {P : Prop} (h : j < Int32.toNatClampNeg 0) : P := absurd h (by rw [show Int32.toNatClampNeg 0 = 0 from by decide]; exact Nat.not_lt_zero j)
theorem upz_at (g : Nat → Int) (k : Nat) (v : Int) : upz g k v k = v := if_pos rfl
theorem upz_o {g : Nat → Int} {k i : Nat} {v : Int} (h : ¬ i = k) : upz g k v i = g i := if_neg h
/-- the rows of one WORK's CHANCES change nothing of the WORKS ahead -/
theorem pchs_fr {f : Nat → Int32} {n a : Nat} {wh : Int} : ∀ (d s : Nat) (sum : Int) (ch : Nat → Int) (c : Nat) {ch2 : Nat → Int} {c2 : Nat}, pchs f n wh a d s sum ch c = .ok (ch2, c2) → ∀ k : Nat, k < 4 * a + s → ch2 k = ch k
  | 0, s, sum, ch, c, ch2, c2, h, k, hk => by
    rw [pchs] at h; have q1 : ch = ch2 := congrArg Prod.fst (Except.ok.inj h); rw [← q1]
  | d + 1, s, sum, ch, c, ch2, c2, h, k, hk => by
    rw [pchs] at h
    cases hp : pnum f n 0 wh c with
    | error e => rw [hp] at h; cases h
    | ok x =>
      obtain ⟨v, c1⟩ := x
      rw [hp] at h
      simp only at h
      by_cases hd : d = 0 ∧ ¬ sum + v = wh
      · rw [if_pos hd] at h; cases h
      · rw [if_neg hd] at h
        rw [pchs_fr d (s + 1) (sum + v) _ c1 h k (by omega)]
        exact upz_o (by omega)
/-- a row that is stored into: the others stay; what was read so far stands in it -/
theorem cr_fr {C0 C C' : Nat → Nat → Int32} {row k : Nat} {x : Int32} (q : upc C row k x = C') (h : ∀ a : Nat, ¬ a = row → C a = C0 a) : ∀ a : Nat, ¬ a = row → C' a = C0 a := fun a ha => by
  rw [← q, upc_o ha]; exact h a ha
theorem cr_up {C C' : Nat → Nat → Int32} {row wa : Nat} {s s' x : Int32} {ch : Nat → Int} (q : upc C row s.toNatClampNeg x = C') (h : ∀ j : Nat, j < s.toNatClampNeg → (C row j).toInt = ch (4 * wa + j)) (e : s'.toInt = s.toInt + 1) (s0 : 0 ≤ s.toInt) : ∀ j : Nat, j < s'.toNatClampNeg → (C' row j).toInt = upz ch (4 * wa + s.toNatClampNeg) x.toInt (4 * wa + j) := by
  have e2 := nn_s e s0
  intro j hj
  rw [← q]
  by_cases hs : j = s.toNatClampNeg
  · subst hs; rw [upc_at, upz_at]
  · rw [upc_ne hs, upz_o (by omega)]; exact h j (by omega)
theorem cr_end {C : Nat → Nat → Int32} {row wa : Nat} {s g : Int32} {ch : Nat → Int} (h : ∀ j : Nat, j < s.toNatClampNeg → (C row j).toInt = ch (4 * wa + j)) (hg : g.toInt ≤ s.toInt) : ∀ j : Nat, j < g.toNatClampNeg → (C row j).toInt = ch (4 * wa + j) := by
  have e1 := nn_eq s; have e2 := nn_eq g
  exact fun j hj => h j (by omega)
/-- all WORKS' rows -/
def chC (sg w : Nat) (R : Nat → Nat) (C : Nat → Nat → Int32) (ch : Nat → Int) : Prop := ∀ a : Nat, a < w → ∀ j : Nat, j < sg → (C (R a) j).toInt = ch (4 * a + j)
theorem chC_z {sg : Nat} {x : Int32} {R : Nat → Nat} {C : Nat → Nat → Int32} {ch : Nat → Int} (h : x.toInt = 0) : chC sg x.toNatClampNeg R C ch := by rw [nn_z h]; exact fun a ha => absurd ha (Nat.not_lt_zero a)
theorem cw_fr {C0 C C' : Nat → Nat → Int32} {R : Nat → Nat} {w : Int32} (hf : ∀ a : Nat, ¬ a = R w.toNatClampNeg → C' a = C a) (h : ∀ a : Nat, (∀ i : Nat, i < 5 → ¬ a = R i) → C a = C0 a) (w0 : 0 ≤ w.toInt) (w4 : w.toInt < 5) : ∀ a : Nat, (∀ i : Nat, i < 5 → ¬ a = R i) → C' a = C0 a := by
  have e := nn_eq w
  exact fun a ha => (hf a (ha _ (by omega))).trans (h a ha)
theorem cw_up {C C' : Nat → Nat → Int32} {R : Nat → Nat} {w w' sg : Int32} {ch ch' : Nat → Int} (hij : ∀ i j : Nat, i < 5 → j < 5 → R i = R j → i = j) (hf : ∀ a : Nat, ¬ a = R w.toNatClampNeg → C' a = C a) (hv : ∀ j : Nat, j < sg.toNatClampNeg → (C' (R w.toNatClampNeg) j).toInt = ch' (4 * w.toNatClampNeg + j)) (hk : ∀ k : Nat, k < 4 * w.toNatClampNeg → ch' k = ch k) (h : chC sg.toNatClampNeg w.toNatClampNeg R C ch) (e : w'.toInt = w.toInt + 1) (w0 : 0 ≤ w.toInt) (w4 : w.toInt < 5) (s4 : sg.toInt ≤ 4) : chC sg.toNatClampNeg w'.toNatClampNeg R C' ch' := by
  have e1 := nn_eq w; have e2 := nn_s e w0; have e3 := nn_eq sg
  intro a ha j hj
  by_cases q : a = w.toNatClampNeg
  · subst q; exact hv j hj
  · rw [hf (R a) (fun z => q (hij a _ (by omega) (by omega) z)), hk _ (by omega)]
    exact h a (by omega) j hj
/-- the reference's CHANCES, from b on; s of WORK w stand -/
def chN (b sg w s : Nat) (f : Nat → Int32) (ch : Nat → Int) : Prop := (∀ a : Nat, a < w → ∀ j : Nat, j < sg → (f (b + (4 * a + j))).toInt = ch (4 * a + j)) ∧ ∀ j : Nat, j < s → (f (b + (4 * w + j))).toInt = ch (4 * w + j)
theorem chN_0 {b sg w : Nat} {f : Nat → Int32} {ch : Nat → Int} (h : chN b sg w 0 f ch) : chN b sg w (Int32.toNatClampNeg 0) f ch := h
theorem chN_z {b sg : Nat} {x : Int32} {f : Nat → Int32} {ch : Nat → Int} (h : x.toInt = 0) : chN b sg x.toNatClampNeg 0 f ch := by
  rw [nn_z h]; exact ⟨fun a ha => absurd ha (Nat.not_lt_zero a), fun j hj => absurd hj (Nat.not_lt_zero j)⟩
theorem chN_up {b : Nat} {sg w s s' ix x : Int32} {f f' : Nat → Int32} {ch : Nat → Int} (h : chN b sg.toNatClampNeg w.toNatClampNeg s.toNatClampNeg f ch) (ei : ix.toInt = b + 4 * w.toInt + s.toInt) (wv : f' ix.toNatClampNeg = x) (o : ∀ j : Nat, ¬ j = ix.toNatClampNeg → f' j = f j) (e : s'.toInt = s.toInt + 1) (s0 : 0 ≤ s.toInt) (w0 : 0 ≤ w.toInt) (s4 : sg.toInt ≤ 4) : chN b sg.toNatClampNeg w.toNatClampNeg s'.toNatClampNeg f' (upz ch (4 * w.toNatClampNeg + s.toNatClampNeg) x.toInt) := by
  have e1 := nn_eq w; have e2 := nn_s e s0; have e3 := nn_eq sg; have e4 := nn_eq ix; have e5 := nn_eq s
  refine ⟨fun a ha j hj => ?_, fun j hj => ?_⟩
  · rw [o _ (by omega), upz_o (by omega)]; exact h.1 a ha j hj
  · by_cases q : j = s.toNatClampNeg
    · subst q
      rw [upz_at, show b + (4 * w.toNatClampNeg + s.toNatClampNeg) = ix.toNatClampNeg by omega, wv]
    · rw [o _ (by omega), upz_o (by omega)]; exact h.2 j (by omega)
theorem chN_end {b : Nat} {sg w s w' : Int32} {f : Nat → Int32} {ch : Nat → Int} (h : chN b sg.toNatClampNeg w.toNatClampNeg s.toNatClampNeg f ch) (hs : sg.toInt ≤ s.toInt) (e : w'.toInt = w.toInt + 1) (w0 : 0 ≤ w.toInt) : chN b sg.toNatClampNeg w'.toNatClampNeg 0 f ch := by
  have e1 := nn_eq s; have e2 := nn_s e w0; have e3 := nn_eq sg
  refine ⟨fun a ha j hj => ?_, fun j hj => absurd hj (Nat.not_lt_zero j)⟩
  by_cases q : a = w.toNatClampNeg
  · subst q; exact h.2 j (by omega)
  · exact h.1 a (by omega) j hj
theorem chN_cp {sg w : Int32} {f f' : Nat → Int32} {ch : Nat → Int} (h : chN 20 sg.toNatClampNeg w.toNatClampNeg 0 f ch) (c : cpK 20 20 f f') (s4 : sg.toInt ≤ 4) (w5 : w.toInt ≤ 5) : ∀ a : Nat, a < w.toNatClampNeg → ∀ j : Nat, j < sg.toNatClampNeg → (f' (4 * a + j)).toInt = ch (4 * a + j) := by
  have e1 := nn_eq w; have e3 := nn_eq sg
  intro a ha j hj
  rw [c _, if_pos (by omega)]; exact h.1 a ha j hj
/-- the CHANCES that a text tells -/
def phc (x : Except (Int × Int) (Int × Nat × (Nat → Int) × Nat × (Nat → Int) × (Nat → Int) × Int × Int × Nat × (Nat → Int) × (Nat → Int))) : Nat → Int :=
  match x with
  | .error _ => z0
  | .ok y => y.2.2.2.2.2.1
theorem phc_ok {x : Except (Int × Int) (Int × Nat × (Nat → Int) × Nat × (Nat → Int) × (Nat → Int) × Int × Int × Nat × (Nat → Int) × (Nat → Int))} {wh el le : Int} {sg wk m : Nat} {br co ch ra mr : Nat → Int} (h : x = .ok (wh, sg, br, wk, co, ch, el, le, m, ra, mr)) : phc x = ch := by rw [h]; rfl
/-- MARKS rise -/
def mkI (m : Nat) (mr : Nat → Int) : Prop := (2 ≤ m → 1 ≤ mr 0) ∧ (3 ≤ m → mr 0 < mr 1) ∧ m ≤ 3
theorem pnum_b {f : Nat → Int32} {n c c1 : Nat} {lo hi v : Int} (h : pnum f n lo hi c = .ok (v, c1)) : lo ≤ v ∧ v ≤ hi := by
  unfold pnum at h
  by_cases h1 : tkS f n c = 2
  · rw [if_pos h1] at h
    by_cases h2 : lo ≤ tnum f n c ∧ tnum f n c ≤ hi
    · rw [if_pos h2] at h
      have q := congrArg Prod.fst (Except.ok.inj h)
      simp only at q
      rw [← q]; exact h2
    · rw [if_neg h2] at h; cases h
  · rw [if_neg h1] at h; cases h
theorem pstp_b {f : Nat → Int32} {n m c c2 : Nat} {ra mr : Nat → Int} {v r : Int} (h : pstp f n m ra mr c = .ok (v, r, c2)) : (if m < 2 then 1 else mr (m - 2) + 1) ≤ v ∧ m < 3 := by
  unfold pstp at h
  cases hp : pnum f n (if m < 2 then 1 else mr (m - 2) + 1) 99 c with
  | error e => rw [hp] at h; cases h
  | ok x =>
    obtain ⟨v1, c1⟩ := x
    rw [hp] at h
    simp only at h
    by_cases h3 : 3 ≤ m
    · rw [if_pos h3] at h; cases h
    · rw [if_neg h3] at h
      cases hq : pnum f n 1 (ra (m - 1) - 1) c1 with
      | error e => rw [hq] at h; cases h
      | ok y =>
        obtain ⟨r1, c3⟩ := y
        rw [hq] at h
        have q := congrArg Prod.fst (Except.ok.inj h)
        simp only at q
        rw [← q]; exact ⟨(pnum_b hp).1, by omega⟩
theorem mkI_up {m : Nat} {mr : Nat → Int} {v : Int} (h : mkI m mr) (m1 : 1 ≤ m) (b : (if m < 2 then 1 else mr (m - 2) + 1) ≤ v ∧ m < 3) : mkI (m + 1) (upz mr (m - 1) v) := by
  obtain ⟨b1, b2⟩ := b
  by_cases h2 : m < 2
  · rw [if_pos h2] at b1
    have e : m = 1 := by omega
    subst e
    exact ⟨fun _ => by rw [upz_at]; exact b1, fun z => absurd z (by decide), by decide⟩
  · rw [if_neg h2] at b1
    have e : m = 2 := by omega
    subst e
    refine ⟨fun _ => by rw [upz_o (by decide)]; exact h.1 (by decide), fun _ => ?_, by decide⟩
    rw [show (2 : Nat) - 1 = 1 from rfl, upz_at, upz_o (by decide)]
    have b3 : mr 0 + 1 ≤ v := b1
    omega
theorem psts_mk {f : Nat → Int32} {n : Nat} : ∀ (d m : Nat) (ra mr : Nat → Int) (c : Nat) {m' c' : Nat} {ra' mr' : Nat → Int}, psts f n d m ra mr c = .ok (m', ra', mr', c') → 1 ≤ m → mkI m mr → mkI m' mr'
  | 0, m, ra, mr, c, m', c', ra', mr', h, m1, hm => by rw [psts] at h; cases h
  | d + 1, m, ra, mr, c, m', c', ra', mr', h, m1, hm => by
    rw [psts] at h
    by_cases h2 : tkS f n c = 2
    · rw [if_pos h2] at h
      cases hp : pstp f n m ra mr c with
      | error e => rw [hp] at h; cases h
      | ok x =>
        obtain ⟨v, r, c2⟩ := x
        rw [hp] at h
        exact psts_mk d (m + 1) _ _ c2 h (by omega) (mkI_up hm m1 (pstp_b hp))
    · rw [if_neg h2] at h
      have q := Except.ok.inj h
      have q1 : m = m' := congrArg Prod.fst q
      have q2 : mr = mr' := congrArg (fun z => z.2.2.1) q
      rw [← q1, ← q2]; exact hm
theorem mkI_1 (mr : Nat → Int) : mkI 1 mr := ⟨fun z => absurd z (by decide), fun z => absurd z (by decide), by decide⟩
theorem pfe1_mk {f : Nat → Int32} {n c m' c' : Nat} {hh : Int} {ra' mr' : Nat → Int} (h : pfe1 f n hh c = .ok (m', ra', mr', c')) : mkI m' mr' := by
  unfold pfe1 at h
  by_cases h1 : hh = 1
  · rw [if_pos h1] at h; cases h
  · rw [if_neg h1] at h
    unfold pfel at h
    cases hp : pnum f n 1 5 (tkE f n c) with
    | error e => rw [hp] at h; cases h
    | ok x =>
      obtain ⟨v, c1⟩ := x
      rw [hp] at h
      simp only at h
      cases hq : psts f n 3 1 (upz z0 0 v) z0 c1 with
      | error e => rw [hq] at h; cases h
      | ok y =>
        obtain ⟨m2, ra2, mr2, c2⟩ := y
        rw [hq] at h
        simp only at h
        cases hs : psem f n c2 with
        | error e => rw [hs] at h; cases h
        | ok c3 =>
          rw [hs] at h
          have q := Except.ok.inj h
          have q1 : m2 = m' := congrArg Prod.fst q
          have q2 : mr2 = mr' := congrArg (fun z => z.2.2.1) q
          rw [← q1, ← q2]; exact psts_mk 3 1 _ _ _ hq (by decide) (mkI_1 _)
theorem prst_mk {f : Nat → Int32} {n : Nat} : ∀ (d : Nat) (he hl hf el le : Int) (m : Nat) (ra mr : Nat → Int) (c : Nat) {el' le' : Int} {m' : Nat} {ra' mr' : Nat → Int}, prst f n d he hl hf el le m ra mr c = .ok (el', le', m', ra', mr') → mkI m mr → mkI m' mr'
  | 0, he, hl, hf, el, le, m, ra, mr, c, el', le', m', ra', mr', h, hm => by rw [prst] at h; cases h
  | d + 1, he, hl, hf, el, le, m, ra, mr, c, el', le', m', ra', mr', h, hm => by
    rw [prst] at h
    by_cases h0 : tkS f n c = 0
    · rw [if_pos h0] at h
      have q := Except.ok.inj h
      have q1 : m = m' := congrArg (fun z => z.2.2.1) q
      have q2 : mr = mr' := congrArg (fun z => z.2.2.2.2) q
      rw [← q1, ← q2]; exact hm
    · rw [if_neg h0] at h
      by_cases h1 : tkS f n c = 1 ∧ twrd f n c = 176741
      · rw [if_pos h1] at h
        cases hp : ponc f n he c with
        | error e => rw [hp] at h; cases h
        | ok x =>
          obtain ⟨v, c1⟩ := x
          rw [hp] at h
          exact prst_mk d _ _ _ _ _ _ _ _ _ h hm
      · rw [if_neg h1] at h
        by_cases h2 : tkS f n c = 1 ∧ twrd f n c = 12748404
        · rw [if_pos h2] at h
          cases hp : ponc f n hl c with
          | error e => rw [hp] at h; cases h
          | ok x =>
            obtain ⟨v, c1⟩ := x
            rw [hp] at h
            exact prst_mk d _ _ _ _ _ _ _ _ _ h hm
        · rw [if_neg h2] at h
          by_cases h3 : tkS f n c = 1 ∧ twrd f n c = 201900
          · rw [if_pos h3] at h
            cases hp : pfe1 f n hf c with
            | error e => rw [hp] at h; cases h
            | ok x =>
              obtain ⟨m2, ra2, mr2, c1⟩ := x
              rw [hp] at h
              exact prst_mk d _ _ _ _ _ _ _ _ _ h (pfe1_mk hp)
          · rw [if_neg h3] at h; cases h
theorem phr_mk {f : Nat → Int32} {n c sg wk m : Nat} {wh el le : Int} {br co ch ra mr : Nat → Int} (h : phr f n c = .ok (wh, sg, br, wk, co, ch, el, le, m, ra, mr)) : mkI m mr := by
  unfold phr at h
  cases h1 : pwho f n c with
  | error e => rw [h1] at h; cases h
  | ok x1 =>
    obtain ⟨wh1, c1⟩ := x1
    rw [h1] at h
    simp only at h
    cases h2 : psgs f n 5 0 z0 z0 c1 with
    | error e => rw [h2] at h; cases h
    | ok x2 =>
      obtain ⟨sg1, br1, c2⟩ := x2
      rw [h2] at h
      simp only at h
      cases h3 : pwks f n wh1 sg1 6 0 z0 z0 z0 c2 with
      | error e => rw [h3] at h; cases h
      | ok x3 =>
        obtain ⟨wk1, co1, ch1, c3⟩ := x3
        rw [h3] at h
        simp only at h
        cases h4 : prst f n 4 0 0 0 0 0 1 (upz z0 0 1) z0 c3 with
        | error e => rw [h4] at h; cases h
        | ok x4 =>
          obtain ⟨el1, le1, m1, ra1, mr1⟩ := x4
          rw [h4] at h
          have q := Except.ok.inj h
          have q1 : m1 = m := congrArg (fun z => z.2.2.2.2.2.2.2.2.1) q
          have q2 : mr1 = mr := congrArg (fun z => z.2.2.2.2.2.2.2.2.2.2) q
          rw [← q1, ← q2]; exact prst_mk 4 _ _ _ _ _ _ _ _ _ h4 (mkI_1 _)
/-- edge(): one row is changed at two places, and put back -/
def edC (C0 C : Nat → Nat → Int32) (row s t : Nat) : Prop := (∀ a : Nat, ¬ a = row → C a = C0 a) ∧ ∀ j : Nat, ¬ j = s → ¬ j = t → C row j = C0 row j
theorem edC_0 {C : Nat → Nat → Int32} {row s t : Nat} : edC C C row s t := ⟨fun _ _ => rfl, fun _ _ _ => rfl⟩
theorem edC_s {C0 C C' : Nat → Nat → Int32} {row s t : Nat} {x : Int32} (q : upc C row s x = C') (h : edC C0 C row s t) : edC C0 C' row s t := ⟨cr_fr q h.1, fun j h1 h2 => by rw [← q, upc_ne h1]; exact h.2 j h1 h2⟩
theorem edC_t {C0 C C' : Nat → Nat → Int32} {row s t : Nat} {x : Int32} (q : upc C row t x = C') (h : edC C0 C row s t) : edC C0 C' row s t := ⟨cr_fr q h.1, fun j h1 h2 => by rw [← q, upc_ne h2]; exact h.2 j h1 h2⟩
theorem edC_end {C0 C C1 C2 : Nat → Nat → Int32} {row s t : Nat} {x y : Int32} (q1 : upc C row s x = C1) (q2 : upc C1 row t y = C2) (h : edC C0 C row s t) (ex : x = C0 row s) (ey : y = C0 row t) : C2 = C0 := by
  have h2 := edC_t q2 (edC_s q1 h)
  funext a j
  by_cases ha : a = row
  · subst ha
    by_cases ht : j = t
    · subst ht; rw [← q2, upc_at, ey]
    · by_cases hs : j = s
      · subst hs; rw [← q2, upc_ne ht, ← q1, upc_at, ex]
      · exact h2.2 j hs ht
  · rw [h2.1 a ha]
/-- edge() of the reference puts the CHANCES back -/
theorem egk_same {f0 f f1 f2 : Nat → Int32} {x y m a b v : Int32} {e : Int} (h : egk f0 f x.toNatClampNeg y.toNatClampNeg e) (w2 : f2 x.toNatClampNeg = m) (o2 : ∀ j : Nat, ¬ j = x.toNatClampNeg → f2 j = f1 j) (w1 : f1 y.toNatClampNeg = v) (o1 : ∀ j : Nat, ¬ j = y.toNatClampNeg → f1 j = f j) (em : m = f0 x.toNatClampNeg) (ea : a = f y.toNatClampNeg) (eb : b = f x.toNatClampNeg) (hv : v.toInt = a.toInt - (m.toInt - b.toInt)) : ∀ j : Nat, f2 j = f0 j := by
  intro j
  by_cases hx : j = x.toNatClampNeg
  · rw [hx, w2, em]
  · rw [o2 j hx]
    by_cases hy : j = y.toNatClampNeg
    · rw [hy, w1]
      have h1 := h.1; have h2 := h.2.1
      rw [← ea] at h2; rw [← eb, ← em] at h1
      exact Int32.toInt_inj.mp (by omega)
    · rw [o1 j hy]; exact h.2.2 j hx hy
