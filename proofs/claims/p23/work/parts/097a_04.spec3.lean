theorem nn_z {x : Int32} (h : x.toInt = 0) : x.toNatClampNeg = 0 := by
  have e := nn_eq x; omega
theorem nn_s {x y : Int32} (e : y.toInt = x.toInt + 1) (h : 0 ≤ x.toInt) : y.toNatClampNeg = x.toNatClampNeg + 1 := by
  have e1 := nn_eq x; have e2 := nn_eq y; omega
def brK (k : Nat) (f : Nat → Int32) (g : Nat → Int) : Prop := ∀ i : Nat, i < k → (f i).toInt = g i
theorem brK_0 {f : Nat → Int32} {g : Nat → Int} : brK 0 f g := fun i h => absurd h (Nat.not_lt_zero i)
theorem brK_z {x : Int32} {f : Nat → Int32} {g : Nat → Int} (h : x.toInt = 0) : brK x.toNatClampNeg f g := by rw [nn_z h]; exact brK_0
theorem nmK_z {x : Int32} {f fs fe : Nat → Int32} {nm : Nat → Int} (h : x.toInt = 0) : nmK f x.toNatClampNeg fs fe nm := by rw [nn_z h]; exact nmK_0
theorem brK_up {k : Nat} {f f' : Nat → Int32} {g : Nat → Int} {v : Int32} (h : brK k f g) (w : f' k = v) (o : ∀ j : Nat, ¬ j = k → f' j = f j) : brK (k + 1) f' (upz g k v.toInt) := by
  intro i hi
  unfold upz
  by_cases e : i = k
  · subst e; rw [w, if_pos rfl]
  · rw [o i e, if_neg e]; exact h i (by omega)
theorem brK_s {x y : Int32} {f : Nat → Int32} {g : Nat → Int} (h : brK (x.toNatClampNeg + 1) f g) (e : y.toInt = x.toInt + 1) (x0 : 0 ≤ x.toInt) : brK y.toNatClampNeg f g := by rw [nn_s e x0]; exact h
theorem nmK_s {x y : Int32} {f fs fe : Nat → Int32} {nm : Nat → Int} (h : nmK f (x.toNatClampNeg + 1) fs fe nm) (e : y.toInt = x.toInt + 1) (x0 : 0 ≤ x.toInt) : nmK f y.toNatClampNeg fs fe nm := by rw [nn_s e x0]; exact h
theorem brK_at {k : Nat} {i b : Int32} {f : Nat → Int32} {g : Nat → Int} (h : brK k f g) (e : b = f i.toNatClampNeg) (hi : i.toNatClampNeg < k) : b.toInt = g i.toNatClampNeg := by rw [e]; exact h _ hi
/-- SIGNS -/
theorem psgs_0 {f : Nat → Int32} {n c : Nat} {s : Int32} (h : s.toInt = 0) : psgs f n 5 0 z0 z0 c = psgs f n (5 - s.toNatClampNeg) s.toNatClampNeg z0 z0 c := by rw [nn_z h]
theorem psgs_go {f : Nat → Int32} {n c c4 : Nat} {s s' : Int32} {nm br : Nat → Int} {w v : Int} (h1 : tkS f n c = 1 ∧ twrd f n c = 632046) (h2 : psgn f n s.toNatClampNeg nm (tkE f n c) = .ok (w, v, c4)) (e : s'.toInt = s.toInt + 1) (s0 : 0 ≤ s.toInt) (s4 : s.toInt < 4) : psgs f n (5 - s.toNatClampNeg) s.toNatClampNeg nm br c = psgs f n (5 - s'.toNatClampNeg) s'.toNatClampNeg (upz nm s.toNatClampNeg w) (upz br s.toNatClampNeg v) c4 := by
  have e1 := nn_eq s; have e2 := nn_s e s0
  rw [show 5 - s.toNatClampNeg = (5 - s'.toNatClampNeg) + 1 by omega, psgs, if_pos h1, if_neg (by omega), h2, e2]
theorem psgs_e {f : Nat → Int32} {n c : Nat} {s : Int32} {nm br : Nat → Int} {e : Int × Int} (h1 : tkS f n c = 1 ∧ twrd f n c = 632046) (h2 : psgn f n s.toNatClampNeg nm (tkE f n c) = .error e) (s0 : 0 ≤ s.toInt) (s4 : s.toInt < 4) : psgs f n (5 - s.toNatClampNeg) s.toNatClampNeg nm br c = .error e := by
  have e1 := nn_eq s
  rw [show 5 - s.toNatClampNeg = (4 - s.toNatClampNeg) + 1 by omega, psgs, if_pos h1, if_neg (by omega), h2]
theorem psgs_r {f : Nat → Int32} {n c : Nat} {s st : Int32} {nm br : Nat → Int} (h1 : tkS f n c = 1 ∧ twrd f n c = 632046) (hs : st.toInt = (tkA f n c : Int)) (s4 : s.toInt = 4) : psgs f n (5 - s.toNatClampNeg) s.toNatClampNeg nm br c = .error ((4 : Int32).toInt, st.toInt) := by
  have e1 := nn_eq s
  rw [show 5 - s.toNatClampNeg = 0 + 1 by omega, psgs, if_pos h1, if_pos (by omega), hs]; rfl
theorem psgs_s {f : Nat → Int32} {n c : Nat} {s st : Int32} {nm br : Nat → Int} (h1 : ¬ (tkS f n c = 1 ∧ twrd f n c = 632046)) (hs : st.toInt = (tkA f n c : Int)) (s0 : 0 ≤ s.toInt) (s2 : s.toInt < 2) : psgs f n (5 - s.toNatClampNeg) s.toNatClampNeg nm br c = .error ((1 : Int32).toInt, st.toInt) := by
  have e1 := nn_eq s
  rw [show 5 - s.toNatClampNeg = (4 - s.toNatClampNeg) + 1 by omega, psgs, if_neg h1, if_neg (by omega), hs]; rfl
theorem psgs_d {f : Nat → Int32} {n c : Nat} {s : Int32} {nm br : Nat → Int} (h1 : ¬ (tkS f n c = 1 ∧ twrd f n c = 632046)) (s2 : 2 ≤ s.toInt) (s4 : s.toInt ≤ 4) : psgs f n (5 - s.toNatClampNeg) s.toNatClampNeg nm br c = .ok (s.toNatClampNeg, br, c) := by
  have e1 := nn_eq s
  rw [show 5 - s.toNatClampNeg = (4 - s.toNatClampNeg) + 1 by omega, psgs, if_neg h1, if_pos (by omega)]
/-- CHANCES -/
theorem pchs_0 {f : Nat → Int32} {n a c : Nat} {wh : Int} {g s : Int32} {ch : Nat → Int} (h : s.toInt = 0) : pchs f n wh a g.toNatClampNeg 0 0 ch c = pchs f n wh a (g.toNatClampNeg - s.toNatClampNeg) s.toNatClampNeg s.toInt ch c := by rw [nn_z h, h]; rfl
theorem pchs_go {f : Nat → Int32} {n a c c1 : Nat} {wh v : Int} {g s s' u u' : Int32} {ch : Nat → Int} (h2 : pnum f n 0 wh c = .ok (v, c1)) (e : s'.toInt = s.toInt + 1) (s0 : 0 ≤ s.toInt) (sg : s.toInt < g.toInt) (eu : u'.toInt = u.toInt + v) (hd : ¬ s.toInt = g.toInt - 1 ∨ u'.toInt = wh) : pchs f n wh a (g.toNatClampNeg - s.toNatClampNeg) s.toNatClampNeg u.toInt ch c = pchs f n wh a (g.toNatClampNeg - s'.toNatClampNeg) s'.toNatClampNeg u'.toInt (upz ch (4 * a + s.toNatClampNeg) v) c1 := by
  have e1 := nn_eq s; have e2 := nn_s e s0; have e3 := nn_eq g
  rw [show g.toNatClampNeg - s.toNatClampNeg = (g.toNatClampNeg - s'.toNatClampNeg) + 1 by omega, pchs, h2]
  simp only
  rw [if_neg (by omega), e2, eu]
theorem pchs_e {f : Nat → Int32} {n a c : Nat} {wh : Int} {g s u : Int32} {ch : Nat → Int} {e : Int × Int} (h2 : pnum f n 0 wh c = .error e) (s0 : 0 ≤ s.toInt) (sg : s.toInt < g.toInt) : pchs f n wh a (g.toNatClampNeg - s.toNatClampNeg) s.toNatClampNeg u.toInt ch c = .error e := by
  have e1 := nn_eq s; have e3 := nn_eq g
  rw [show g.toNatClampNeg - s.toNatClampNeg = (g.toNatClampNeg - (s.toNatClampNeg + 1)) + 1 by omega, pchs, h2]
theorem pchs_m {f : Nat → Int32} {n a c c1 : Nat} {wh v : Int} {g s u u' st : Int32} {ch : Nat → Int} (h2 : pnum f n 0 wh c = .ok (v, c1)) (hs : st.toInt = (tkA f n c : Int)) (s0 : 0 ≤ s.toInt) (sg : s.toInt = g.toInt - 1) (eu : u'.toInt = u.toInt + v) (hd : ¬ u'.toInt = wh) : pchs f n wh a (g.toNatClampNeg - s.toNatClampNeg) s.toNatClampNeg u.toInt ch c = .error ((5 : Int32).toInt, st.toInt) := by
  have e1 := nn_eq s; have e3 := nn_eq g
  rw [show g.toNatClampNeg - s.toNatClampNeg = 0 + 1 by omega, pchs, h2]
  show (if 0 = 0 ∧ ¬ u.toInt + v = wh then Except.error (5, (tkA f n c : Int)) else _) = _
  rw [if_pos ⟨rfl, by omega⟩, hs]; rfl
theorem pchs_d {f : Nat → Int32} {n a c : Nat} {wh : Int} {g s u : Int32} {ch : Nat → Int} (s0 : 0 ≤ s.toInt) (sg : g.toInt ≤ s.toInt) : pchs f n wh a (g.toNatClampNeg - s.toNatClampNeg) s.toNatClampNeg u.toInt ch c = .ok (ch, c) := by
  have e1 := nn_eq s; have e3 := nn_eq g
  rw [show g.toNatClampNeg - s.toNatClampNeg = 0 by omega, pchs]
/-- WORKS -/
theorem pwks_0 {f : Nat → Int32} {n c : Nat} {wh : Int} {sg : Nat} {s : Int32} (h : s.toInt = 0) : pwks f n wh sg 6 0 z0 z0 z0 c = pwks f n wh sg (6 - s.toNatClampNeg) s.toNatClampNeg z0 z0 z0 c := by rw [nn_z h]
theorem pwks_go {f : Nat → Int32} {n c c4 sg : Nat} {wh : Int} {s s' : Int32} {nm co ch ch' : Nat → Int} {w v : Int} (h1 : tkS f n c = 1 ∧ twrd f n c = 769611) (h2 : pwrk f n wh sg s.toNatClampNeg nm ch (tkE f n c) = .ok (w, v, ch', c4)) (e : s'.toInt = s.toInt + 1) (s0 : 0 ≤ s.toInt) (s4 : s.toInt < 5) : pwks f n wh sg (6 - s.toNatClampNeg) s.toNatClampNeg nm co ch c = pwks f n wh sg (6 - s'.toNatClampNeg) s'.toNatClampNeg (upz nm s.toNatClampNeg w) (upz co s.toNatClampNeg v) ch' c4 := by
  have e1 := nn_eq s; have e2 := nn_s e s0
  rw [show 6 - s.toNatClampNeg = (6 - s'.toNatClampNeg) + 1 by omega, pwks, if_pos h1, if_neg (by omega), h2, e2]
theorem pwks_e {f : Nat → Int32} {n c sg : Nat} {wh : Int} {s : Int32} {nm co ch : Nat → Int} {e : Int × Int} (h1 : tkS f n c = 1 ∧ twrd f n c = 769611) (h2 : pwrk f n wh sg s.toNatClampNeg nm ch (tkE f n c) = .error e) (s0 : 0 ≤ s.toInt) (s4 : s.toInt < 5) : pwks f n wh sg (6 - s.toNatClampNeg) s.toNatClampNeg nm co ch c = .error e := by
  have e1 := nn_eq s
  rw [show 6 - s.toNatClampNeg = (5 - s.toNatClampNeg) + 1 by omega, pwks, if_pos h1, if_neg (by omega), h2]
theorem pwks_r {f : Nat → Int32} {n c sg : Nat} {wh : Int} {s st : Int32} {nm co ch : Nat → Int} (h1 : tkS f n c = 1 ∧ twrd f n c = 769611) (hs : st.toInt = (tkA f n c : Int)) (s4 : s.toInt = 5) : pwks f n wh sg (6 - s.toNatClampNeg) s.toNatClampNeg nm co ch c = .error ((4 : Int32).toInt, st.toInt) := by
  have e1 := nn_eq s
  rw [show 6 - s.toNatClampNeg = 0 + 1 by omega, pwks, if_pos h1, if_pos (by omega), hs]; rfl
theorem pwks_s {f : Nat → Int32} {n c sg : Nat} {wh : Int} {s st : Int32} {nm co ch : Nat → Int} (h1 : ¬ (tkS f n c = 1 ∧ twrd f n c = 769611)) (hs : st.toInt = (tkA f n c : Int)) (s0 : 0 ≤ s.toInt) (s2 : s.toInt < 2) : pwks f n wh sg (6 - s.toNatClampNeg) s.toNatClampNeg nm co ch c = .error ((1 : Int32).toInt, st.toInt) := by
  have e1 := nn_eq s
  rw [show 6 - s.toNatClampNeg = (5 - s.toNatClampNeg) + 1 by omega, pwks, if_neg h1, if_neg (by omega), hs]; rfl
theorem pwks_d {f : Nat → Int32} {n c sg : Nat} {wh : Int} {s : Int32} {nm co ch : Nat → Int} (h1 : ¬ (tkS f n c = 1 ∧ twrd f n c = 769611)) (s2 : 2 ≤ s.toInt) (s4 : s.toInt ≤ 5) : pwks f n wh sg (6 - s.toNatClampNeg) s.toNatClampNeg nm co ch c = .ok (s.toNatClampNeg, co, ch, c) := by
  have e1 := nn_eq s
  rw [show 6 - s.toNatClampNeg = (5 - s.toNatClampNeg) + 1 by omega, pwks, if_neg h1, if_pos (by omega)]
/-- steps of RATES -/
theorem psts_0 {f : Nat → Int32} {n c : Nat} {s : Int32} {ra mr : Nat → Int} (h : s.toInt = 1) : psts f n 3 1 ra mr c = psts f n (4 - s.toNatClampNeg) s.toNatClampNeg ra mr c := by
  have e1 := nn_eq s
  rw [show s.toNatClampNeg = 1 by omega]
theorem psts_go {f : Nat → Int32} {n c c4 : Nat} {s s' : Int32} {ra mr : Nat → Int} {v r : Int} (h1 : tkS f n c = 2) (h2 : pstp f n s.toNatClampNeg ra mr c = .ok (v, r, c4)) (e : s'.toInt = s.toInt + 1) (s0 : 1 ≤ s.toInt) (s4 : s.toInt ≤ 3) : psts f n (4 - s.toNatClampNeg) s.toNatClampNeg ra mr c = psts f n (4 - s'.toNatClampNeg) s'.toNatClampNeg (upz ra s.toNatClampNeg r) (upz mr (s.toNatClampNeg - 1) v) c4 := by
  have e1 := nn_eq s; have e2 := nn_s e (by omega)
  rw [show 4 - s.toNatClampNeg = (4 - s'.toNatClampNeg) + 1 by omega, psts, if_pos h1, h2, e2]
theorem psts_e {f : Nat → Int32} {n c : Nat} {s : Int32} {ra mr : Nat → Int} {e : Int × Int} (h1 : tkS f n c = 2) (h2 : pstp f n s.toNatClampNeg ra mr c = .error e) (s0 : 1 ≤ s.toInt) (s4 : s.toInt ≤ 3) : psts f n (4 - s.toNatClampNeg) s.toNatClampNeg ra mr c = .error e := by
  have e1 := nn_eq s
  rw [show 4 - s.toNatClampNeg = (3 - s.toNatClampNeg) + 1 by omega, psts, if_pos h1, h2]
theorem psts_d {f : Nat → Int32} {n c : Nat} {s : Int32} {ra mr : Nat → Int} (h1 : ¬ tkS f n c = 2) (s0 : 1 ≤ s.toInt) (s4 : s.toInt ≤ 3) : psts f n (4 - s.toNatClampNeg) s.toNatClampNeg ra mr c = .ok (s.toNatClampNeg, ra, mr, c) := by
  have e1 := nn_eq s
  rw [show 4 - s.toNatClampNeg = (3 - s.toNatClampNeg) + 1 by omega, psts, if_neg h1]
/-- RESTS: k of them stand -/
theorem prst_end {f : Nat → Int32} {n c d : Nat} {he hl hf el le : Int} {m : Nat} {ra mr : Nat → Int} (h : tkS f n c = 0) (hd : 1 ≤ d) : prst f n d he hl hf el le m ra mr c = .ok (el, le, m, ra, mr) := by
  rw [show d = (d - 1) + 1 by omega, prst, if_pos h]
theorem prst_x {f : Nat → Int32} {n c d : Nat} {he hl hf el le : Int} {m : Nat} {ra mr : Nat → Int} (h0 : ¬ tkS f n c = 0) (h1 : ¬ (tkS f n c = 1 ∧ twrd f n c = 176741)) (h2 : ¬ (tkS f n c = 1 ∧ twrd f n c = 12748404)) (h3 : ¬ (tkS f n c = 1 ∧ twrd f n c = 201900)) (hd : 1 ≤ d) : prst f n d he hl hf el le m ra mr c = .error (1, (tkA f n c : Int)) := by
  rw [show d = (d - 1) + 1 by omega, prst, if_neg h0, if_neg h1, if_neg h2, if_neg h3]
theorem prst_e1 {f : Nat → Int32} {n c d : Nat} {he hl hf el le : Int} {m : Nat} {ra mr : Nat → Int} {e : Int × Int} (h1 : tkS f n c = 1 ∧ twrd f n c = 176741) (h : ponc f n he c = .error e) (hd : 1 ≤ d) : prst f n d he hl hf el le m ra mr c = .error e := by
  rw [show d = (d - 1) + 1 by omega, prst, if_neg (by omega), if_pos h1, h]
theorem prst_g1 {f : Nat → Int32} {n c c1 d : Nat} {he hl hf el le v : Int} {m : Nat} {ra mr : Nat → Int} (h1 : tkS f n c = 1 ∧ twrd f n c = 176741) (h : ponc f n he c = .ok (v, c1)) (hd : 1 ≤ d) : prst f n d he hl hf el le m ra mr c = prst f n (d - 1) 1 hl hf v le m ra mr c1 := by
  rw [show d = (d - 1) + 1 by omega, prst, if_neg (by omega), if_pos h1, h]; rfl
theorem prst_e2 {f : Nat → Int32} {n c d : Nat} {he hl hf el le : Int} {m : Nat} {ra mr : Nat → Int} {e : Int × Int} (h1 : tkS f n c = 1 ∧ twrd f n c = 12748404) (h : ponc f n hl c = .error e) (hd : 1 ≤ d) : prst f n d he hl hf el le m ra mr c = .error e := by
  rw [show d = (d - 1) + 1 by omega, prst, if_neg (by omega), if_neg (by omega), if_pos h1, h]
theorem prst_g2 {f : Nat → Int32} {n c c1 d : Nat} {he hl hf el le v : Int} {m : Nat} {ra mr : Nat → Int} (h1 : tkS f n c = 1 ∧ twrd f n c = 12748404) (h : ponc f n hl c = .ok (v, c1)) (hd : 1 ≤ d) : prst f n d he hl hf el le m ra mr c = prst f n (d - 1) he 1 hf el v m ra mr c1 := by
  rw [show d = (d - 1) + 1 by omega, prst, if_neg (by omega), if_neg (by omega), if_pos h1, h]; rfl
theorem prst_e3 {f : Nat → Int32} {n c d : Nat} {he hl hf el le : Int} {m : Nat} {ra mr : Nat → Int} {e : Int × Int} (h1 : tkS f n c = 1 ∧ twrd f n c = 201900) (h : pfe1 f n hf c = .error e) (hd : 1 ≤ d) : prst f n d he hl hf el le m ra mr c = .error e := by
  rw [show d = (d - 1) + 1 by omega, prst, if_neg (by omega), if_neg (by omega), if_neg (by omega), if_pos h1, h]
theorem prst_g3 {f : Nat → Int32} {n c c1 d : Nat} {he hl hf el le : Int} {m m' : Nat} {ra mr ra' mr' : Nat → Int} (h1 : tkS f n c = 1 ∧ twrd f n c = 201900) (h : pfe1 f n hf c = .ok (m', ra', mr', c1)) (hd : 1 ≤ d) : prst f n d he hl hf el le m ra mr c = prst f n (d - 1) he hl 1 el le m' ra' mr' c1 := by
  rw [show d = (d - 1) + 1 by omega, prst, if_neg (by omega), if_neg (by omega), if_neg (by omega), if_pos h1, h]; rfl
/-- one step of RATES -/
theorem lo_1 {p : Int32} {mr : Nat → Int} (h : p.toInt < 2) : (1 : Int) = if p.toNatClampNeg < 2 then 1 else mr (p.toNatClampNeg - 2) + 1 := by
  have e := nn_eq p
  rw [if_pos (by omega)]
theorem lo_2 {p i b x : Int32} {fm : Nat → Int32} {mr : Nat → Int} (hm : brK (p.toNatClampNeg - 1) fm mr) (eb : b = fm i.toNatClampNeg) (ei : i.toInt = p.toInt - 2) (ex : x.toInt = b.toInt + 1) (h : 2 ≤ p.toInt) : x.toInt = if p.toNatClampNeg < 2 then 1 else mr (p.toNatClampNeg - 2) + 1 := by
  have e := nn_eq p; have e2 := nn_eq i
  rw [if_neg (by omega), ex, eb, hm _ (by omega), show i.toNatClampNeg = p.toNatClampNeg - 2 by omega]
theorem hi_1 {p i b x : Int32} {fr : Nat → Int32} {ra : Nat → Int} (hm : brK p.toNatClampNeg fr ra) (eb : b = fr i.toNatClampNeg) (ei : i.toInt = p.toInt - 1) (ex : x.toInt = b.toInt - 1) (h : 1 ≤ p.toInt) : x.toInt = ra (p.toNatClampNeg - 1) - 1 := by
  have e := nn_eq p; have e2 := nn_eq i
  rw [ex, eb, hm _ (by omega), show i.toNatClampNeg = p.toNatClampNeg - 1 by omega]
theorem pstp_e1 {f : Nat → Int32} {n m c : Nat} {ra mr : Nat → Int} {lo : Int} {e : Int × Int} (hl : lo = if m < 2 then 1 else mr (m - 2) + 1) (h : pnum f n lo 99 c = .error e) : pstp f n m ra mr c = .error e := by
  unfold pstp; rw [← hl, h]
theorem pstp_r {f : Nat → Int32} {n m c c1 : Nat} {ra mr : Nat → Int} {lo v : Int} {st : Int32} (hl : lo = if m < 2 then 1 else mr (m - 2) + 1) (h : pnum f n lo 99 c = .ok (v, c1)) (hs : st.toInt = (tkA f n c : Int)) (hm : 3 ≤ m) : pstp f n m ra mr c = .error ((4 : Int32).toInt, st.toInt) := by
  unfold pstp; rw [← hl, h]; simp only; rw [if_pos hm, hs]; rfl
theorem pstp_e2 {f : Nat → Int32} {n m c c1 : Nat} {ra mr : Nat → Int} {lo v hi : Int} {e : Int × Int} (hl : lo = if m < 2 then 1 else mr (m - 2) + 1) (h : pnum f n lo 99 c = .ok (v, c1)) (hm : m < 3) (hh : hi = ra (m - 1) - 1) (h2 : pnum f n 1 hi c1 = .error e) : pstp f n m ra mr c = .error e := by
  unfold pstp; rw [← hl, h]; simp only; rw [if_neg (by omega), ← hh, h2]
theorem pstp_ok {f : Nat → Int32} {n m c c1 c2 : Nat} {ra mr : Nat → Int} {lo v hi r : Int} (hl : lo = if m < 2 then 1 else mr (m - 2) + 1) (h : pnum f n lo 99 c = .ok (v, c1)) (hm : m < 3) (hh : hi = ra (m - 1) - 1) (h2 : pnum f n 1 hi c1 = .ok (r, c2)) : pstp f n m ra mr c = .ok (v, r, c2) := by
  unfold pstp; rw [← hl, h]; simp only; rw [if_neg (by omega), ← hh, h2]
theorem brK_up1 {p x v : Int32} {f f' : Nat → Int32} {g : Nat → Int} (h : brK (p.toNatClampNeg - 1) f g) (ex : x.toInt = p.toInt - 1) (p1 : 1 ≤ p.toInt) (w : f' x.toNatClampNeg = v) (o : ∀ j : Nat, ¬ j = x.toNatClampNeg → f' j = f j) : brK p.toNatClampNeg f' (upz g (p.toNatClampNeg - 1) v.toInt) := by
  have e := nn_eq p; have e2 := nn_eq x
  have z : x.toNatClampNeg = p.toNatClampNeg - 1 := by omega
  rw [z] at w o
  have q := brK_up h w o
  rw [show p.toNatClampNeg - 1 + 1 = p.toNatClampNeg by omega] at q
  exact q
theorem brK_1 {f : Nat → Int32} {v : Int32} (w : f (Int32.toNatClampNeg 0) = v) : brK 1 f (upz z0 0 v.toInt) := by
  intro i hi
  have : i = 0 := by omega
  subst this
  unfold upz; rw [if_pos rfl, ← w]; rfl
theorem brK_r1 {r v : Int32} {f : Nat → Int32} (hr : r.toInt = 1) (w : f (Int32.toNatClampNeg 0) = v) : brK r.toNatClampNeg f (upz z0 0 v.toInt) := by
  have e := nn_eq r
  rw [show r.toNatClampNeg = 1 by omega]; exact brK_1 w
theorem brK_z1 {r : Int32} {f : Nat → Int32} {g : Nat → Int} (hr : r.toInt = 1) : brK (r.toNatClampNeg - 1) f g := by
  have e := nn_eq r
  rw [show r.toNatClampNeg - 1 = 0 by omega]; exact brK_0
theorem brK_m1 {r r' : Int32} {f : Nat → Int32} {g : Nat → Int} (h : brK r.toNatClampNeg f g) (e : r'.toInt = r.toInt + 1) (r0 : 0 ≤ r.toInt) : brK (r'.toNatClampNeg - 1) f g := by
  rw [nn_s e r0]; exact h
/-- behind the steps -/
def pfe2 (f : Nat → Int32) (n : Nat) (X : Except (Int × Int) (Nat × (Nat → Int) × (Nat → Int) × Nat)) : Except (Int × Int) (Nat × (Nat → Int) × (Nat → Int) × Nat) :=
  match X with
  | .error e => .error e
  | .ok (m, ra, mr, c2) => match psem f n c2 with
    | .error e => .error e
    | .ok c3 => .ok (m, ra, mr, c3)
theorem pfel_e {f : Nat → Int32} {n c : Nat} {e : Int × Int} (h : pnum f n 1 5 c = .error e) : pfel f n c = .error e := by
  unfold pfel; rw [h]
theorem pfel_0 {f : Nat → Int32} {n c c1 : Nat} {v : Int} {r : Int32} (h : pnum f n 1 5 c = .ok (v, c1)) (hr : r.toInt = 1) : pfel f n c = pfe2 f n (psts f n (4 - r.toNatClampNeg) r.toNatClampNeg (upz z0 0 v) z0 c1) := by
  unfold pfel; rw [h, ← psts_0 hr]; rfl
theorem pfe1_t {f : Nat → Int32} {n c : Nat} {b st : Int32} (hb : b.toInt = 1) (hs : st.toInt = (tkA f n c : Int)) : pfe1 f n b.toInt c = .error ((3 : Int32).toInt, st.toInt) := by
  unfold pfe1; rw [if_pos hb, hs]; rfl
theorem pfe1_f {f : Nat → Int32} {n c : Nat} {b : Int32} (hb : b.toInt = 0) : pfe1 f n b.toInt c = pfel f n (tkE f n c) := by
  unfold pfe1; rw [if_neg (by omega)]
theorem pfe2_e {f : Nat → Int32} {n : Nat} {e : Int × Int} : pfe2 f n (.error e) = .error e := rfl
theorem pfe2_s {f : Nat → Int32} {n m c : Nat} {ra mr : Nat → Int} {e : Int × Int} (h : psem f n c = .error e) : pfe2 f n (.ok (m, ra, mr, c)) = .error e := by
  unfold pfe2; simp only [h]
theorem pfe2_ok {f : Nat → Int32} {n m c c3 : Nat} {ra mr : Nat → Int} (h : psem f n c = .ok c3) : pfe2 f n (.ok (m, ra, mr, c)) = .ok (m, ra, mr, c3) := by
  unfold pfe2; simp only [h]
theorem ponc_t {f : Nat → Int32} {n c : Nat} {b st : Int32} (hb : b.toInt = 1) (hs : st.toInt = (tkA f n c : Int)) : ponc f n b.toInt c = .error ((3 : Int32).toInt, st.toInt) := by
  unfold ponc; rw [if_pos hb, hs]; rfl
theorem ponc_f {f : Nat → Int32} {n c : Nat} {b : Int32} (hb : b.toInt = 0) : ponc f n b.toInt c = pone f n (tkE f n c) := by
  unfold ponc; rw [if_neg (by omega)]
theorem ponc_h {f : Nat → Int32} {n c : Nat} {b : Int} {x : Int × Nat} (h : ponc f n b c = .ok x) : ¬ b = 1 := by
  intro z; unfold ponc at h; rw [if_pos z] at h; cases h
theorem pfe1_h {f : Nat → Int32} {n c : Nat} {b : Int} {x : Nat × (Nat → Int) × (Nat → Int) × Nat} (h : pfe1 f n b c = .ok x) : ¬ b = 1 := by
  intro z; unfold pfe1 at h; rw [if_pos z] at h; cases h
theorem prst_0 {f : Nat → Int32} {n c : Nat} {E L F o l r k : Int32} {ra mr : Nat → Int} (hE : E.toInt = 0) (hL : L.toInt = 0) (hF : F.toInt = 0) (ho : o.toInt = 0) (hl : l.toInt = 0) (hr : r.toInt = 1) (hk : k.toInt = 0) : prst f n 4 0 0 0 0 0 1 ra mr c = prst f n (4 - k.toNatClampNeg) E.toInt L.toInt F.toInt o.toInt l.toInt r.toNatClampNeg ra mr c := by
  have e := nn_eq r
  rw [hE, hL, hF, ho, hl, nn_z hk, show r.toNatClampNeg = 1 by omega]
theorem prst_G1 {f : Nat → Int32} {n c c1 m : Nat} {E E' k k' v : Int32} {L F o l : Int} {ra mr : Nat → Int} (h1 : tkS f n c = 1 ∧ twrd f n c = 176741) (h : ponc f n E.toInt c = .ok (v.toInt, c1)) (e : k'.toInt = k.toInt + 1) (k0 : 0 ≤ k.toInt) (k3 : k.toInt ≤ 3) (hE : E'.toInt = 1) : prst f n (4 - k.toNatClampNeg) E.toInt L F o l m ra mr c = prst f n (4 - k'.toNatClampNeg) E'.toInt L F v.toInt l m ra mr c1 := by
  have e1 := nn_eq k
  rw [prst_g1 h1 h (by omega), hE, nn_s e k0, Nat.sub_sub]
theorem prst_G2 {f : Nat → Int32} {n c c1 m : Nat} {E E' k k' v : Int32} {L F o l : Int} {ra mr : Nat → Int} (h1 : tkS f n c = 1 ∧ twrd f n c = 12748404) (h : ponc f n E.toInt c = .ok (v.toInt, c1)) (e : k'.toInt = k.toInt + 1) (k0 : 0 ≤ k.toInt) (k3 : k.toInt ≤ 3) (hE : E'.toInt = 1) : prst f n (4 - k.toNatClampNeg) L E.toInt F o l m ra mr c = prst f n (4 - k'.toNatClampNeg) L E'.toInt F o v.toInt m ra mr c1 := by
  have e1 := nn_eq k
  rw [prst_g2 h1 h (by omega), hE, nn_s e k0, Nat.sub_sub]
theorem prst_G3 {f : Nat → Int32} {n c c1 m m' : Nat} {E E' k k' : Int32} {L F o l : Int} {ra mr ra' mr' : Nat → Int} (h1 : tkS f n c = 1 ∧ twrd f n c = 201900) (h : pfe1 f n E.toInt c = .ok (m', ra', mr', c1)) (e : k'.toInt = k.toInt + 1) (k0 : 0 ≤ k.toInt) (k3 : k.toInt ≤ 3) (hE : E'.toInt = 1) : prst f n (4 - k.toNatClampNeg) L F E.toInt o l m ra mr c = prst f n (4 - k'.toNatClampNeg) L F E'.toInt o l m' ra' mr' c1 := by
  have e1 := nn_eq k
  rw [prst_g3 h1 h (by omega), hE, nn_s e k0, Nat.sub_sub]
theorem prst_X {f : Nat → Int32} {n c d : Nat} {he hl hf el le : Int} {m : Nat} {ra mr : Nat → Int} {st : Int32} (h0 : ¬ tkS f n c = 0) (h1 : ¬ (tkS f n c = 1 ∧ twrd f n c = 176741)) (h2 : ¬ (tkS f n c = 1 ∧ twrd f n c = 12748404)) (h3 : ¬ (tkS f n c = 1 ∧ twrd f n c = 201900)) (hs : st.toInt = (tkA f n c : Int)) (hd : 1 ≤ d) : prst f n d he hl hf el le m ra mr c = .error ((1 : Int32).toInt, st.toInt) := by
  rw [prst_x h0 h1 h2 h3 hd, hs]; rfl
theorem brK_c {f : Nat → Int32} (h : f 0 = 1) : brK (Int32.toNatClampNeg 1) f (upz z0 0 1) := brK_1 (v := 1) h
theorem kpos {k : Int32} (h0 : 0 ≤ k.toInt) (h : k.toInt ≤ 3) : 1 ≤ 4 - k.toNatClampNeg := by
  have e := nn_eq k; omega
theorem ms_up {x x' : Int32} {n : Nat} {K c : Int} (hn : n = (K - x.toInt).toNat) (e : x'.toInt = x.toInt + c) (hc : 1 ≤ c) (h : x.toInt < K) : (K - x'.toInt).toNat < n := by omega
theorem ms_end {x x' : Int32} {n : Nat} (hn : n = (900 - x.toInt).toNat) (h : x.toInt < x'.toInt) (h9 : x'.toInt ≤ 900) : (900 - x'.toInt).toNat < n := by omega
