/-- the reader stands at the TOKEN that is found from c on -/
def cuK (f : Nat → Int32) (n c : Nat) (nx tk st : Int32) : Prop := nx.toInt = (tkE f n c : Int) ∧ tk.toInt = tkS f n c ∧ st.toInt = (tkA f n c : Int)
theorem cu_nn {f : Nat → Int32} {n c : Nat} {nx tk st : Int32} (h : cuK f n c nx tk st) : nx.toNatClampNeg = tkE f n c ∧ st.toNatClampNeg = tkA f n c := by
  have e := nn_eq nx; have e2 := nn_eq st; have h1 := h.1; have h3 := h.2.2
  constructor <;> omega
theorem cu_next {f : Nat → Int32} {n c : Nat} {nx tk st nx' tk' st' : Int32} (h : cuK f n c nx tk st) (w : cuK f n nx.toNatClampNeg nx' tk' st') : cuK f n (tkE f n c) nx' tk' st' := by
  rw [← (cu_nn h).1]; exact w
theorem skI_step {f : Nat → Int32} {len x x' b r : Int32} {k : Int} {G : Nat} (hi : skv f len.toNatClampNeg k x.toNatClampNeg = G) (eb : b = f x.toNatClampNeg) (er : r.toInt = kdv b) (e : x'.toInt = x.toInt + 1) (x0 : 0 ≤ x.toInt) (hl : x.toInt < len.toInt) (hk : r.toInt = k) : skv f len.toNatClampNeg k x'.toNatClampNeg = G := by
  have e1 := nn_eq x; have e2 := nn_eq x'; have e3 := nn_eq len
  rw [skv_step (by omega) (by rw [← eb, ← er]; exact hk)] at hi
  rw [show x'.toNatClampNeg = x.toNatClampNeg + 1 by omega]; exact hi
theorem skI_stop1 {f : Nat → Int32} {len x : Int32} {k : Int} {G : Nat} (hi : skv f len.toNatClampNeg k x.toNatClampNeg = G) (x0 : 0 ≤ x.toInt) (hl : len.toInt ≤ x.toInt) : x.toInt = (G : Int) := by
  have e1 := nn_eq x; have e3 := nn_eq len
  rw [skv_stop (by omega)] at hi
  omega
theorem skI_stop2 {f : Nat → Int32} {len x b r : Int32} {k : Int} {G : Nat} (hi : skv f len.toNatClampNeg k x.toNatClampNeg = G) (x0 : 0 ≤ x.toInt) (eb : b = f x.toNatClampNeg) (er : r.toInt = kdv b) (hk : ¬ r.toInt = k) : x.toInt = (G : Int) := by
  have e1 := nn_eq x
  rw [skv_stop (fun h => hk (by rw [er, eb]; exact h.2))] at hi
  omega
theorem adv_end {f : Nat → Int32} {len x x0 : Int32} (hi : skv f len.toNatClampNeg 5 x.toNatClampNeg = skv f len.toNatClampNeg 5 x0.toNatClampNeg) (h0 : 0 ≤ x.toInt) (l0 : 0 ≤ len.toInt) (hl : len.toInt ≤ x.toInt) : cuK f len.toNatClampNeg x0.toNatClampNeg x 0 x := by
  have q := skI_stop1 hi h0 hl
  have e3 := nn_eq len
  have ha : tkA f len.toNatClampNeg x0.toNatClampNeg = skv f len.toNatClampNeg 5 x0.toNatClampNeg := rfl
  have hn : len.toNatClampNeg ≤ tkA f len.toNatClampNeg x0.toNatClampNeg := by omega
  refine ⟨?_, ?_, by omega⟩
  · unfold tkE; rw [if_pos hn]; omega
  · unfold tkS; rw [if_pos hn]; rfl
theorem adv_one {f : Nat → Int32} {len x x0 x' b r : Int32} (hi : skv f len.toNatClampNeg 5 x.toNatClampNeg = skv f len.toNatClampNeg 5 x0.toNatClampNeg) (eb : b = f x.toNatClampNeg) (er : r.toInt = kdv b) (hk : ¬ r.toInt = 5) (h0 : 0 ≤ x.toInt) (hl : x.toInt < len.toInt) (e : x'.toInt = x.toInt + 1) (h1 : ¬ r.toInt = 1) (h2 : ¬ r.toInt = 2) : cuK f len.toNatClampNeg x0.toNatClampNeg x' r x := by
  have q := skI_stop2 hi h0 eb er hk
  have e3 := nn_eq len; have e1 := nn_eq x
  have ha : tkA f len.toNatClampNeg x0.toNatClampNeg = skv f len.toNatClampNeg 5 x0.toNatClampNeg := rfl
  have hx : tkA f len.toNatClampNeg x0.toNatClampNeg = x.toNatClampNeg := by omega
  have hn : ¬ len.toNatClampNeg ≤ x.toNatClampNeg := by omega
  have hkk : r.toInt = kdv (f x.toNatClampNeg) := by rw [er, eb]
  have hr := kdv_r (f x.toNatClampNeg)
  refine ⟨?_, ?_, by omega⟩
  · unfold tkE; rw [hx, if_neg hn, if_neg (by omega), if_neg (by omega)]; omega
  · unfold tkS; rw [hx, if_neg hn, if_neg (by omega), if_neg (by omega)]; split <;> omega
theorem adv_run {f : Nat → Int32} {len x x0 x' b r y t : Int32} (hi : skv f len.toNatClampNeg 5 x.toNatClampNeg = skv f len.toNatClampNeg 5 x0.toNatClampNeg) (w0 : y.toInt = (skv f len.toNatClampNeg r.toInt x'.toNatClampNeg : Int)) (w1 : (t.toInt = 4 ∧ (r.toInt = 1 ∧ 8 < y.toInt - x.toInt ∨ r.toInt = 2 ∧ 4 < y.toInt - x.toInt)) ∨ (t.toInt = r.toInt ∧ (r.toInt = 1 ∧ y.toInt - x.toInt ≤ 8 ∨ r.toInt = 2 ∧ y.toInt - x.toInt ≤ 4))) (eb : b = f x.toNatClampNeg) (er : r.toInt = kdv b) (hk : ¬ r.toInt = 5) (h0 : 0 ≤ x.toInt) (hl : x.toInt < len.toInt) (e : x'.toInt = x.toInt + 1) : cuK f len.toNatClampNeg x0.toNatClampNeg y t x := by
  have q := skI_stop2 hi h0 eb er hk
  have e3 := nn_eq len; have e1 := nn_eq x; have e2 := nn_eq x'
  have ha : tkA f len.toNatClampNeg x0.toNatClampNeg = skv f len.toNatClampNeg 5 x0.toNatClampNeg := rfl
  have hx : tkA f len.toNatClampNeg x0.toNatClampNeg = x.toNatClampNeg := by omega
  have hn : ¬ len.toNatClampNeg ≤ x.toNatClampNeg := by omega
  have hkk : kdv (f x.toNatClampNeg) = r.toInt := by rw [er, eb]
  have hs := skv_step (n := len.toNatClampNeg) (Nat.lt_of_not_le hn) hkk
  rw [show x'.toNatClampNeg = x.toNatClampNeg + 1 by omega, ← hs] at w0
  have hc : r.toInt = 1 ∨ r.toInt = 2 := by omega
  rcases hc with hc | hc
  · rw [hc] at hkk w0
    refine ⟨?_, ?_, by omega⟩
    · unfold tkE; rw [hx, if_neg hn, if_pos hkk]; exact w0
    · unfold tkS; rw [hx, if_neg hn, if_pos hkk]; split <;> omega
  · rw [hc] at hkk w0
    refine ⟨?_, ?_, by omega⟩
    · unfold tkE; rw [hx, if_neg hn, if_neg (by omega), if_pos hkk]; exact w0
    · unfold tkS; rw [hx, if_neg hn, if_neg (by omega), if_pos hkk]; split <;> omega
/-- numbers -/
theorem nm_dig {f : Nat → Int32} {n c : Nat} {nx tk st i b : Int32} (h : cuK f n c nx tk st) (ht : tk.toInt = 2) (eb : b = f i.toNatClampNeg) (i0 : st.toInt ≤ i.toInt) (i1 : i.toInt < nx.toInt) : 48 ≤ b.toInt ∧ b.toInt ≤ 57 := by
  have q := cu_nn h; have e := nn_eq i; have h1 := h.1; have h3 := h.2.2
  rw [eb]; exact tk_dig (f := f) (n := n) (p := c) (by rw [← h.2.1]; exact ht) (by omega) (by omega)
theorem nm_len {f : Nat → Int32} {n c : Nat} {nx tk st : Int32} (h : cuK f n c nx tk st) (ht : tk.toInt = 2) : st.toInt < nx.toInt ∧ nx.toInt - st.toInt ≤ 4 := by
  have h1 := h.1; have h3 := h.2.2
  have q := tk_num (f := f) (n := n) (p := c) (by rw [← h.2.1]; exact ht)
  omega
theorem nm_b {f : Nat → Int32} {n c : Nat} {nx tk st i v : Int32} (h : cuK f n c nx tk st) (ht : tk.toInt = 2) (hv : v.toInt = nvd f st.toNatClampNeg (i.toInt - st.toInt).toNat) (i0 : st.toInt ≤ i.toInt) (i1 : i.toInt < nx.toInt) : 0 ≤ v.toInt ∧ v.toInt ≤ 999 := by
  have q := cu_nn h; have h1 := h.1; have h3 := h.2.2
  have hs : tkS f n c = 2 := by rw [← h.2.1]; exact ht
  have l := nm_len h ht
  have z := nvd_r (f := f) (a := st.toNatClampNeg) (i.toInt - st.toInt).toNat (fun j h1 h2 => tk_dig hs (by omega) (by omega))
  have h4 : (i.toInt - st.toInt).toNat ≤ 3 := by omega
  rw [← hv] at z
  generalize (i.toInt - st.toInt).toNat = d at z h4
  match d, h4, z with
  | 0, _, z => have : (10 : Int) ^ 0 = 1 := rfl; omega
  | 1, _, z => have : (10 : Int) ^ 1 = 10 := rfl; omega
  | 2, _, z => have : (10 : Int) ^ 2 = 100 := rfl; omega
  | 3, _, z => have : (10 : Int) ^ 3 = 1000 := rfl; omega
  | d + 4, h4, _ => omega
theorem nm_0 {f : Nat → Int32} {st : Int32} : (0 : Int32).toInt = nvd f st.toNatClampNeg (st.toInt - st.toInt).toNat := by
  rw [Int.sub_self]; rfl
theorem nm_up {f : Nat → Int32} {st i i' v v' b : Int32} (hv : v.toInt = nvd f st.toNatClampNeg (i.toInt - st.toInt).toNat) (eb : b = f i.toNatClampNeg) (s0 : 0 ≤ st.toInt) (i0 : st.toInt ≤ i.toInt) (e : i'.toInt = i.toInt + 1) (e2 : v'.toInt = 10 * v.toInt + (b.toInt - 48)) : v'.toInt = nvd f st.toNatClampNeg (i'.toInt - st.toInt).toNat := by
  have e1 := nn_eq st; have e3 := nn_eq i
  rw [show (i'.toInt - st.toInt).toNat = (i.toInt - st.toInt).toNat + 1 by omega]
  unfold nvd
  rw [← hv, show st.toNatClampNeg + (i.toInt - st.toInt).toNat = i.toNatClampNeg by omega, ← eb]; exact e2
theorem nm_end {f : Nat → Int32} {n c : Nat} {nx tk st i v : Int32} (h : cuK f n c nx tk st) (hv : v.toInt = nvd f st.toNatClampNeg (i.toInt - st.toInt).toNat) (hi : i.toInt = nx.toInt) : v.toInt = tnum f n c := by
  have q := cu_nn h; have h1 := h.1; have h3 := h.2.2
  unfold tnum
  rw [hv, q.2]
  rw [show (i.toInt - st.toInt).toNat = tkE f n c - tkA f n c by omega]
theorem pn_e1 {f : Nat → Int32} {n c : Nat} {nx tk st : Int32} {lo hi : Int} (h : cuK f n c nx tk st) (ht : ¬ tk.toInt = 2) : pnum f n lo hi c = .error ((1 : Int32).toInt, st.toInt) := by
  unfold pnum
  rw [if_neg (by rw [← h.2.1]; exact ht), h.2.2]; rfl
theorem pn_e2 {f : Nat → Int32} {n c : Nat} {nx tk st v : Int32} {lo hi : Int} (h : cuK f n c nx tk st) (ht : tk.toInt = 2) (hv : v.toInt = tnum f n c) (hr : v.toInt < lo ∨ hi < v.toInt) : pnum f n lo hi c = .error ((2 : Int32).toInt, st.toInt) := by
  unfold pnum
  rw [if_pos (by rw [← h.2.1]; exact ht), if_neg (by omega), h.2.2]; rfl
theorem pn_ok {f : Nat → Int32} {n c : Nat} {nx tk st v : Int32} {lo hi : Int} (h : cuK f n c nx tk st) (ht : tk.toInt = 2) (hv : v.toInt = tnum f n c) (h1 : lo ≤ v.toInt) (h2 : v.toInt ≤ hi) : pnum f n lo hi c = .ok (v.toInt, tkE f n c) := by
  unfold pnum
  rw [if_pos (by rw [← h.2.1]; exact ht), if_pos (by omega), hv]
theorem ps_e {f : Nat → Int32} {n c : Nat} {nx tk st : Int32} (h : cuK f n c nx tk st) (ht : ¬ tk.toInt = 3) : psem f n c = .error ((1 : Int32).toInt, st.toInt) := by
  unfold psem
  rw [if_neg (by rw [← h.2.1]; exact ht), h.2.2]; rfl
theorem ps_ok {f : Nat → Int32} {n c : Nat} {nx tk st : Int32} (h : cuK f n c nx tk st) (ht : tk.toInt = 3) : psem f n c = .ok (tkE f n c) := by
  unfold psem
  rw [if_pos (by rw [← h.2.1]; exact ht)]
