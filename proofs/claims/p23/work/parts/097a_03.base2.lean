theorem and_let {x : Int32} (h0 : 0 ≤ x.toInt) (h1 : x.toInt ≤ 127) : x &&& 255 = x := by
  apply Int32.toBitVec_inj.mp
  apply BitVec.eq_of_toNat_eq
  have hn : x.toBitVec.toNat < 256 := by
    have h2 : x.toInt = x.toBitVec.toInt := rfl
    rw [h2, BitVec.toInt_eq_toNat_cond] at h0 h1
    split at h0 <;> omega
  rw [Int32.toBitVec_and, BitVec.toNat_and, show (255 : Int32).toBitVec.toNat = 2 ^ 8 - 1 by decide, Nat.and_two_pow_sub_one_eq_mod]
  omega
theorem wd_up {f sf : Nat → Int32} {sn : Nat} {st i i' x b r : Int32} (hi : ∀ j : Nat, j < i.toNatClampNeg → f (st.toNatClampNeg + j) = sf j) (hlt : ∀ j : Nat, j < sn → 97 ≤ (sf j).toInt ∧ (sf j).toInt ≤ 122) (eb : b = f x.toNatClampNeg) (er : r = sf i.toNatClampNeg &&& 255) (hx : x.toInt = st.toInt + i.toInt) (s0 : 0 ≤ st.toInt) (i0 : 0 ≤ i.toInt) (hn : i.toInt < (sn : Int)) (e : i'.toInt = i.toInt + 1) (hc : b.toInt = r.toInt) : ∀ j : Nat, j < i'.toNatClampNeg → f (st.toNatClampNeg + j) = sf j := by
  have e1 := nn_eq st; have e2 := nn_eq i; have e3 := nn_eq i'; have e4 := nn_eq x
  intro j hj
  by_cases hji : j = i.toNatClampNeg
  · subst hji
    have q := hlt i.toNatClampNeg (by omega)
    rw [show st.toNatClampNeg + i.toNatClampNeg = x.toNatClampNeg by omega, ← eb]
    rw [and_let (by omega) (by omega)] at er
    rw [← er]; exact Int32.toInt_inj.mp hc
  · exact hi j (by omega)
theorem wd_0 {f sf : Nat → Int32} {st : Int32} : ∀ j : Nat, j < (0 : Int32).toNatClampNeg → f (st.toNatClampNeg + j) = sf j := by
  intro j hj; exact absurd hj (Nat.not_lt_zero j)
theorem wd_t {f sf : Nat → Int32} {n c sn : Nat} {nx tk st i : Int32} (h : cuK f n c nx tk st) (ht : tk.toInt = 1) (hl : nx.toInt - st.toInt = (sn : Int)) (hi : ∀ j : Nat, j < i.toNatClampNeg → f (st.toNatClampNeg + j) = sf j) (hin : (sn : Int) ≤ i.toInt) : tkS f n c = 1 ∧ twrd f n c = wcd sf 0 sn := by
  have q := cu_nn h; have h1 := h.1; have h3 := h.2.2; have e2 := nn_eq i
  refine ⟨by rw [← h.2.1]; exact ht, ?_⟩
  unfold twrd
  rw [show tkE f n c - tkA f n c = sn by omega]
  exact wcd_eq sn (fun j hj => by rw [Nat.zero_add, ← q.2]; exact hi j (by omega))
theorem wd_f1 {f sf : Nat → Int32} {n c sn : Nat} {nx tk st : Int32} (h : cuK f n c nx tk st) (ht : ¬ tk.toInt = 1) : ¬ (tkS f n c = 1 ∧ twrd f n c = wcd sf 0 sn) := fun z => ht (by rw [h.2.1]; exact z.1)
theorem wd_inj {f sf : Nat → Int32} {n c sn : Nat} {nx tk st : Int32} (h : cuK f n c nx tk st) (hlt : ∀ j : Nat, j < sn → 97 ≤ (sf j).toInt ∧ (sf j).toInt ≤ 122) (z : tkS f n c = 1 ∧ twrd f n c = wcd sf 0 sn) : nx.toInt - st.toInt = (sn : Int) ∧ ∀ j : Nat, j < sn → f (st.toNatClampNeg + j) = sf j := by
  have q := cu_nn h; have h1 := h.1; have h3 := h.2.2
  have w := tk_word z.1
  have hz := z.2
  unfold twrd at hz
  have y := wcd_inj _ _ (fun i hi hj => tk_let z.1 hi (by omega)) (fun i hi hj => hlt i (by omega)) hz
  refine ⟨by omega, fun j hj => ?_⟩
  have v := y.2 j (by omega)
  rw [Nat.zero_add] at v
  rw [q.2]; exact v
theorem wd_f2 {f sf : Nat → Int32} {n c sn : Nat} {nx tk st : Int32} (h : cuK f n c nx tk st) (hlt : ∀ j : Nat, j < sn → 97 ≤ (sf j).toInt ∧ (sf j).toInt ≤ 122) (hl : ¬ nx.toInt - st.toInt = (sn : Int)) : ¬ (tkS f n c = 1 ∧ twrd f n c = wcd sf 0 sn) := fun z => hl (wd_inj h hlt z).1
theorem wd_f3 {f sf : Nat → Int32} {n c sn : Nat} {nx tk st i x b r : Int32} (h : cuK f n c nx tk st) (hlt : ∀ j : Nat, j < sn → 97 ≤ (sf j).toInt ∧ (sf j).toInt ≤ 122) (eb : b = f x.toNatClampNeg) (er : r = sf i.toNatClampNeg &&& 255) (hx : x.toInt = st.toInt + i.toInt) (s0 : 0 ≤ st.toInt) (i0 : 0 ≤ i.toInt) (hn : i.toInt < (sn : Int)) (hc : ¬ b.toInt = r.toInt) : ¬ (tkS f n c = 1 ∧ twrd f n c = wcd sf 0 sn) := fun z => hc (by
  have e1 := nn_eq st; have e2 := nn_eq i; have e4 := nn_eq x
  have q := hlt i.toNatClampNeg (by omega)
  have v := (wd_inj h hlt z).2 i.toNatClampNeg (by omega)
  rw [and_let (by omega) (by omega)] at er
  rw [eb, er, ← v, show x.toNatClampNeg = st.toNatClampNeg + i.toNatClampNeg by omega])
theorem pw_e {f : Nat → Int32} {n c : Nat} {nx tk st : Int32} {k : Int} (h : cuK f n c nx tk st) (hw : ¬ (tkS f n c = 1 ∧ twrd f n c = k)) : pwrd f n k c = .error ((1 : Int32).toInt, st.toInt) := by
  unfold pwrd; rw [if_neg hw, h.2.2]; rfl
theorem pw_ok {f : Nat → Int32} {n c : Nat} {k : Int} (hw : tkS f n c = 1 ∧ twrd f n c = k) : pwrd f n k c = .ok (tkE f n c) := by
  unfold pwrd; rw [if_pos hw]
/-- two runs of the text -/
theorem sr_up {f : Nat → Int32} {a st i i' x y b d : Int32} (hi : ∀ j : Nat, j < i.toNatClampNeg → f (a.toNatClampNeg + j) = f (st.toNatClampNeg + j)) (eb : b = f x.toNatClampNeg) (ed : d = f y.toNatClampNeg) (hx : x.toInt = a.toInt + i.toInt) (hy : y.toInt = st.toInt + i.toInt) (a0 : 0 ≤ a.toInt) (s0 : 0 ≤ st.toInt) (i0 : 0 ≤ i.toInt) (e : i'.toInt = i.toInt + 1) (hc : b.toInt = d.toInt) : ∀ j : Nat, j < i'.toNatClampNeg → f (a.toNatClampNeg + j) = f (st.toNatClampNeg + j) := by
  have e0 := nn_eq a; have e1 := nn_eq st; have e2 := nn_eq i; have e3 := nn_eq i'; have e4 := nn_eq x; have e5 := nn_eq y
  intro j hj
  by_cases hji : j = i.toNatClampNeg
  · subst hji
    rw [show a.toNatClampNeg + i.toNatClampNeg = x.toNatClampNeg by omega, show st.toNatClampNeg + i.toNatClampNeg = y.toNatClampNeg by omega, ← eb, ← ed]
    exact Int32.toInt_inj.mp hc
  · exact hi j (by omega)
theorem sr_0 {f : Nat → Int32} {a st : Int32} : ∀ j : Nat, j < (0 : Int32).toNatClampNeg → f (a.toNatClampNeg + j) = f (st.toNatClampNeg + j) := by
  intro j hj; exact absurd hj (Nat.not_lt_zero j)
theorem sr_t {f : Nat → Int32} {n c : Nat} {nx tk st a b i : Int32} (h : cuK f n c nx tk st) (hl : b.toInt - a.toInt = nx.toInt - st.toInt) (a0 : 0 ≤ a.toInt) (hi : ∀ j : Nat, j < i.toNatClampNeg → f (a.toNatClampNeg + j) = f (st.toNatClampNeg + j)) (hin : b.toInt - a.toInt ≤ i.toInt) : wcd f a.toNatClampNeg (b.toNatClampNeg - a.toNatClampNeg) = twrd f n c := by
  have q := cu_nn h; have h1 := h.1; have h3 := h.2.2; have e2 := nn_eq i; have e3 := nn_eq a; have e4 := nn_eq b; have hle := tkE_le f n c
  unfold twrd
  rw [show b.toNatClampNeg - a.toNatClampNeg = tkE f n c - tkA f n c by omega, ← q.2]
  exact wcd_eq _ (fun j hj => hi j (by omega))
theorem sr_inj {f : Nat → Int32} {n c : Nat} {nx tk st a b : Int32} (h : cuK f n c nx tk st) (ht : tk.toInt = 1) (a0 : 0 ≤ a.toInt) (hab : a.toInt ≤ b.toInt) (hr : ∀ j : Nat, a.toNatClampNeg ≤ j → j < b.toNatClampNeg → 97 ≤ (f j).toInt ∧ (f j).toInt ≤ 122) (z : wcd f a.toNatClampNeg (b.toNatClampNeg - a.toNatClampNeg) = twrd f n c) : b.toInt - a.toInt = nx.toInt - st.toInt ∧ ∀ j : Nat, j < b.toNatClampNeg - a.toNatClampNeg → f (a.toNatClampNeg + j) = f (st.toNatClampNeg + j) := by
  have q := cu_nn h; have h1 := h.1; have h3 := h.2.2; have e3 := nn_eq a; have e4 := nn_eq b; have hle := tkE_le f n c
  have hs : tkS f n c = 1 := by rw [← h.2.1]; exact ht
  unfold twrd at z
  have y := wcd_inj _ _ (fun i hi hj => hr i hi (by omega)) (fun i hi hj => tk_let hs hi (by omega)) z
  refine ⟨by omega, fun j hj => ?_⟩
  rw [q.2]; exact y.2 j hj
theorem sr_f1 {f : Nat → Int32} {n c : Nat} {nx tk st a b : Int32} (h : cuK f n c nx tk st) (ht : tk.toInt = 1) (a0 : 0 ≤ a.toInt) (hab : a.toInt ≤ b.toInt) (hr : ∀ j : Nat, a.toNatClampNeg ≤ j → j < b.toNatClampNeg → 97 ≤ (f j).toInt ∧ (f j).toInt ≤ 122) (hl : ¬ b.toInt - a.toInt = nx.toInt - st.toInt) : ¬ wcd f a.toNatClampNeg (b.toNatClampNeg - a.toNatClampNeg) = twrd f n c := fun z => hl (sr_inj h ht a0 hab hr z).1
theorem sr_f2 {f : Nat → Int32} {n c : Nat} {nx tk st a b i x y u d : Int32} (h : cuK f n c nx tk st) (ht : tk.toInt = 1) (a0 : 0 ≤ a.toInt) (hab : a.toInt ≤ b.toInt) (hr : ∀ j : Nat, a.toNatClampNeg ≤ j → j < b.toNatClampNeg → 97 ≤ (f j).toInt ∧ (f j).toInt ≤ 122) (eb : u = f x.toNatClampNeg) (ed : d = f y.toNatClampNeg) (hx : x.toInt = a.toInt + i.toInt) (hy : y.toInt = st.toInt + i.toInt) (s0 : 0 ≤ st.toInt) (i0 : 0 ≤ i.toInt) (hn : i.toInt < b.toInt - a.toInt) (hc : ¬ u.toInt = d.toInt) : ¬ wcd f a.toNatClampNeg (b.toNatClampNeg - a.toNatClampNeg) = twrd f n c := fun z => hc (by
  have e0 := nn_eq a; have e1 := nn_eq st; have e2 := nn_eq i; have e4 := nn_eq x; have e5 := nn_eq y; have e6 := nn_eq b
  have v := (sr_inj h ht a0 hab hr z).2 i.toNatClampNeg (by omega)
  rw [eb, ed, show x.toNatClampNeg = a.toNatClampNeg + i.toNatClampNeg by omega, show y.toNatClampNeg = st.toNatClampNeg + i.toNatClampNeg by omega, v])
/-- the names that stand already, by their codes -/
def nmK (f : Nat → Int32) (k : Nat) (fs fe : Nat → Int32) (nm : Nat → Int) : Prop := ∀ i : Nat, i < k → 0 ≤ (fs i).toInt ∧ (fs i).toInt ≤ (fe i).toInt ∧ (∀ j : Nat, (fs i).toNatClampNeg ≤ j → j < (fe i).toNatClampNeg → 97 ≤ (f j).toInt ∧ (f j).toInt ≤ 122) ∧ nm i = wcd f (fs i).toNatClampNeg ((fe i).toNatClampNeg - (fs i).toNatClampNeg)
theorem nmK_0 {f : Nat → Int32} {fs fe : Nat → Int32} {nm : Nat → Int} : nmK f 0 fs fe nm := fun i h => absurd h (Nat.not_lt_zero i)
theorem nmK_up {f : Nat → Int32} {n c : Nat} {k nx tk st : Int32} {fs fe fs' fe' : Nat → Int32} {nm : Nat → Int} (h : nmK f k.toNatClampNeg fs fe nm) (hc : cuK f n c nx tk st) (ht : tk.toInt = 1) (k0 : 0 ≤ k.toInt) (ws : fs' k.toNatClampNeg = st) (os : ∀ j : Nat, ¬ j = k.toNatClampNeg → fs' j = fs j) (we : fe' k.toNatClampNeg = nx) (oe : ∀ j : Nat, ¬ j = k.toNatClampNeg → fe' j = fe j) : nmK f (k.toNatClampNeg + 1) fs' fe' (upz nm k.toNatClampNeg (twrd f n c)) := by
  have q := cu_nn hc; have h1 := hc.1; have h3 := hc.2.2; have hle := tkE_le f n c
  have hs : tkS f n c = 1 := by rw [← hc.2.1]; exact ht
  intro i hi
  by_cases hk : i = k.toNatClampNeg
  · subst hk
    rw [ws, we]
    refine ⟨by omega, by omega, fun j hj hj2 => tk_let hs (by omega) (by omega), ?_⟩
    unfold upz twrd; rw [if_pos rfl, q.1, q.2]
  · rw [os i hk, oe i hk]
    have z := h i (by omega)
    refine ⟨z.1, z.2.1, z.2.2.1, ?_⟩
    unfold upz; rw [if_neg hk]; exact z.2.2.2
theorem pm_e1 {f : Nat → Int32} {n c m : Nat} {nx tk st : Int32} {nm : Nat → Int} (h : cuK f n c nx tk st) (ht : ¬ tk.toInt = 1) : pnam f n m nm c = .error ((1 : Int32).toInt, st.toInt) := by
  unfold pnam; rw [if_neg (by rw [← h.2.1]; exact ht), h.2.2]; rfl
theorem pm_e3 {f : Nat → Int32} {n c m i : Nat} {nx tk st : Int32} {nm : Nat → Int} (h : cuK f n c nx tk st) (ht : tk.toInt = 1) (hi : i < m) (he : nm i = twrd f n c) : pnam f n m nm c = .error ((3 : Int32).toInt, st.toInt) := by
  unfold pnam; rw [if_pos (by rw [← h.2.1]; exact ht), if_pos (inn_t hi he), h.2.2]; rfl
theorem pm_ok {f : Nat → Int32} {n c m : Nat} {nx tk st : Int32} {nm : Nat → Int} (h : cuK f n c nx tk st) (ht : tk.toInt = 1) (hi : ∀ i, i < m → ¬ nm i = twrd f n c) : pnam f n m nm c = .ok (twrd f n c, tkE f n c) := by
  unfold pnam; rw [if_pos (by rw [← h.2.1]; exact ht), if_neg (by rw [inn_f hi]; decide)]
theorem nn_lt {i k : Int32} (h0 : 0 ≤ i.toInt) (h : i.toInt < k.toInt) : i.toNatClampNeg < k.toNatClampNeg := by
  have e1 := nn_eq i; have e2 := nn_eq k; omega
theorem nmK_ab {f : Nat → Int32} {k i a b : Int32} {fs fe : Nat → Int32} {nm : Nat → Int} (h : nmK f k.toNatClampNeg fs fe nm) (ea : a = fs i.toNatClampNeg) (eb : b = fe i.toNatClampNeg) (i0 : 0 ≤ i.toInt) (ik : i.toInt < k.toInt) : a.toInt ≤ b.toInt := by
  rw [ea, eb]; exact (h _ (nn_lt i0 ik)).2.1
theorem nmK_run {f : Nat → Int32} {k i a b : Int32} {fs fe : Nat → Int32} {nm : Nat → Int} (h : nmK f k.toNatClampNeg fs fe nm) (ea : a = fs i.toNatClampNeg) (eb : b = fe i.toNatClampNeg) (i0 : 0 ≤ i.toInt) (ik : i.toInt < k.toInt) : ∀ j : Nat, a.toNatClampNeg ≤ j → j < b.toNatClampNeg → 97 ≤ (f j).toInt ∧ (f j).toInt ≤ 122 := by
  rw [ea, eb]; exact (h _ (nn_lt i0 ik)).2.2.1
theorem nmK_eq {f : Nat → Int32} {k i a b : Int32} {fs fe : Nat → Int32} {nm : Nat → Int} {w : Int} (h : nmK f k.toNatClampNeg fs fe nm) (ea : a = fs i.toNatClampNeg) (eb : b = fe i.toNatClampNeg) (i0 : 0 ≤ i.toInt) (ik : i.toInt < k.toInt) (z : wcd f a.toNatClampNeg (b.toNatClampNeg - a.toNatClampNeg) = w) : nm i.toNatClampNeg = w := by
  rw [(h _ (nn_lt i0 ik)).2.2.2, ← ea, ← eb]; exact z
theorem nmK_ne {f : Nat → Int32} {k i a b : Int32} {fs fe : Nat → Int32} {nm : Nat → Int} {w : Int} (h : nmK f k.toNatClampNeg fs fe nm) (ea : a = fs i.toNatClampNeg) (eb : b = fe i.toNatClampNeg) (i0 : 0 ≤ i.toInt) (ik : i.toInt < k.toInt) (z : ¬ wcd f a.toNatClampNeg (b.toNatClampNeg - a.toNatClampNeg) = w) : ¬ nm i.toNatClampNeg = w := by
  rw [(h _ (nn_lt i0 ik)).2.2.2, ← ea, ← eb]; exact z
theorem nf_0 {nm : Nat → Int} {w : Int} : ∀ j : Nat, j < (0 : Int32).toNatClampNeg → ¬ nm j = w := fun j hj => absurd hj (Nat.not_lt_zero j)
theorem nf_up {nm : Nat → Int} {w : Int} {i i' : Int32} (h : ∀ j : Nat, j < i.toNatClampNeg → ¬ nm j = w) (i0 : 0 ≤ i.toInt) (e : i'.toInt = i.toInt + 1) (z : ¬ nm i.toNatClampNeg = w) : ∀ j : Nat, j < i'.toNatClampNeg → ¬ nm j = w := by
  have e1 := nn_eq i; have e2 := nn_eq i'
  intro j hj
  by_cases hji : j = i.toNatClampNeg
  · subst hji; exact z
  · exact h j (by omega)
theorem nf_end {nm : Nat → Int} {w : Int} {i k : Int32} (h : ∀ j : Nat, j < i.toNatClampNeg → ¬ nm j = w) (hk : k.toInt ≤ i.toInt) : ∀ j : Nat, j < k.toNatClampNeg → ¬ nm j = w := by
  have e1 := nn_eq i; have e2 := nn_eq k
  intro j hj; exact h j (by omega)
