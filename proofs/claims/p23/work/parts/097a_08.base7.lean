theorem upz_eq {g : Nat → Int} {k : Nat} {v : Int} : upz g k v k = v := if_pos rfl
theorem upz_ne {g : Nat → Int} {k i : Nat} {v : Int} (h : ¬ i = k) : upz g k v i = g i := if_neg h
theorem bm_1 {f : Nat → Int32} {v : Int32} (w : f (Int32.toNatClampNeg 2) = v) : brM 2 1 f (upz z0 0 v.toInt) := by
  intro i hi
  have : i = 0 := by omega
  subst this
  unfold upz; rw [if_pos rfl, ← w]; rfl
theorem bm_2 {f f' : Nat → Int32} {v u : Int32} (w : f (Int32.toNatClampNeg 2) = v) (w2 : f' (Int32.toNatClampNeg 3) = u) (o : ∀ j : Nat, ¬ j = Int32.toNatClampNeg 3 → f' j = f j) : brM 2 2 f' (upz (upz z0 0 v.toInt) 1 u.toInt) := by
  intro i hi
  have h : i = 0 ∨ i = 1 := by omega
  rcases h with h | h
  · subst h
    rw [o (2 + 0) (by decide), upz_ne (by decide)]
    exact bm_1 w 0 (by decide)
  · subst h
    rw [upz_eq, ← w2]; rfl
section PR
variable {f : Nat → Int32} {n c m : Nat} {he hl hf el le : Int} {ra mr : Nat → Int}
theorem prs1_x {en so aa nu ke : Int32} {wo : Int64} (h : cuM f n c en so aa nu ke wo) (hk : ¬ so.toInt = 1 ∨ ke.toInt < 6 ∨ 8 < ke.toInt) : prs1 f n he hl hf el le m ra mr c = .error ((1 : Int32).toInt, aa.toInt) := by
  have a : ∀ k : Nat, 6 ≤ k → k ≤ 8 → ¬ (tkS f n c = 1 ∧ twrd f n c = KC k) := fun k k6 k8 z => by
    have s := (cm_s h (by decide) (by decide)).mpr z.1
    have q := (h.2.2.2.2 z.1).2
    rw [z.2, KC_kyv _ (by omega)] at q
    omega
  have a6 : ¬ (tkS f n c = 1 ∧ twrd f n c = 176741) := a 6 (by decide) (by decide)
  have a7 : ¬ (tkS f n c = 1 ∧ twrd f n c = 12748404) := a 7 (by decide) (by decide)
  have a8 : ¬ (tkS f n c = 1 ∧ twrd f n c = 201900) := a 8 (by decide) (by decide)
  unfold prs1
  rw [if_neg a6, if_neg a7, if_neg a8, h.2.2.1]; rfl
theorem prs1_6 (hw : tkS f n c = 1 ∧ twrd f n c = 176741) (h : he = 0) : prs1 f n he hl hf el le m ra mr c = match pone f n (tkE f n c) with
    | .error e => .error e
    | .ok (v, c1) => .ok (1, hl, hf, v, le, m, ra, mr, c1) := by
  unfold prs1 ponc; rw [if_pos hw, if_neg (by omega)]; rfl
theorem prs1_7 (hw : tkS f n c = 1 ∧ twrd f n c = 12748404) (h : hl = 0) : prs1 f n he hl hf el le m ra mr c = match pone f n (tkE f n c) with
    | .error e => .error e
    | .ok (v, c1) => .ok (he, 1, hf, el, v, m, ra, mr, c1) := by
  unfold prs1 ponc; rw [if_neg (by omega), if_pos hw, if_neg (by omega)]; rfl
theorem prs1_8 (hw : tkS f n c = 1 ∧ twrd f n c = 201900) (h : hf = 0) : prs1 f n he hl hf el le m ra mr c = match pfel f n (tkE f n c) with
    | .error e => .error e
    | .ok (m', ra', mr', c1) => .ok (he, hl, 1, el, le, m', ra', mr', c1) := by
  unfold prs1 pfe1; rw [if_neg (by omega), if_neg (by omega), if_pos hw, if_neg (by omega)]; rfl
theorem prs1_t6 {aa : Int32} (hw : tkS f n c = 1 ∧ twrd f n c = 176741) (h : he = 1) (ha : aa.toInt = (tkA f n c : Int)) : prs1 f n he hl hf el le m ra mr c = .error ((3 : Int32).toInt, aa.toInt) := by
  unfold prs1 ponc; rw [if_pos hw, if_pos h, ha]; rfl
theorem prs1_t7 {aa : Int32} (hw : tkS f n c = 1 ∧ twrd f n c = 12748404) (h : hl = 1) (ha : aa.toInt = (tkA f n c : Int)) : prs1 f n he hl hf el le m ra mr c = .error ((3 : Int32).toInt, aa.toInt) := by
  unfold prs1 ponc; rw [if_neg (by omega), if_pos hw, if_pos h, ha]; rfl
theorem prs1_t8 {aa : Int32} (hw : tkS f n c = 1 ∧ twrd f n c = 201900) (h : hf = 1) (ha : aa.toInt = (tkA f n c : Int)) : prs1 f n he hl hf el le m ra mr c = .error ((3 : Int32).toInt, aa.toInt) := by
  unfold prs1 pfe1; rw [if_neg (by omega), if_neg (by omega), if_pos hw, if_pos h, ha]; rfl
theorem prst_N {s : Int32} {he2 hl2 hf2 el2 le2 : Int} {m2 c2 : Nat} {ra2 mr2 : Nat → Int} (h0 : ¬ tkS f n c = 0) (h : prs1 f n he hl hf el le m ra mr c = .ok (he2, hl2, hf2, el2, le2, m2, ra2, mr2, c2)) (hs : he2 + hl2 + hf2 = he + hl + hf + 1) (hb : sbK s he hl hf) : prst f n (4 - (he + hl + hf).toNat) he hl hf el le m ra mr c = prst f n (4 - (he2 + hl2 + hf2).toNat) he2 hl2 hf2 el2 le2 m2 ra2 mr2 c2 := by
  obtain ⟨h1, h2, h3, h4⟩ := hb
  rw [show 4 - (he + hl + hf).toNat = (4 - (he2 + hl2 + hf2).toNat) + 1 by omega, prst_1 h0, h]
theorem prst_NE {s : Int32} {e : Int × Int} (h0 : ¬ tkS f n c = 0) (h : prs1 f n he hl hf el le m ra mr c = .error e) (hb : sbK s he hl hf) : prst f n (4 - (he + hl + hf).toNat) he hl hf el le m ra mr c = .error e := by
  obtain ⟨h1, h2, h3, h4⟩ := hb
  rw [show 4 - (he + hl + hf).toNat = (3 - (he + hl + hf).toNat) + 1 by omega, prst_1 h0, h]
theorem prst_Nd {s : Int32} (h0 : tkS f n c = 0) (hb : sbK s he hl hf) : prst f n (4 - (he + hl + hf).toNat) he hl hf el le m ra mr c = .ok (el, le, m, ra, mr) := by
  obtain ⟨h1, h2, h3, h4⟩ := hb
  exact prst_end h0 (by omega)
end PR
/-- a row copied from behind -/
def cpK (b k : Nat) (f0 f : Nat → Int32) : Prop := ∀ j : Nat, f j = if j < k then f0 (b + j) else f0 j
theorem cp_0 {b : Nat} {f : Nat → Int32} : cpK b (Int32.toNatClampNeg 0) f f := fun j => (show f j = if j < 0 then f (b + j) else f j from (if_neg (Nat.not_lt_zero j)).symm)
theorem cp_up {b : Nat} {i i' z x : Int32} {f0 f f' : Nat → Int32} (h : cpK b i.toNatClampNeg f0 f) (ez : z.toInt = b + i.toInt) (e : x = f z.toNatClampNeg) (w : f' i.toNatClampNeg = x) (o : ∀ j : Nat, ¬ j = i.toNatClampNeg → f' j = f j) (ei : i'.toInt = i.toInt + 1) (i0 : 0 ≤ i.toInt) (hb : i.toInt < b) : cpK b i'.toNatClampNeg f0 f' := by
  have n1 := nn_eq i; have n2 := nn_s ei i0; have n3 := nn_eq z
  intro j
  by_cases hj : j = i.toNatClampNeg
  · subst hj
    rw [w, e, h, if_neg (by omega), if_pos (by omega), show z.toNatClampNeg = b + i.toNatClampNeg by omega]
  · rw [o j hj, h j]
    by_cases h2 : j < i.toNatClampNeg
    · rw [if_pos h2, if_pos (by omega)]
    · rw [if_neg h2, if_neg (by omega)]
theorem cp_end {b k : Nat} {i : Int32} {f0 f : Nat → Int32} (h : cpK b i.toNatClampNeg f0 f) (h1 : (k : Int) ≤ i.toInt) (h2 : i.toInt ≤ k) : cpK b k f0 f := by
  have n1 := nn_eq i
  rw [show i.toNatClampNeg = k by omega] at h; exact h
theorem brM_cp {b k m : Nat} {f0 f : Nat → Int32} {g : Nat → Int} (h : brM b m f0 g) (c : cpK b k f0 f) (hm : m ≤ k) : brK m f g := by
  intro i hi
  rw [c i, if_pos (by omega)]; exact h i hi
/-- a row filled -/
def flK (k : Nat) (f : Nat → Int32) (v : Int32) : Prop := ∀ j : Nat, j < k → f j = v
theorem fl_0 {f : Nat → Int32} {v : Int32} : flK (Int32.toNatClampNeg 0) f v := fun j h => absurd h (Nat.not_lt_zero j)
theorem fl_up {i i' v : Int32} {f f' : Nat → Int32} (h : flK i.toNatClampNeg f v) (w : f' i.toNatClampNeg = v) (o : ∀ j : Nat, ¬ j = i.toNatClampNeg → f' j = f j) (ei : i'.toInt = i.toInt + 1) (i0 : 0 ≤ i.toInt) : flK i'.toNatClampNeg f' v := by
  have n2 := nn_s ei i0
  intro j hj
  by_cases h2 : j = i.toNatClampNeg
  · subst h2; exact w
  · rw [o j h2]; exact h j (by omega)
theorem fl_end {k : Nat} {i v : Int32} {f : Nat → Int32} (h : flK i.toNatClampNeg f v) (h1 : (k : Int) ≤ i.toInt) : flK k f v := by
  have n1 := nn_eq i
  exact fun j hj => h j (by omega)
