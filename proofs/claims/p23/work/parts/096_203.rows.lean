/-! rows of the reference's bounds, and what a determinant over them can be at the most -/
def smk (n : Int32) (rb : Nat → Int) : Prop := (∀ g, 1 ≤ rb g ∧ rb g ≤ 40) ∧ (n.toInt ≤ 3 ∨ ∃ tt : Nat, ∀ g, rb g ≤ if g = tt then 20 else 10)
def rwk (rb : Nat → Int) (n bd : Int32) (f : Nat → Int64) : Prop := ∀ k g : Nat, k < bd.toNatClampNeg → g < n.toNatClampNeg → jv (f (4 * k + g)) (-(rb g)) (rb g)
def dbb (rb : Nat → Int) (c : Int32) (g : Nat) : Int := if (g : Int) = c.toInt then 1980 else rb g
def mtk (bb : Nat → Int) (n : Int32) (f : Nat → Int64) (i g : Int32) : Prop := ∀ j k : Nat, k < n.toNatClampNeg → (j < i.toNatClampNeg ∨ (j = i.toNatClampNeg ∧ k < g.toNatClampNeg)) → jv (f (4 * j + k)) (-(bb k)) (bb k)
theorem nn_eq (x : Int32) : x.toNatClampNeg = x.toInt.toNat := rfl
theorem mtk_0 {bb : Nat → Int} {n : Int32} {f : Nat → Int64} : mtk bb n f 0 0 := by
  intro j k _ h
  rw [show (0 : Int32).toNatClampNeg = 0 by decide] at h
  omega
theorem mtk_row {bb : Nat → Int} {n i g i' : Int32} {f : Nat → Int64} (h : mtk bb n f i g) (hg : n.toInt ≤ g.toInt) (e : i + Int32.ofInt 1 = i') (h0 : 0 ≤ i.toInt) (h3 : i.toInt ≤ 3) : mtk bb n f i' 0 := by
  obtain ⟨-, q⟩ := mn_nx e (iv.m ⟨h0, h3⟩)
  intro j k hk hj
  rw [q, show (0 : Int32).toNatClampNeg = 0 by decide] at hj
  have e1 := nn_eq n; have e2 := nn_eq g
  exact h j k hk (by omega)
theorem mtk_up {bb : Nat → Int} {n i g g' ix : Int32} {f f' : Nat → Int64} {v : Int64} (h : mtk bb n f i g) (w : f' ix.toNatClampNeg = v) (o : ∀ j : Nat, ¬ j = ix.toNatClampNeg → f' j = f j) (hix : ix.toInt = 4 * i.toInt + g.toInt) (hv : jv v (-(bb g.toNatClampNeg)) (bb g.toNatClampNeg)) (e : g + Int32.ofInt 1 = g') (h0 : 0 ≤ i.toInt) (g0 : 0 ≤ g.toInt) (g3 : g.toInt ≤ 3) (hn : n.toInt ≤ 4) : mtk bb n f' i g' := by
  obtain ⟨-, q⟩ := mn_nx e (iv.m ⟨g0, g3⟩)
  have e1 := nn_eq n; have e2 := nn_eq g; have e3 := nn_eq i; have e4 := nn_eq ix
  intro j k hk hj
  rw [q] at hj
  by_cases z : 4 * j + k = ix.toNatClampNeg
  · have : k = g.toNatClampNeg := by omega
    rw [z, w, this]; exact hv
  · rw [o _ z]; exact h j k hk (by omega)
theorem mtk_upL {rb : Nat → Int} {n i g g' ix c : Int32} {f f' : Nat → Int64} {v : Int64} (h : mtk (dbb rb c) n f i g) (w : f' ix.toNatClampNeg = v) (o : ∀ j : Nat, ¬ j = ix.toNatClampNeg → f' j = f j) (hix : ix.toInt = 4 * i.toInt + g.toInt) (hc : g.toInt = c.toInt) (hv : jv v (-1980) 1980) (e : g + Int32.ofInt 1 = g') (h0 : 0 ≤ i.toInt) (g0 : 0 ≤ g.toInt) (g3 : g.toInt ≤ 3) (hn : n.toInt ≤ 4) : mtk (dbb rb c) n f' i g' := by
  refine mtk_up h w o hix ?_ e h0 g0 g3 hn
  have e2 := nn_eq g
  unfold dbb
  rw [if_pos (by omega)]; exact hv
theorem mtk_upR {rb : Nat → Int} {n i g g' ix ix2 ch c bd : Int32} {fc : Nat → Int32} {f f' fr : Nat → Int64} {v : Int64} (h : mtk (dbb rb c) n f i g) (w : f' ix.toNatClampNeg = v) (o : ∀ j : Nat, ¬ j = ix.toNatClampNeg → f' j = f j) (hix : ix.toInt = 4 * i.toInt + g.toInt) (hc : g.toInt ≠ c.toInt) (hr : rwk rb n bd fr) (hcs : ∀ j : Nat, j < n.toNatClampNeg → (fc j).toInt < bd.toInt) (ec : ch = fc i.toNatClampNeg) (c0 : 0 ≤ ch.toInt) (hix2 : ix2.toInt = 4 * ch.toInt + g.toInt) (ev : v = fr ix2.toNatClampNeg) (e : g + Int32.ofInt 1 = g') (h0 : 0 ≤ i.toInt) (hi : i.toInt < n.toInt) (g0 : 0 ≤ g.toInt) (hg : g.toInt < n.toInt) (hn : n.toInt ≤ 4) : mtk (dbb rb c) n f' i g' := by
  refine mtk_up h w o hix ?_ e h0 g0 (by omega) hn
  have e1 := nn_eq n; have e2 := nn_eq g; have e3 := nn_eq i; have e4 := nn_eq ix2; have e5 := nn_eq ch; have e6 := nn_eq bd
  have q1 := hcs i.toNatClampNeg (by omega)
  rw [← ec] at q1
  have q2 := hr ch.toNatClampNeg g.toNatClampNeg (by omega) (by omega)
  rw [show 4 * ch.toNatClampNeg + g.toNatClampNeg = ix2.toNatClampNeg by omega, ← ev] at q2
  unfold dbb
  rw [if_neg (by omega)]; exact q2
theorem cols_all : ∀ n : Fin 5, ((1 : Int32) <<< (Int32.ofNat n.val &&& 31)) - 1 = Int32.ofNat (2 ^ n.val - 1) ∧ ccn (2 ^ n.val - 1) n.val = n.val ∧ 2 ^ n.val - 1 ≤ 15 := by decide +kernel
theorem cols_of {n x y : Int32} (hn : iv n 0 4) (e1 : x = 1 <<< (n &&& 31)) (e2 : y = x - 1) : y.toNatClampNeg = 2 ^ n.toNatClampNeg - 1 ∧ iv y 0 15 ∧ ccn y.toNatClampNeg n.toNatClampNeg = n.toNatClampNeg := by
  obtain ⟨n1, n2⟩ := i32_of (hi := 4) hn
  have q := cols_all ⟨n.toNatClampNeg, by omega⟩
  dsimp only at q
  rw [← n1, ← e1, ← e2] at q
  obtain ⟨q1, q2, q3⟩ := q
  have e : y.toNatClampNeg = 2 ^ n.toNatClampNeg - 1 := by
    rw [q1]
    show (Int32.ofNat (2 ^ n.toNatClampNeg - 1)).toInt.toNat = _
    rw [of_toInt (by omega)]; omega
  refine ⟨e, ?_, by rw [e]; exact q2⟩
  refine iv.m ?_
  rw [q1, of_toInt (by omega)]; omega
theorem pr4 {a b c d A B C D : Int} (a1 : 1 ≤ a) (b1 : 1 ≤ b) (c1 : 1 ≤ c) (d1 : 1 ≤ d) (hA : a ≤ A) (hB : b ≤ B) (hC : c ≤ C) (hD : d ≤ D) : a * (b * (c * d)) ≤ A * (B * (C * D)) := by
  have m2 := mul_1 (show 1 ≤ C by omega) (show 1 ≤ D by omega)
  have m1 := mul_1 (show 1 ≤ B by omega) m2
  have n2 := mul_1 c1 d1
  have n1 := mul_1 b1 n2
  exact Int.mul_le_mul hA (Int.mul_le_mul hB (Int.mul_le_mul hC hD (by omega) (by omega)) (by omega) (by omega)) (by omega) (by omega)
def bA (c t : Nat) (g : Nat) : Int := if g = c then 1980 else if g = t then 20 else 10
def bB (c : Nat) (g : Nat) : Int := if g = c then 1980 else 40
theorem bA_x : ∀ c t : Fin 5, 24 * (bA c.val t.val 0 * (bA c.val t.val 1 * (bA c.val t.val 2 * bA c.val t.val 3))) ≤ 95040000 := by decide +kernel
theorem bA_d : ∀ t : Fin 5, 24 * (bA 4 t.val 0 * (bA 4 t.val 1 * (bA 4 t.val 2 * bA 4 t.val 3))) ≤ 480000 := by decide +kernel
theorem bB_x : ∀ c : Fin 5, 6 * (bB c.val 0 * (bB c.val 1 * (bB c.val 2 * 1))) ≤ 95040000 := by decide +kernel
theorem bB_d : 6 * (bB 4 0 * (bB 4 1 * (bB 4 2 * 1))) ≤ 480000 := by decide +kernel
theorem bB_h : ∀ c : Fin 5, 24 * (bB c.val 0 * (bB c.val 1 * (bB c.val 2 * bB c.val 3))) ≤ 1000000000000 := by decide +kernel
theorem dbb_c {rb : Nat → Int} (c : Int32) : ∃ cN : Nat, cN < 5 ∧ (∀ g, g < 4 → dbb rb c g = if g = cN then 1980 else rb g) ∧ ((∀ g : Nat, g < 4 → ¬ (g : Int) = c.toInt) → cN = 4) := by
  by_cases h : 0 ≤ c.toInt ∧ c.toInt < 4
  · refine ⟨c.toInt.toNat, by omega, fun g hg => ?_, fun z => absurd (show ((c.toInt.toNat : Nat) : Int) = c.toInt by omega) (z c.toInt.toNat (by omega))⟩
    unfold dbb
    by_cases q : (g : Int) = c.toInt
    · rw [if_pos q, if_pos (by omega)]
    · rw [if_neg q, if_neg (by omega)]
  · refine ⟨4, by omega, fun g hg => ?_, fun _ => rfl⟩
    unfold dbb
    rw [if_neg (by omega), if_neg (by omega)]
theorem dbb_1 {n : Int32} {rb : Nat → Int} (hs : smk n rb) (c : Int32) (g : Nat) : 1 ≤ dbb rb c g := by
  unfold dbb; split
  · decide
  · exact (hs.1 g).1
theorem cpr_15 (b : Nat → Int) : cpr b 15 = b 0 * (b 1 * (b 2 * b 3)) := by simp [cpr, sb, Nat.testBit]
theorem cpr_le3 {b : Nat → Int} (h : ∀ k, 1 ≤ b k) {c : Nat} (hc : c < 8) : cpr b c ≤ b 0 * (b 1 * (b 2 * 1)) := by
  have q : c.testBit 3 = false := Nat.testBit_lt_two_pow (by omega)
  unfold cpr
  rw [show sb c 3 (b 3) = 1 by unfold sb; rw [q]; simp]
  exact pr4 (sb_1 (h 0)) (sb_1 (h 1)) (sb_1 (h 2)) (by decide) (sb_le (h 0)) (sb_le (h 1)) (sb_le (h 2)) (by decide)
theorem det_b {n c y : Int32} {rb : Nat → Int} (hn : iv n 0 4) (hs : smk n rb) (hy : y.toNatClampNeg = 2 ^ n.toNatClampNeg - 1) : mnB (dbb rb c) n 0 y ≤ 95040000 ∧ ((∀ g : Nat, g < 4 → ¬ (g : Int) = c.toInt) → mnB (dbb rb c) n 0 y ≤ 480000) := by
  obtain ⟨cN, c5, hc, hc4⟩ := dbb_c (rb := rb) c
  have d1 := dbb_1 hs c
  have n0 := hn.1; have n4 := hn.2
  have en := nn_eq n
  unfold mnB
  rw [hy, Nat.sub_zero]
  by_cases q : n.toInt ≤ 3
  · have hr : ∀ g, g < 4 → dbb rb c g ≤ bB cN g := by
      intro g hg; rw [hc g hg]; unfold bB
      have := (hs.1 g).2
      split <;> omega
    have k := cpr_le3 d1 (c := 2 ^ n.toNatClampNeg - 1) (by
      rcases (show n.toNatClampNeg = 0 ∨ n.toNatClampNeg = 1 ∨ n.toNatClampNeg = 2 ∨ n.toNatClampNeg = 3 by omega) with z | z | z | z <;> rw [z] <;> decide)
    have k2 := pr4 (d1 0) (d1 1) (d1 2) (show (1 : Int) ≤ 1 by decide) (hr 0 (by decide)) (hr 1 (by decide)) (hr 2 (by decide)) (show (1 : Int) ≤ 1 by decide)
    have f6 : 1 ≤ fa n.toNatClampNeg ∧ fa n.toNatClampNeg ≤ 6 := by
      rcases (show n.toNatClampNeg = 0 ∨ n.toNatClampNeg = 1 ∨ n.toNatClampNeg = 2 ∨ n.toNatClampNeg = 3 by omega) with z | z | z | z <;> rw [z] <;> decide
    have c1 := cpr_1 d1 (2 ^ n.toNatClampNeg - 1)
    have m : fa n.toNatClampNeg * cpr (dbb rb c) (2 ^ n.toNatClampNeg - 1) ≤ 6 * (bB cN 0 * (bB cN 1 * (bB cN 2 * 1))) := Int.mul_le_mul f6.2 (Int.le_trans k k2) (by omega) (by decide)
    refine ⟨Int.le_trans m (bB_x ⟨cN, c5⟩), fun z => ?_⟩
    have := hc4 z
    subst this
    exact Int.le_trans m bB_d
  · have e4 : n.toNatClampNeg = 4 := by omega
    obtain ⟨tt, ht⟩ := hs.2.resolve_left q
    have hr : ∀ g, g < 4 → dbb rb c g ≤ bA cN (if tt < 4 then tt else 4) g := by
      intro g hg; rw [hc g hg]; unfold bA
      have h1 := ht g
      split
      · omega
      · by_cases z : g = tt
        · rw [if_pos z] at h1; rw [if_pos (show tt < 4 by omega), if_pos z]; exact h1
        · rw [if_neg z] at h1; split <;> omega
    have t5 : (if tt < 4 then tt else 4) < 5 := by split <;> omega
    rw [e4, show (2 ^ 4 - 1 : Nat) = 15 by decide, cpr_15, show fa 4 = 24 by decide]
    have k2 := pr4 (d1 0) (d1 1) (d1 2) (d1 3) (hr 0 (by decide)) (hr 1 (by decide)) (hr 2 (by decide)) (hr 3 (by decide))
    refine ⟨?_, fun z => ?_⟩
    · have := bA_x ⟨cN, c5⟩ ⟨_, t5⟩
      dsimp only at this
      omega
    · have := hc4 z
      subst this
      have := bA_d ⟨_, t5⟩
      dsimp only at this
      omega
theorem det_H {n c x y i g : Int32} {rb : Nat → Int} {f : Nat → Int64} (hn : iv n 0 4) (hs : smk n rb) (hm : mtk (dbb rb c) n f i g) (hi : n.toInt ≤ i.toInt) (e1 : x = 1 <<< (n &&& 31)) (e2 : y = x - 1) : mnH (dbb rb c) n 0 f y := by
  obtain ⟨c1, c2, c3⟩ := cols_of hn e1 e2
  obtain ⟨cN, c5, hc, -⟩ := dbb_c (rb := rb) c
  have d1 := dbb_1 hs c
  have en := nn_eq n; have ei := nn_eq i
  have hr : ∀ g, g < 4 → dbb rb c g ≤ bB cN g := by
    intro g hg; rw [hc g hg]; unfold bB
    have := (hs.1 g).2
    split <;> omega
  have k2 := pr4 (d1 0) (d1 1) (d1 2) (d1 3) (hr 0 (by decide)) (hr 1 (by decide)) (hr 2 (by decide)) (hr 3 (by decide))
  have k3 := bB_h ⟨cN, c5⟩
  dsimp only at k3
  exact ⟨d1, by omega, fun j k hj hk => hm j k hk (by omega), c2, by rw [c3, Nat.sub_zero]⟩
theorem det_E {n c x y : Int32} {rb : Nat → Int} {r : Int64} (hn : iv n 0 4) (hs : smk n rb) (e1 : x = 1 <<< (n &&& 31)) (e2 : y = x - 1) (h : jv r (-(mnB (dbb rb c) n 0 y)) (mnB (dbb rb c) n 0 y)) : jv r (-95040000) 95040000 ∧ (c.toInt = -1 → jv r (-480000) 480000) := by
  obtain ⟨c1, -, -⟩ := cols_of hn e1 e2
  obtain ⟨b1, b2⟩ := det_b (c := c) hn hs c1
  refine ⟨h.w (by omega) b1, fun z => ?_⟩
  have := b2 (fun g _ => by omega)
  exact h.w (by omega) this
/-- groups of SIGNS: how large a row's numbers grow while the SIGNS are gone through -/
def grk (n3 n : Int32) (grp : Nat → Int32) (cb rb : Nat → Int) : Prop := (∃ B : Nat → Nat → Int, (∀ g, 0 ≤ B 0 g) ∧ (∀ s g : Nat, s < n3.toNatClampNeg → B s g ≤ B (s + 1) g ∧ (g = (grp s).toNatClampNeg → B s g + cb s ≤ B (s + 1) g)) ∧ (∀ s g : Nat, s ≤ n3.toNatClampNeg → B s g ≤ rb g)) ∧ smk n rb ∧ (∀ s : Nat, s < n3.toNatClampNeg → (grp s).toInt < n.toInt) ∧ (∀ s : Nat, 0 ≤ cb s ∧ cb s ≤ 20)
def chk (cb : Nat → Int) (f : Nat → Int32) : Prop := ∀ a s : Nat, a < 5 → s < 4 → iv (f (4 * a + s)) 0 (cb s)
def rac (n3 n : Int32) (grp : Nat → Int32) (cb rb : Nat → Int) (f : Nat → Int64) (k s : Int32) : Prop := ∃ B : Nat → Nat → Int, ((∀ s g : Nat, s < n3.toNatClampNeg → B s g ≤ B (s + 1) g ∧ (g = (grp s).toNatClampNeg → B s g + cb s ≤ B (s + 1) g)) ∧ (∀ s g : Nat, s ≤ n3.toNatClampNeg → B s g ≤ rb g)) ∧ s.toInt ≤ n3.toInt ∧ ∀ g : Nat, g < n.toNatClampNeg → jv (f (4 * k.toNatClampNeg + g)) (-(B s.toNatClampNeg g)) (B s.toNatClampNeg g)
theorem chk_at {cb : Nat → Int} {f : Nat → Int32} (h : chk cb f) {a s ix x : Int32} (ha : iv a 0 4) (hs : iv s 0 3) (hix : ix.toInt = 4 * a.toInt + s.toInt) (e : x = f ix.toNatClampNeg) : 0 ≤ x.toInt ∧ x.toInt ≤ cb s.toNatClampNeg := by
  have a0 := ha.1; have a4 := ha.2; have s0 := hs.1; have s3 := hs.2
  have e1 := nn_eq a; have e2 := nn_eq s; have e3 := nn_eq ix
  have := h a.toNatClampNeg s.toNatClampNeg (by omega) (by omega)
  rw [show 4 * a.toNatClampNeg + s.toNatClampNeg = ix.toNatClampNeg by omega, ← e] at this
  exact this
/-- a bound more: row k is 0, the others are as they were -/
def adk (n bd : Int32) (f f' : Nat → Int64) : Prop := (∀ g : Nat, g < n.toNatClampNeg → f' (4 * bd.toNatClampNeg + g) = 0) ∧ ∀ j : Nat, (j < 4 * bd.toNatClampNeg ∨ 4 * bd.toNatClampNeg + 4 ≤ j) → f' j = f j
def adI (n bd : Int32) (f f' : Nat → Int64) (g : Int32) : Prop := g.toInt ≤ n.toInt ∧ (∀ h : Nat, h < g.toNatClampNeg → f' (4 * bd.toNatClampNeg + h) = 0) ∧ ∀ j : Nat, (j < 4 * bd.toNatClampNeg ∨ 4 * bd.toNatClampNeg + 4 ≤ j) → f' j = f j
theorem adI_0 {n bd : Int32} {f : Nat → Int64} (h : 0 ≤ n.toInt) : adI n bd f f 0 := ⟨h, fun g z => by rw [show (0 : Int32).toNatClampNeg = 0 by decide] at z; omega, fun _ _ => rfl⟩
theorem adI_up {n bd g g' ix : Int32} {f f1 f2 : Nat → Int64} (h : adI n bd f f1 g) (w : f2 ix.toNatClampNeg = 0) (o : ∀ j : Nat, ¬ j = ix.toNatClampNeg → f2 j = f1 j) (hix : ix.toInt = 4 * bd.toInt + g.toInt) (b0 : 0 ≤ bd.toInt) (e : g + Int32.ofInt 1 = g') (g0 : 0 ≤ g.toInt) (hg : g.toInt < n.toInt) (hn : n.toInt ≤ 4) : adI n bd f f2 g' := by
  obtain ⟨q1, q⟩ := mn_nx e (iv.m ⟨g0, by omega⟩)
  have e1 := nn_eq g; have e2 := nn_eq bd; have e3 := nn_eq ix
  refine ⟨by omega, fun k hk => ?_, fun j hj => ?_⟩
  · rw [q] at hk
    by_cases z : 4 * bd.toNatClampNeg + k = ix.toNatClampNeg
    · rw [z]; exact w
    · rw [o _ z]; exact h.2.1 k (by omega)
  · rw [o j (by omega)]; exact h.2.2 j hj
theorem adI_end {n bd g : Int32} {f f' : Nat → Int64} (h : adI n bd f f' g) (hg : n.toInt ≤ g.toInt) : adk n bd f f' := by
  have e1 := nn_eq g; have e2 := nn_eq n
  exact ⟨fun k hk => h.2.1 k (by omega), h.2.2⟩
theorem rwk_0 {rb : Nat → Int} {n : Int32} {f : Nat → Int64} : rwk rb n 0 f := by
  intro k g hk; rw [show (0 : Int32).toNatClampNeg = 0 by decide] at hk; omega
/-- behind a new bound: the rows ahead of it, and itself at no SIGN yet -/
theorem rwk_keep {rb : Nat → Int} {n bd : Int32} {f f' : Nat → Int64} (h : rwk rb n bd f) (ha : adk n bd f f') (hn : n.toInt ≤ 4) : rwk rb n bd f' := by
  have e1 := nn_eq n
  intro k g hk hg
  rw [ha.2 _ (by omega)]; exact h k g hk hg
theorem rac_0 {n3 n bd : Int32} {grp : Nat → Int32} {cb rb : Nat → Int} {f f' : Nat → Int64} (hg : grk n3 n grp cb rb) (ha : adk n bd f f') (h3 : 0 ≤ n3.toInt) : rac n3 n grp cb rb f' bd 0 := by
  obtain ⟨⟨B, b0, b1, b2⟩, -⟩ := hg
  refine ⟨B, ⟨b1, b2⟩, h3, fun g hg => ?_⟩
  rw [ha.1 g hg, show (0 : Int32).toNatClampNeg = 0 by decide]
  have := b0 g
  unfold jv
  rw [show (0 : Int64).toInt = 0 by decide]; omega
theorem rac_up {n3 n k s s' gs ix : Int32} {grp : Nat → Int32} {cb rb : Nat → Int} {f f' : Nat → Int64} {d v old : Int64} (h : rac n3 n grp cb rb f k s) (hs : smk n rb) (eg : gs = grp s.toNatClampNeg) (g0 : 0 ≤ gs.toInt) (g3 : gs.toInt ≤ 3) (hix : ix.toInt = 4 * k.toInt + gs.toInt) (k0 : 0 ≤ k.toInt) (eo : old = f ix.toNatClampNeg) (ev : v = old + d) (hd : jv d (-(cb s.toNatClampNeg)) (cb s.toNatClampNeg)) (w : f' ix.toNatClampNeg = v) (o : ∀ j : Nat, ¬ j = ix.toNatClampNeg → f' j = f j) (e : s + Int32.ofInt 1 = s') (s0 : 0 ≤ s.toInt) (hs3 : s.toInt < n3.toInt) (h3 : n3.toInt ≤ 4) (hgn : gs.toInt < n.toInt) (hn : n.toInt ≤ 4) (hc20 : cb s.toNatClampNeg ≤ 20) : rac n3 n grp cb rb f' k s' := by
  obtain ⟨B, ⟨b1, b2⟩, -, hB⟩ := h
  obtain ⟨q1, q⟩ := mn_nx e (iv.m ⟨s0, by omega⟩)
  have e1 := nn_eq n; have e2 := nn_eq gs; have e3 := nn_eq ix; have e4 := nn_eq k; have e5 := nn_eq s; have e6 := nn_eq n3
  refine ⟨B, ⟨b1, b2⟩, by omega, fun g hg => ?_⟩
  rw [q]
  have c1 := b1 s.toNatClampNeg g (by omega)
  have c3 := b2 s.toNatClampNeg g (by omega)
  have c4 := (hs.1 g).2
  by_cases z : 4 * k.toNatClampNeg + g = ix.toNatClampNeg
  · have hgg : g = gs.toNatClampNeg := by omega
    have c2 := c1.2 (by rw [← eg]; exact hgg)
    have c5 := hB g hg
    rw [z, ← eo] at c5
    rw [z, w]
    have E := i64_addE ev c5 hd (by omega) (by omega)
    have x1 := c5.1; have x2 := c5.2; have x3 := hd.1; have x4 := hd.2
    unfold jv; rw [E]; omega
  · rw [o _ z]; exact (hB g hg).w (by omega) c1.1
theorem rac_end {n3 n k s bd' : Int32} {grp : Nat → Int32} {cb rb : Nat → Int} {f : Nat → Int64} (h : rac n3 n grp cb rb f k s) (hr : rwk rb n k f) (hb : bd'.toInt = k.toInt + 1) (k0 : 0 ≤ k.toInt) (s0 : 0 ≤ s.toInt) : rwk rb n bd' f := by
  obtain ⟨B, ⟨-, b2⟩, hs, hB⟩ := h
  have e1 := nn_eq bd'; have e2 := nn_eq k; have e3 := nn_eq s; have e4 := nn_eq n3
  intro j g hj hg
  by_cases z : j = k.toNatClampNeg
  · subst z
    have := b2 s.toNatClampNeg g (by omega)
    exact (hB g hg).w (by omega) this
  · exact hr j g (by omega) hg
theorem rwk_st {rb : Nat → Int} {n k gs ix : Int32} {f f' : Nat → Int64} {v : Int64} (h : rwk rb n k f) (hix : ix.toInt = 4 * k.toInt + gs.toInt) (k0 : 0 ≤ k.toInt) (g0 : 0 ≤ gs.toInt) (hn : n.toInt ≤ 4) (o : ∀ j : Nat, ¬ j = ix.toNatClampNeg → f' j = f j) : rwk rb n k f' := by
  have e1 := nn_eq n; have e2 := nn_eq gs; have e3 := nn_eq ix; have e4 := nn_eq k
  intro j g hj hg
  rw [o _ (by omega)]; exact h j g hj hg
/-- a row with 1 in one place -/
theorem rwk_one {rb : Nat → Int} {n k gs ix bd' : Int32} {f f1 f2 : Nat → Int64} (h : rwk rb n k f) (hs : smk n rb) (ha : adk n k f f1) (w : f2 ix.toNatClampNeg = 1) (o : ∀ j : Nat, ¬ j = ix.toNatClampNeg → f2 j = f1 j) (hix : ix.toInt = 4 * k.toInt + gs.toInt) (k0 : 0 ≤ k.toInt) (g0 : 0 ≤ gs.toInt) (hn : n.toInt ≤ 4) (hb : bd'.toInt = k.toInt + 1) : rwk rb n bd' f2 := by
  have e1 := nn_eq n; have e2 := nn_eq gs; have e3 := nn_eq ix; have e4 := nn_eq k; have e5 := nn_eq bd'
  intro j g hj hg
  have r1 := (hs.1 g).1
  by_cases z : 4 * j + g = ix.toNatClampNeg
  · rw [z, w]; unfold jv; rw [show (1 : Int64).toInt = 1 by decide]; omega
  · rw [o _ z]
    by_cases q : j = k.toNatClampNeg
    · rw [q, ha.1 g hg]; unfold jv; rw [show (0 : Int64).toInt = 0 by decide]; omega
    · rw [ha.2 _ (by omega)]; exact h j g (by omega) hg
