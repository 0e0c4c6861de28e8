/-! the reference's numbers: the greatest common part, determinants within bounds, sums of fractions -/
theorem i64_remE {x y r : Int64} (e : r = x - x / y * y) (hy : ¬ y = 0) : r.toInt = x.toInt.tmod y.toInt := by
  have h0 : y.toInt ≠ 0 := fun z => hy (Int64.toInt_inj.mp z)
  have h1 := i64_remI x.toInt y.toInt h0
  have b1 := y.toInt_lt
  have b2 := y.le_toInt
  have e1 : r.toInt = (x.toInt - x.toInt.tdiv y.toInt * y.toInt).bmod (2 ^ 64) := by
    rw [e, Int64.toInt_sub, Int64.toInt_mul, Int64.toInt_div, Int.sub_bmod_bmod]
    have q : ((x.toInt.tdiv y.toInt).bmod (2 ^ 64) * y.toInt).bmod (2 ^ 64) = (x.toInt.tdiv y.toInt * y.toInt).bmod (2 ^ 64) := Int.bmod_mul_bmod
    rw [← Int.sub_bmod_bmod, q, Int.sub_bmod_bmod]
  rw [e1, i64_bm (by omega) (by omega), Int.tmod_def, Int.mul_comm]
theorem gc_step {x y r : Int64} {G : Nat} (e : r = x - x / y * y) (hy : ¬ y = 0) (h : Nat.gcd x.toInt.natAbs y.toInt.natAbs = G) : Nat.gcd y.toInt.natAbs r.toInt.natAbs = G := by
  rw [i64_remE e hy, Int.natAbs_tmod, ← h, Nat.gcd_comm x.toInt.natAbs, Nat.gcd_rec y.toInt.natAbs x.toInt.natAbs, Nat.gcd_comm]
theorem gc_nn {x y r : Int64} (e : r = x - x / y * y) (hy : ¬ y = 0) (hx : 0 ≤ x.toInt) : 0 ≤ r.toInt := by
  rw [i64_remE e hy]; exact Int.tmod_nonneg _ hx
theorem gc_abs0 {x y : Int64} (e : y = -x) : y.toInt.natAbs = x.toInt.natAbs := by
  have b1 := x.toInt_lt
  have b2 := x.le_toInt
  rw [e, Int64.toInt_neg]
  by_cases h : x.toInt = -9223372036854775808
  · rw [h]; decide
  · rw [i64_bm (by omega) (by omega), Int.natAbs_neg]
theorem gc_neg0 {x y : Int64} (e : y = -x) (h : x < 0) : x.toInt = -9223372036854775808 ∨ 0 ≤ y.toInt := by
  have b1 := x.toInt_lt
  have b2 := x.le_toInt
  have h1 := i64_lt h rfl (show (0 : Int64).toInt = 0 by decide)
  by_cases hm : x.toInt = -9223372036854775808
  · exact Or.inl hm
  · right; rw [e, Int64.toInt_neg, i64_bm (by omega) (by omega)]; omega
theorem i64_ex {x y z : Int64} (e : x = y / z) (hz : 1 ≤ z.toInt) (hd : z.toInt ∣ y.toInt) : x.toInt * z.toInt = y.toInt := by
  obtain ⟨k, hk⟩ := hd
  have b1 := y.toInt_lt
  have b2 := y.le_toInt
  have e1 : y.toInt.tdiv z.toInt = k := by rw [hk]; exact Int.mul_tdiv_cancel_left _ (by omega)
  have hk1 : k.natAbs ≤ y.toInt.natAbs := by rw [hk, Int.natAbs_mul]; exact Nat.le_mul_of_pos_left _ (by omega)
  rw [e, Int64.toInt_div, e1]
  by_cases q : k = 9223372036854775808
  · exfalso
    have : y.toInt = z.toInt * k := hk
    rw [q] at this
    have h2 : 1 * 9223372036854775808 ≤ z.toInt * 9223372036854775808 := Int.mul_le_mul_of_nonneg_right hz (by decide)
    omega
  · rw [i64_bm (by omega) (by omega), hk, Int.mul_comm]
theorem i64_divnz {x y z : Int64} (e : x = y / z) (hy : 1 ≤ y.toInt) (hz : ¬ z = 0) (hd : z.toInt.natAbs ∣ y.toInt.natAbs) : ¬ x = 0 := by
  have h0 : z.toInt ≠ 0 := fun q => hz (Int64.toInt_inj.mp q)
  have b1 := y.toInt_lt
  intro hx
  have h1 : (y.toInt.tdiv z.toInt).bmod (2 ^ 64) = 0 := by rw [← Int64.toInt_div, ← e, hx]; decide
  have h2 : (y.toInt.tdiv z.toInt).natAbs = y.toInt.natAbs / z.toInt.natAbs := Int.natAbs_tdiv _ _
  have h3 : y.toInt.natAbs / z.toInt.natAbs ≤ y.toInt.natAbs := Nat.div_le_self _ _
  have h4 : 1 ≤ y.toInt.natAbs / z.toInt.natAbs := Nat.div_pos (Nat.le_of_dvd (by omega) hd) (by omega)
  rw [i64_bm (by omega) (by omega)] at h1
  omega
/-- exact sums and products of longs -/
theorem i64_addE {x y z : Int64} (e : x = y + z) {a b c d : Int} (hy : jv y a b) (hz : jv z c d) (h3 : -9223372036854775808 ≤ a + c) (h4 : b + d ≤ 9223372036854775807) : x.toInt = y.toInt + z.toInt := by
  have a1 := hy.1; have a2 := hy.2; have a3 := hz.1; have a4 := hz.2
  rw [e, Int64.toInt_add, i64_bm (by omega) (by omega)]
theorem i64_subE {x y z : Int64} (e : x = y - z) {a b c d : Int} (hy : jv y a b) (hz : jv z c d) (h3 : -9223372036854775808 ≤ a - d) (h4 : b - c ≤ 9223372036854775807) : x.toInt = y.toInt - z.toInt := by
  have a1 := hy.1; have a2 := hy.2; have a3 := hz.1; have a4 := hz.2
  rw [e, Int64.toInt_sub, i64_bm (by omega) (by omega)]
theorem abs_mul_le {a b A B : Int} (h1 : -A ≤ a) (h2 : a ≤ A) (h3 : -B ≤ b) (h4 : b ≤ B) : -(A * B) ≤ a * b ∧ a * b ≤ A * B := by
  have n1 : a.natAbs ≤ A.toNat := by omega
  have n2 : b.natAbs ≤ B.toNat := by omega
  have n3 : (a * b).natAbs ≤ A.toNat * B.toNat := by rw [Int.natAbs_mul]; exact Nat.mul_le_mul n1 n2
  have n4 : ((A.toNat * B.toNat : Nat) : Int) = A * B := by rw [Int.natCast_mul, Int.toNat_of_nonneg (by omega), Int.toNat_of_nonneg (by omega)]
  omega
theorem i64_mulE {x y z : Int64} (e : x = y * z) {A B : Int} (hy : jv y (-A) A) (hz : jv z (-B) B) (h : A * B ≤ 9223372036854775807) : x.toInt = y.toInt * z.toInt := by
  have h1 := abs_mul_le hy.1 hy.2 hz.1 hz.2
  rw [e, Int64.toInt_mul, i64_bm (by omega) (by omega)]

theorem i32_mulv {x y z : Int32} {p q b d : Int} (e : x = y * z) (hy : y.toInt = p) (hz : z.toInt = q) (h1 : 0 ≤ p) (h2 : p ≤ b) (h3 : 0 ≤ q) (h4 : q ≤ d) (h5 : b * d ≤ 2147483647) : 0 ≤ x.toInt ∧ x.toInt ≤ b * q ∧ x.toInt ≤ d * p ∧ x.toInt ≤ b * d := by
  have m0 : 0 ≤ p * q := Int.mul_nonneg h1 h3
  have m1 : p * q ≤ b * q := Int.mul_le_mul_of_nonneg_right h2 h3
  have m2 : p * q ≤ d * p := by rw [Int.mul_comm d p]; exact Int.mul_le_mul_of_nonneg_left h4 h1
  have m3 : b * q ≤ b * d := Int.mul_le_mul_of_nonneg_left h4 (by omega)
  have := i32_mul e hy hz (by omega) (by omega)
  rw [this]
  omega
theorem i32_divE {x y q : Int32} (e : q = x / y) (hx : 0 ≤ x.toInt) (hy : 1 ≤ y.toInt) : q.toInt = x.toInt / y.toInt := by
  have b1 := x.toInt_lt
  have h1 : x.toInt / y.toInt ≤ x.toInt := Int.ediv_le_self _ hx
  have h0 : 0 ≤ x.toInt / y.toInt := Int.ediv_nonneg hx (by omega)
  rw [e, Int32.toInt_div, Int.tdiv_eq_ediv_of_nonneg hx]
  exact i32_bm (by omega) (by omega)
theorem i32_divv {x y q : Int32} (e : q = x / y) (hx : 0 ≤ x.toInt) (hy : 1 ≤ y.toInt) : 0 ≤ q.toInt ∧ q.toInt ≤ x.toInt := by
  rw [i32_divE e hx hy]
  exact ⟨Int.ediv_nonneg hx (by omega), Int.ediv_le_self _ hx⟩
theorem i32_remv {x y r : Int32} (e : r = x - x / y * y) (hx : 0 ≤ x.toInt) (hy : 1 ≤ y.toInt) : 0 ≤ r.toInt ∧ r.toInt < y.toInt := by
  have b1 := x.toInt_lt
  have b2 := y.toInt_lt
  have q := i32_divE (q := x / y) rfl hx hy
  have h1 := Int.emod_nonneg x.toInt (show y.toInt ≠ 0 by omega)
  have h2 := Int.emod_lt_of_pos x.toInt (show 0 < y.toInt by omega)
  have h3 := Int.mul_ediv_add_emod x.toInt y.toInt
  have h4 : (x / y * y).toInt = x.toInt / y.toInt * y.toInt := by
    rw [Int32.toInt_mul, q]
    have h5 : x.toInt / y.toInt * y.toInt = y.toInt * (x.toInt / y.toInt) := Int.mul_comm _ _
    exact i32_bm (by omega) (by omega)
  have h5 : x.toInt / y.toInt * y.toInt = y.toInt * (x.toInt / y.toInt) := Int.mul_comm _ _
  have : r.toInt = x.toInt - x.toInt / y.toInt * y.toInt := by
    rw [e, Int32.toInt_sub, h4]; exact i32_bm (by omega) (by omega)
  omega
theorem lf_nil {lo hi : Int} (h1 : lo ≤ 0) (h2 : 0 ≤ hi) : ivf (lf []) lo hi := by
  intro k
  show iv ((([] : List Int32)).getD k 0) lo hi
  simp only [List.getD_nil]
  exact iv.m (by rw [show (0 : Int32).toInt = 0 by decide]; exact ⟨h1, h2⟩)
theorem lf_cons {x : Int32} {l : List Int32} {lo hi : Int} (h : iv x lo hi) (t : ivf (lf l) lo hi) : ivf (lf (x :: l)) lo hi := by
  intro k
  cases k with
  | zero => exact h
  | succ j => exact t j

/-! determinants by their least parts: how large they can be -/
def fa : Nat → Int
  | 0 => 1
  | n + 1 => ((n : Int) + 1) * fa n
def sb (c g : Nat) (b : Int) : Int := if c.testBit g = true then b else 1
def cpr (b : Nat → Int) (c : Nat) : Int := sb c 0 (b 0) * (sb c 1 (b 1) * (sb c 2 (b 2) * sb c 3 (b 3)))
def bt1 (c g : Nat) : Nat := if c.testBit g = true then 1 else 0
def ccn (c g : Nat) : Nat := (if 0 < g then bt1 c 0 else 0) + (if 1 < g then bt1 c 1 else 0) + (if 2 < g then bt1 c 2 else 0) + (if 3 < g then bt1 c 3 else 0)
theorem bt_and : ∀ (c : Fin 16) (g : Fin 4), ((Int32.ofNat c.val >>> (Int32.ofNat g.val &&& 31)) &&& 1) = Int32.ofNat (bt1 c.val g.val) := by decide +kernel
theorem bt_clr : ∀ (c : Fin 16) (g : Fin 4), c.val.testBit g.val = true → (Int32.ofNat c.val &&& ((1 <<< (Int32.ofNat g.val &&& 31)) ^^^ (-1))) = Int32.ofNat (c.val - 2 ^ g.val) := by decide +kernel
theorem bt_cnt : ∀ (c : Fin 16) (g : Fin 4) (n : Fin 5), c.val.testBit g.val = true → g.val < n.val → ccn c.val n.val = ccn (c.val - 2 ^ g.val) n.val + 1 := by decide +kernel
theorem bt_next : ∀ (c : Fin 16) (g : Fin 4), ccn c.val (g.val + 1) = ccn c.val g.val + bt1 c.val g.val := by decide +kernel
theorem bt_tb : ∀ (c : Fin 16) (g j : Fin 4), c.val.testBit g.val = true → (c.val - 2 ^ g.val).testBit j.val = (decide (j.val ≠ g.val) && c.val.testBit j.val) := by decide +kernel
theorem bt_le4 : ∀ (c : Fin 16) (g : Fin 5), ccn c.val g.val ≤ 4 := by decide +kernel
theorem bt_pr (b : Nat → Int) {c g : Nat} (hc : c < 16) (hg : g < 4) (ht : c.testBit g = true) : cpr b c = b g * cpr b (c - 2 ^ g) := by
  have t0 := bt_tb ⟨c, hc⟩ ⟨g, hg⟩ ⟨0, by decide⟩ ht
  have t1 := bt_tb ⟨c, hc⟩ ⟨g, hg⟩ ⟨1, by decide⟩ ht
  have t2 := bt_tb ⟨c, hc⟩ ⟨g, hg⟩ ⟨2, by decide⟩ ht
  have t3 := bt_tb ⟨c, hc⟩ ⟨g, hg⟩ ⟨3, by decide⟩ ht
  dsimp only at t0 t1 t2 t3
  unfold cpr sb
  rw [t0, t1, t2, t3]
  rcases (show g = 0 ∨ g = 1 ∨ g = 2 ∨ g = 3 by omega) with q | q | q | q <;> subst q <;> rw [if_pos ht] <;> simp only [ne_eq, Nat.reduceEqDiff, not_true_eq_false, not_false_eq_true, decide_false, decide_true, Bool.false_and, Bool.true_and, Bool.false_eq_true, if_false, Int.one_mul, Int.mul_one] <;> grind
theorem sb_1 {c g : Nat} {b : Int} (h : 1 ≤ b) : 1 ≤ sb c g b := by unfold sb; split <;> omega
theorem mul_1 {a b : Int} (ha : 1 ≤ a) (hb : 1 ≤ b) : 1 ≤ a * b := by
  have := Int.mul_le_mul ha hb (by decide) (by omega)
  omega
theorem cpr_1 {b : Nat → Int} (h : ∀ k, 1 ≤ b k) (c : Nat) : 1 ≤ cpr b c := mul_1 (sb_1 (h 0)) (mul_1 (sb_1 (h 1)) (mul_1 (sb_1 (h 2)) (sb_1 (h 3))))
theorem sb_le {c g : Nat} {b : Int} (h : 1 ≤ b) : sb c g b ≤ b := by unfold sb; split <;> omega
theorem cpr_le {b : Nat → Int} (h : ∀ k, 1 ≤ b k) (c : Nat) : cpr b c ≤ b 0 * (b 1 * (b 2 * b 3)) := by
  have a0 := sb_1 (c := c) (g := 0) (h 0); have a1 := sb_1 (c := c) (g := 1) (h 1); have a2 := sb_1 (c := c) (g := 2) (h 2); have a3 := sb_1 (c := c) (g := 3) (h 3)
  have h0 := h 0; have h1 := h 1; have h2 := h 2; have h3 := h 3
  have m2 := mul_1 h2 h3
  have m1 := mul_1 h1 m2
  have n2 := mul_1 a2 a3
  have n1 := mul_1 a1 n2
  exact Int.mul_le_mul (sb_le h0) (Int.mul_le_mul (sb_le h1) (Int.mul_le_mul (sb_le h2) (sb_le h3) (by omega) (by omega)) (by omega) (by omega)) (by omega) (by omega)
theorem fa_1 : ∀ n, n ≤ 4 → 1 ≤ fa n ∧ fa n ≤ 24 := by
  intro n h
  rcases (show n = 0 ∨ n = 1 ∨ n = 2 ∨ n = 3 ∨ n = 4 by omega) with q | q | q | q | q <;> subst q <;> decide
theorem fa_s {n : Nat} (h : 1 ≤ n) : fa n = (n : Int) * fa (n - 1) := by
  cases n with
  | zero => omega
  | succ k => show ((k : Int) + 1) * fa k = ((k + 1 : Nat) : Int) * fa (k + 1 - 1); rw [Nat.add_sub_cancel]; congr 1
theorem of_toInt {n : Nat} (h : n < 2147483648) : (Int32.ofNat n).toInt = (n : Int) := nI_toInt (by omega)
theorem i32_of {x : Int32} {hi : Nat} (h : iv x 0 hi) : x = Int32.ofNat x.toNatClampNeg ∧ x.toNatClampNeg ≤ hi := by
  have h1 := h.1
  have h2 := h.2
  have h3 := x.toInt_lt
  have e : x.toNatClampNeg = x.toInt.toNat := rfl
  refine ⟨Int32.toInt_inj.mp ?_, by omega⟩
  rw [e, of_toInt (by omega)]
  omega
/-- what a lesser determinant is over: row i on, columns c, entries within b by columns -/
def mnH (b : Nat → Int) (n : Int32) (i : Nat) (f : Nat → Int64) (c : Int32) : Prop := (∀ k, 1 ≤ b k) ∧ 24 * (b 0 * (b 1 * (b 2 * b 3))) ≤ 1000000000000 ∧ (∀ j k : Nat, j < n.toNatClampNeg → k < n.toNatClampNeg → jv (f (4 * j + k)) (-(b k)) (b k)) ∧ iv c 0 15 ∧ ccn c.toNatClampNeg n.toNatClampNeg = n.toNatClampNeg - i
def mnB (b : Nat → Int) (n : Int32) (i : Nat) (c : Int32) : Int := fa (n.toNatClampNeg - i) * cpr b c.toNatClampNeg
def mnI (b : Nat → Int) (n : Int32) (i : Nat) (c g : Int32) (sum : Int64) : Prop := g.toInt ≤ n.toInt ∧ jv sum (-((ccn c.toNatClampNeg g.toNatClampNeg : Int) * (fa (n.toNatClampNeg - i - 1) * cpr b c.toNatClampNeg))) ((ccn c.toNatClampNeg g.toNatClampNeg : Int) * (fa (n.toNatClampNeg - i - 1) * cpr b c.toNatClampNeg))
theorem mnB_rng {b : Nat → Int} {n : Int32} {i : Nat} {f : Nat → Int64} {c : Int32} (h : mnH b n i f c) (hn : iv n 0 4) {k : Nat} (hk : k ≤ 4) : 1 ≤ fa k * cpr b c.toNatClampNeg ∧ fa k * cpr b c.toNatClampNeg ≤ 1000000000000 := by
  have h1 := fa_1 k hk
  have h2 := cpr_1 h.1 c.toNatClampNeg
  have h3 := cpr_le h.1 c.toNatClampNeg
  have h4 := h.2.1
  have h5 : fa k * cpr b c.toNatClampNeg ≤ 24 * (b 0 * (b 1 * (b 2 * b 3))) := Int.mul_le_mul h1.2 h3 (by omega) (by decide)
  exact ⟨mul_1 h1.1 h2, by omega⟩
theorem mnI_0 {b : Nat → Int} {n : Int32} {i : Nat} {c : Int32} (hn : 0 ≤ n.toInt) : mnI b n i c 0 0 := by
  refine ⟨by rw [show (0 : Int32).toInt = 0 by decide]; exact hn, ?_⟩
  rw [show (0 : Int32).toNatClampNeg = 0 by decide, show ccn c.toNatClampNeg 0 = 0 from rfl]
  unfold jv
  rw [show (0 : Int64).toInt = 0 by decide]
  simp
theorem mn_nx {g g' : Int32} (e : g + Int32.ofInt 1 = g') (hg : iv g 0 3) : g'.toInt = g.toInt + 1 ∧ g'.toNatClampNeg = g.toNatClampNeg + 1 := by
  have h1 := hg.1
  have h2 := hg.2
  have h := i32_inc e rfl (by decide) (by omega) (by omega)
  have e1 : g'.toNatClampNeg = g'.toInt.toNat := rfl
  have e2 : g.toNatClampNeg = g.toInt.toNat := rfl
  exact ⟨h, by omega⟩
theorem mn_bit {c g x y : Int32} (e1 : x = c >>> (g &&& 31)) (e2 : y = x &&& 1) (hc : iv c 0 15) (hg : iv g 0 3) : y = Int32.ofNat (bt1 c.toNatClampNeg g.toNatClampNeg) ∧ ccn c.toNatClampNeg (g.toNatClampNeg + 1) = ccn c.toNatClampNeg g.toNatClampNeg + bt1 c.toNatClampNeg g.toNatClampNeg := by
  obtain ⟨c1, c2⟩ := i32_of (hi := 15) hc
  obtain ⟨g1, g2⟩ := i32_of (hi := 3) hg
  refine ⟨?_, bt_next ⟨c.toNatClampNeg, by omega⟩ ⟨g.toNatClampNeg, by omega⟩⟩
  rw [e2, e1]
  have := bt_and ⟨c.toNatClampNeg, by omega⟩ ⟨g.toNatClampNeg, by omega⟩
  dsimp only at this
  rw [← c1, ← g1] at this
  exact this
theorem mn_b01 (c g : Nat) : bt1 c g = 0 ∨ (bt1 c g = 1 ∧ c.testBit g = true) := by
  unfold bt1; split
  · exact Or.inr ⟨rfl, by assumption⟩
  · exact Or.inl rfl
theorem mnI_skip {b : Nat → Int} {n : Int32} {i : Nat} {f : Nat → Int64} {c g g' x y : Int32} {sum : Int64} (h : mnI b n i c g sum) (hH : mnH b n i f c) (e1 : x = c >>> (g &&& 31)) (e2 : y = x &&& 1) (e3 : y = 0) (e4 : g + Int32.ofInt 1 = g') (hlt : g.toInt < n.toInt) (hg : 0 ≤ g.toInt) (hn : n.toInt ≤ 4) : mnI b n i c g' sum := by
  have hg3 : iv g 0 3 := iv.m (by omega)
  obtain ⟨q1, q2⟩ := mn_nx e4 hg3
  obtain ⟨r1, r2⟩ := mn_bit e1 e2 hH.2.2.2.1 hg3
  have hz : bt1 c.toNatClampNeg g.toNatClampNeg = 0 := by
    rcases mn_b01 c.toNatClampNeg g.toNatClampNeg with z | z
    · exact z
    · rw [z.1, e3] at r1; exact absurd r1 (by decide)
  refine ⟨by omega, ?_⟩
  rw [q2, r2, hz, Nat.add_zero]
  exact h.2
theorem mnI_zero {b : Nat → Int} {n : Int32} {i : Nat} {f : Nat → Int64} {c g g' x y : Int32} {sum : Int64} (h : mnI b n i c g sum) (hH : mnH b n i f c) (e1 : x = c >>> (g &&& 31)) (e2 : y = x &&& 1) (e4 : g + Int32.ofInt 1 = g') (hlt : g.toInt < n.toInt) (hg : 0 ≤ g.toInt) (hn : n.toInt ≤ 4) : mnI b n i c g' sum := by
  have hg3 : iv g 0 3 := iv.m (by omega)
  obtain ⟨q1, q2⟩ := mn_nx e4 hg3
  obtain ⟨r1, r2⟩ := mn_bit e1 e2 hH.2.2.2.1 hg3
  have en : n.toNatClampNeg = n.toInt.toNat := rfl
  have hT := (mnB_rng hH (iv.m ⟨by omega, hn⟩) (k := n.toNatClampNeg - i - 1) (by omega)).1
  refine ⟨by omega, ?_⟩
  have h2 := h.2
  rw [q2, r2]
  generalize fa (n.toNatClampNeg - i - 1) * cpr b c.toNatClampNeg = T at h2 hT ⊢
  have e : ((ccn c.toNatClampNeg g.toNatClampNeg + bt1 c.toNatClampNeg g.toNatClampNeg : Nat) : Int) * T = (ccn c.toNatClampNeg g.toNatClampNeg : Int) * T + (bt1 c.toNatClampNeg g.toNatClampNeg : Int) * T := by rw [Int.natCast_add, Int.add_mul]
  rw [e]
  have p : 0 ≤ (bt1 c.toNatClampNeg g.toNatClampNeg : Int) * T := Int.mul_nonneg (by omega) (by omega)
  exact h2.w (by omega) (by omega)
theorem mnH_next {b : Nat → Int} {n : Int32} {i : Nat} {f : Nat → Int64} {c g x y z1 z2 z3 : Int32} (hH : mnH b n i f c) (e1 : x = c >>> (g &&& 31)) (e2 : y = x &&& 1) (e3 : ¬ y = 0) (e5 : z1 = 1 <<< (g &&& 31)) (e6 : z2 = z1 ^^^ (-1)) (e7 : z3 = c &&& z2) (hlt : g.toInt < n.toInt) (hg : 0 ≤ g.toInt) (hn : n.toInt ≤ 4) : mnH b n (i + 1) f z3 ∧ cpr b c.toNatClampNeg = b g.toNatClampNeg * cpr b z3.toNatClampNeg ∧ ccn c.toNatClampNeg (g.toNatClampNeg + 1) = ccn c.toNatClampNeg g.toNatClampNeg + 1 := by
  have hg3 : iv g 0 3 := iv.m (by omega)
  obtain ⟨r1, r2⟩ := mn_bit e1 e2 hH.2.2.2.1 hg3
  obtain ⟨c1, c2⟩ := i32_of (hi := 15) hH.2.2.2.1
  obtain ⟨g1, g2⟩ := i32_of (hi := 3) hg3
  have en : n.toNatClampNeg = n.toInt.toNat := rfl
  have eg : g.toNatClampNeg = g.toInt.toNat := rfl
  rcases mn_b01 c.toNatClampNeg g.toNatClampNeg with z | ⟨zz, z⟩
  · rw [z] at r1; exact absurd r1 e3
  have k1 := bt_clr ⟨c.toNatClampNeg, by omega⟩ ⟨g.toNatClampNeg, by omega⟩ z
  have k2 := bt_cnt ⟨c.toNatClampNeg, by omega⟩ ⟨g.toNatClampNeg, by omega⟩ ⟨n.toNatClampNeg, by omega⟩ z (by show g.toNatClampNeg < n.toNatClampNeg; omega)
  dsimp only at k1 k2
  rw [← c1, ← g1, ← e5, ← e6, ← e7] at k1
  have hsub := Nat.sub_le c.toNatClampNeg (2 ^ g.toNatClampNeg)
  have k3 : z3.toNatClampNeg = c.toNatClampNeg - 2 ^ g.toNatClampNeg := by
    rw [k1]
    show (Int32.ofNat (c.toNatClampNeg - 2 ^ g.toNatClampNeg)).toInt.toNat = _
    rw [of_toInt (by omega)]; omega
  refine ⟨⟨hH.1, hH.2.1, hH.2.2.1, ?_, ?_⟩, ?_, by rw [r2, zz]⟩
  · refine iv.m ?_
    rw [k1, of_toInt (by omega)]; omega
  · rw [k3]; have := hH.2.2.2.2; omega
  · rw [k3]; exact bt_pr b (by omega) (by omega) z
theorem mn_sign {s : Int32} (h : iv s (-1) 1) : jv s.toInt64 (-1) 1 := jv.i h
theorem mnI_add {b : Nat → Int} {n : Int32} {i : Nat} {f : Nat → Int64} {c g g' x y z1 z2 z3 s ix : Int32} {sum a y1 y2 y3 r : Int64} (h : mnI b n i c g sum) (hH : mnH b n i f c) (e1 : x = c >>> (g &&& 31)) (e2 : y = x &&& 1) (e3 : ¬ y = 0) (e5 : z1 = 1 <<< (g &&& 31)) (e6 : z2 = z1 ^^^ (-1)) (e7 : z3 = c &&& z2) (e4 : g + Int32.ofInt 1 = g') (hi : (i : Int) < n.toInt) (hlt : g.toInt < n.toInt) (hg : 0 ≤ g.toInt) (hn : n.toInt ≤ 4)
    (q3 : y3 = sum + y2) (q2 : y2 = y1 * r) (q1 : y1 = s.toInt64 * a) (hr : jv r (-(mnB b n (i + 1) z3)) (mnB b n (i + 1) z3)) (ea : a = f ix.toNatClampNeg) (hix : ix.toInt = 4 * (i : Int) + g.toInt) (hs : iv s (-1) 1) : mnI b n i c g' y3 := by
  obtain ⟨n1, n2⟩ := mn_nx e4 (iv.m (by omega))
  obtain ⟨k0, k1, k2⟩ := mnH_next hH e1 e2 e3 e5 e6 e7 hlt hg hn
  have en : n.toNatClampNeg = n.toInt.toNat := rfl
  have eg : g.toNatClampNeg = g.toInt.toNat := rfl
  have ei : ix.toNatClampNeg = ix.toInt.toNat := rfl
  have ex : ix.toNatClampNeg = 4 * i + g.toNatClampNeg := by omega
  have ha := hH.2.2.1 i g.toNatClampNeg (by omega) (by omega)
  rw [← ex, ← ea] at ha
  have hcc := bt_le4 ⟨c.toNatClampNeg, by have := (i32_of (hi := 15) hH.2.2.2.1).2; omega⟩ ⟨g.toNatClampNeg, by omega⟩
  dsimp only at hcc
  have hT := mnB_rng hH (iv.m ⟨by omega, hn⟩) (k := n.toNatClampNeg - i - 1) (by omega)
  have hT2 := mnB_rng k0 (iv.m ⟨by omega, hn⟩) (k := n.toNatClampNeg - i - 1) (by omega)
  have hb1 := hH.1 g.toNatClampNeg
  unfold mnB at hr
  rw [show n.toNatClampNeg - (i + 1) = n.toNatClampNeg - i - 1 by omega] at hr
  have h2 := h.2
  have eT : fa (n.toNatClampNeg - i - 1) * cpr b c.toNatClampNeg = b g.toNatClampNeg * (fa (n.toNatClampNeg - i - 1) * cpr b z3.toNatClampNeg) := by rw [k1]; grind
  refine ⟨by omega, ?_⟩
  rw [n2, k2]
  generalize fa (n.toNatClampNeg - i - 1) * cpr b z3.toNatClampNeg = U at eT hr hT2
  generalize fa (n.toNatClampNeg - i - 1) * cpr b c.toNatClampNeg = T at eT h2 hT ⊢
  generalize b g.toNatClampNeg = bg at ha hb1 eT
  have hbg : bg * 1 ≤ bg * U := Int.mul_le_mul_of_nonneg_left hT2.1 (by omega)
  have m1 := abs_mul_le (jv.i hs).1 (jv.i hs).2 ha.1 ha.2
  have v1 : jv y1 (-bg) bg := by
    have := i64_mulE q1 (A := 1) (B := bg) (jv.i hs) ha (by omega)
    unfold jv; rw [this]; omega
  have m2 := abs_mul_le v1.1 v1.2 hr.1 hr.2
  have v2 : jv y2 (-T) T := by
    have := i64_mulE q2 (A := bg) (B := U) v1 hr (by omega)
    unfold jv; rw [this, eT]; exact m2
  have hk : (ccn c.toNatClampNeg g.toNatClampNeg : Int) * T ≤ 4 * T := Int.mul_le_mul_of_nonneg_right (by omega) (by omega)
  have hk0 : 0 ≤ (ccn c.toNatClampNeg g.toNatClampNeg : Int) * T := Int.mul_nonneg (by omega) (by omega)
  have e : ((ccn c.toNatClampNeg g.toNatClampNeg + 1 : Nat) : Int) * T = (ccn c.toNatClampNeg g.toNatClampNeg : Int) * T + T := by rw [Int.natCast_add, Int.add_mul]; omega
  have v3 := i64_addE q3 h2 v2 (by omega) (by omega)
  have a1 := h2.1; have a2 := h2.2; have a3 := v2.1; have a4 := v2.2
  unfold jv
  rw [v3, e]
  omega
theorem mnI_end {b : Nat → Int} {n : Int32} {i : Nat} {f : Nat → Int64} {c g : Int32} {sum : Int64} (h : mnI b n i c g sum) (hH : mnH b n i f c) (hge : n.toInt ≤ g.toInt) (hi : (i : Int) < n.toInt) : jv sum (-(mnB b n i c)) (mnB b n i c) := by
  have en : n.toNatClampNeg = n.toInt.toNat := rfl
  have eg : g.toNatClampNeg = g.toInt.toNat := rfl
  have h1 := h.1
  have e : g.toNatClampNeg = n.toNatClampNeg := by omega
  have h2 := h.2
  have h3 := hH.2.2.2.2
  rw [e, h3] at h2
  unfold mnB
  rw [fa_s (n := n.toNatClampNeg - i) (by omega), Int.mul_assoc]
  exact h2
theorem mnI_one {b : Nat → Int} {n : Int32} {i : Nat} {f : Nat → Int64} {c : Int32} (hH : mnH b n i f c) (hn : iv n 0 4) : jv 1 (-(mnB b n i c)) (mnB b n i c) := by
  have h2 := hn.2
  have en : n.toNatClampNeg = n.toInt.toNat := rfl
  have := (mnB_rng hH hn (k := n.toNatClampNeg - i) (by omega)).1
  unfold mnB jv
  rw [show (1 : Int64).toInt = 1 by decide]
  omega

/-! a wage by its least numbers; sums of wages in parts of 60 times the determinant -/
def wk (l wu wl : Int64) : Prop := jv wl 1 2400000 ∧ jv wu (-808000000) 808000000 ∧ ∃ q : Int, wl.toInt * q = 60 * l.toInt ∧ -48480000000 ≤ wu.toInt * q ∧ wu.toInt * q ≤ 48480000000
theorem gc_pos {b : Int64} {x y : Nat} (hb : b.toInt.natAbs = Nat.gcd x y) (hb0 : 0 ≤ b.toInt) (hy : 0 < y) : 1 ≤ b.toInt := by
  have := Nat.gcd_pos_of_pos_right x hy
  omega
theorem gc_dl {b a : Int64} {y : Nat} (hb : b.toInt.natAbs = Nat.gcd a.toInt.natAbs y) : b.toInt ∣ a.toInt := Int.natAbs_dvd_natAbs.mp (by rw [hb]; exact Nat.gcd_dvd_left _ _)
theorem gc_dr {b a : Int64} {x : Nat} (hb : b.toInt.natAbs = Nat.gcd x a.toInt.natAbs) : b.toInt ∣ a.toInt := Int.natAbs_dvd_natAbs.mp (by rw [hb]; exact Nat.gcd_dvd_right _ _)
theorem dv_le {a b c B : Int} (h : a * b = c) (hb : 1 ≤ b) (h1 : -B ≤ c) (h2 : c ≤ B) : -B ≤ a ∧ a ≤ B := by
  have e : a.natAbs * b.natAbs = c.natAbs := by rw [← Int.natAbs_mul, h]
  have : a.natAbs ≤ a.natAbs * b.natAbs := Nat.le_mul_of_pos_right _ (by omega)
  omega
theorem dv_1 {a b c : Int} (h : a * b = c) (hb : 1 ≤ b) (h1 : 1 ≤ c) : 1 ≤ a := by
  by_cases q : 1 ≤ a
  · exact q
  · exfalso
    have : a * b ≤ 0 * b := Int.mul_le_mul_of_nonneg_right (by omega) (by omega)
    omega
theorem rt_60 {r : Int} (h1 : 1 ≤ r) (h2 : r ≤ 5) : ∃ k : Int, r * k = 60 ∧ 12 ≤ k ∧ k ≤ 60 := by
  rcases (show r = 1 ∨ r = 2 ∨ r = 3 ∨ r = 4 ∨ r = 5 by omega) with q | q | q | q | q
  · exact ⟨60, by omega, by omega, by omega⟩
  · exact ⟨30, by omega, by omega, by omega⟩
  · exact ⟨20, by omega, by omega, by omega⟩
  · exact ⟨15, by omega, by omega, by omega⟩
  · exact ⟨12, by omega, by omega, by omega⟩
theorem wk_of {l w0 w1 b wu wl : Int64} {rt : Int32} (hl : jv l 1 480000) (h1 : 1 ≤ rt.toInt) (h5 : rt.toInt ≤ 5) (hw0 : jv w0 (-808000000) 808000000) (e1 : w1 = l * rt.toInt64) (hb : b.toInt.natAbs = Nat.gcd w0.toInt.natAbs w1.toInt.natAbs) (hb0 : 0 ≤ b.toInt) (e2 : wu = w0 / b) (e3 : wl = w1 / b) : wk l wu wl := by
  have a1 := hl.1; have a2 := hl.2
  have er : rt.toInt64.toInt = rt.toInt := Int32.toInt_toInt64 rt
  have e1' : w1.toInt = l.toInt * rt.toInt := by
    have := i64_mulE e1 (A := 480000) (B := 5) (hl.w (by decide) (by decide)) (jv.m (by rw [er]; omega)) (by decide)
    rw [this, er]
  have p1 : 1 ≤ w1.toInt := by rw [e1']; exact mul_1 a1 h1
  have p2 : w1.toInt ≤ 2400000 := by
    rw [e1']
    have := (abs_mul_le (a := l.toInt) (b := rt.toInt) (A := 480000) (B := 5) (by omega) (by omega) (by omega) (by omega)).2
    omega
  have hbp := gc_pos hb hb0 (by omega)
  have x1 := i64_ex e2 hbp (gc_dl hb)
  have x2 := i64_ex e3 hbp (gc_dr hb)
  obtain ⟨k, hk, k1, k2⟩ := rt_60 h1 h5
  have c1 := dv_1 x2 hbp p1
  have c2 := dv_le x2 hbp (B := 2400000) (by omega) p2
  have c3 := dv_le x1 hbp (B := 808000000) hw0.1 hw0.2
  refine ⟨jv.m ⟨c1, c2.2⟩, jv.m c3, b.toInt * k, ?_, ?_⟩
  · rw [← Int.mul_assoc, x2, e1', Int.mul_assoc, hk, Int.mul_comm]
  · rw [← Int.mul_assoc, x1]
    have := abs_mul_le (a := w0.toInt) (b := k) (A := 808000000) (B := 60) hw0.1 hw0.2 (by omega) (by omega)
    omega
/-- the cost so far, of s SIGNS, by its least numbers -/
def lkI (l : Int64) (s : Int) (up low : Int64) : Prop := 1 ≤ low.toInt ∧ (∃ q : Int, low.toInt * q = 60 * l.toInt) ∧ ∃ T : Int, 60 * l.toInt * up.toInt = low.toInt * T ∧ -(s * 969600000000) ≤ T ∧ T ≤ s * 969600000000
theorem lkI_0 {l : Int64} : lkI l 0 0 1 := by
  refine ⟨by decide, ⟨60 * l.toInt, ?_⟩, 0, ?_, by decide, by decide⟩
  · rw [show (1 : Int64).toInt = 1 by decide, Int.one_mul]
  · rw [show (0 : Int64).toInt = 0 by decide, Int.mul_zero, Int.mul_zero]
theorem lkI_low {l up low : Int64} {s : Int} (h : lkI l s up low) (hl : jv l 1 480000) : jv low 1 28800000 := by
  obtain ⟨h1, ⟨q, hq⟩, -⟩ := h
  have a1 := hl.1; have a2 := hl.2
  have hq1 : 1 ≤ q := dv_1 (a := q) (b := low.toInt) (c := 60 * l.toInt) (by rw [Int.mul_comm]; exact hq) h1 (by omega)
  have := dv_le hq hq1 (B := 60 * l.toInt) (by omega) (by omega)
  exact jv.m ⟨h1, by omega⟩
theorem lkI_up {l up low : Int64} {s : Int} (h : lkI l s up low) (hl : jv l 1 480000) (h0 : 0 ≤ s) : -(s * 969600000000) ≤ up.toInt ∧ up.toInt ≤ s * 969600000000 := by
  have hlow := lkI_low h hl
  obtain ⟨h1, ⟨q, hq⟩, T, hT, t1, t2⟩ := h
  have a1 := hl.1; have a2 := hl.2
  have hq1 : 1 ≤ q := dv_1 (a := q) (b := low.toInt) (c := 60 * l.toInt) (by rw [Int.mul_comm]; exact hq) h1 (by omega)
  have e : up.toInt * q = T := by
    have : low.toInt * (up.toInt * q) = low.toInt * T := by rw [← hT, ← hq]; grind
    exact Int.eq_of_mul_eq_mul_left (by omega) this
  exact dv_le e hq1 t1 t2
theorem lkI_step {l up low wu wl x1 x2 x3 up1 low1 b up2 low2 : Int64} {ch : Int32} {s s' : Int} (h : lkI l s up low) (h0 : 0 ≤ s) (h3 : s ≤ 3) (hl : jv l 1 480000) (hw : wk l wu wl) (c0 : 0 ≤ ch.toInt) (c20 : ch.toInt ≤ 20) (e1 : x1 = up * wl) (e2 : x2 = ch.toInt64 * wu) (e3 : x3 = x2 * low) (e4 : up1 = x1 + x3) (e5 : low1 = low * wl) (hb : b.toInt.natAbs = Nat.gcd up1.toInt.natAbs low1.toInt.natAbs) (hb0 : up1.toInt = -9223372036854775808 ∨ low1.toInt < 0 ∨ 0 ≤ b.toInt) (e6 : up2 = up1 / b) (e7 : low2 = low1 / b) (hs' : s' = s + 1) : lkI l s' up2 low2 := by
  have hlow := lkI_low h hl
  have hup := lkI_up h hl h0
  obtain ⟨h1, ⟨q0, hq0⟩, T, hT, t1, t2⟩ := h
  obtain ⟨hwl, hwu, q, hq, q1, q2⟩ := hw
  have a1 := hl.1; have a2 := hl.2
  have l1 := hlow.1; have l2 := hlow.2
  have w1 := hwl.1; have w2 := hwl.2
  have ec : ch.toInt64.toInt = ch.toInt := Int32.toInt_toInt64 ch
  have vup : jv up (-2908800000000) 2908800000000 := jv.m (by omega)
  have vwl : jv wl (-2400000) 2400000 := hwl.w (by decide) (by decide)
  have vlow : jv low (-28800000) 28800000 := hlow.w (by decide) (by decide)
  have vch : jv ch.toInt64 (-20) 20 := jv.m (by rw [ec]; omega)
  have E1 := i64_mulE e1 (A := 2908800000000) (B := 2400000) vup vwl (by decide)
  have B1 := abs_mul_le vup.1 vup.2 vwl.1 vwl.2
  have E2 := i64_mulE e2 (A := 20) (B := 808000000) vch hwu (by decide)
  have B2 := abs_mul_le vch.1 vch.2 hwu.1 hwu.2
  have v2 : jv x2 (-16160000000) 16160000000 := jv.m (by rw [E2]; omega)
  have E3 := i64_mulE e3 (A := 16160000000) (B := 28800000) v2 vlow (by decide)
  have B3 := abs_mul_le v2.1 v2.2 vlow.1 vlow.2
  have v1 : jv x1 (-6981120000000000000) 6981120000000000000 := jv.m (by rw [E1]; omega)
  have v3 : jv x3 (-465408000000000000) 465408000000000000 := jv.m (by rw [E3]; omega)
  have E4 := i64_addE e4 v1 v3 (by decide) (by decide)
  have E5 := i64_mulE e5 (A := 28800000) (B := 2400000) vlow vwl (by decide)
  have p5 : 1 ≤ low1.toInt := by rw [E5]; exact mul_1 h1 w1
  have n1 := v1.1; have n2 := v1.2; have n3 := v3.1; have n4 := v3.2
  have hb1 : 0 ≤ b.toInt := by
    rcases hb0 with z | z | z
    · omega
    · omega
    · exact z
  have hbp := gc_pos hb hb1 (by omega)
  have D1 := i64_ex e6 hbp (gc_dl hb)
  have D2 := i64_ex e7 hbp (gc_dr hb)
  have pl : 1 ≤ low2.toInt := dv_1 D2 hbp p5
  -- the new sum in whole parts
  have key : 60 * l.toInt * up1.toInt = low1.toInt * (T + ch.toInt * (wu.toInt * q)) := by
    rw [E4, E1, E3, E2, E5, ec]
    have k1 : 60 * l.toInt * (up.toInt * wl.toInt) = low.toInt * T * wl.toInt := by rw [← hT]; grind
    have k2 : 60 * l.toInt * (ch.toInt * wu.toInt * low.toInt) = low.toInt * wl.toInt * (ch.toInt * (wu.toInt * q)) := by rw [← hq]; grind
    rw [Int.mul_add, k1, k2]; grind
  have key2 : 60 * l.toInt * up2.toInt = low2.toInt * (T + ch.toInt * (wu.toInt * q)) := by
    have : 60 * l.toInt * up2.toInt * b.toInt = low2.toInt * (T + ch.toInt * (wu.toInt * q)) * b.toInt := by
      have z1 : 60 * l.toInt * up2.toInt * b.toInt = 60 * l.toInt * (up2.toInt * b.toInt) := by grind
      have z2 : low2.toInt * (T + ch.toInt * (wu.toInt * q)) * b.toInt = low2.toInt * b.toInt * (T + ch.toInt * (wu.toInt * q)) := by grind
      rw [z1, z2, D1, D2, key]
    exact Int.eq_of_mul_eq_mul_right (by omega) this
  have cop : Nat.gcd low2.toInt.natAbs up2.toInt.natAbs = 1 := by
    have g1 : up1.toInt.natAbs = up2.toInt.natAbs * b.toInt.natAbs := by rw [← D1, Int.natAbs_mul]
    have g2 : low1.toInt.natAbs = low2.toInt.natAbs * b.toInt.natAbs := by rw [← D2, Int.natAbs_mul]
    rw [g1, g2, Nat.gcd_mul_right] at hb
    have : 1 * b.toInt.natAbs = Nat.gcd up2.toInt.natAbs low2.toInt.natAbs * b.toInt.natAbs := by omega
    have := Nat.eq_of_mul_eq_mul_right (by omega) this
    rw [Nat.gcd_comm]; omega
  have dv : low2.toInt.natAbs ∣ (60 * l.toInt).natAbs := by
    have d0 : low2.toInt.natAbs ∣ (60 * l.toInt).natAbs * up2.toInt.natAbs := by
      rw [← Int.natAbs_mul, key2, Int.natAbs_mul]; exact Nat.dvd_mul_right _ _
    exact Nat.Coprime.dvd_of_dvd_mul_right cop d0
  obtain ⟨z, hz⟩ := Int.natAbs_dvd_natAbs.mp dv
  have B9 := abs_mul_le (a := ch.toInt) (b := wu.toInt * q) (A := 20) (B := 48480000000) (by omega) (by omega) q1 q2
  refine ⟨pl, ⟨z, hz.symm⟩, T + ch.toInt * (wu.toInt * q), key2, ?_, ?_⟩ <;> (subst hs'; omega)

/-! rows of the reference's bounds, and what a determinant over them can be at the most -/
def smk (n : Int32) (rb : Nat → Int) : Prop := (∀ g, 1 ≤ rb g ∧ rb g ≤ 40) ∧ (n.toInt ≤ 3 ∨ ∃ tt : Nat, ∀ g, rb g ≤ if g = tt then 20 else 10)
def rwk (rb : Nat → Int) (n bd : Int32) (f : Nat → Int64) : Prop := ∀ k g : Nat, k < bd.toNatClampNeg → g < n.toNatClampNeg → jv (f (4 * k + g)) (-(rb g)) (rb g)
def dbb (rb : Nat → Int) (c : Int32) (g : Nat) : Int := if (g : Int) = c.toInt then 1980 else rb g
def mtk (bb : Nat → Int) (n : Int32) (f : Nat → Int64) (i g : Int32) : Prop := ∀ j k : Nat, k < n.toNatClampNeg → (j < i.toNatClampNeg ∨ (j = i.toNatClampNeg ∧ k < g.toNatClampNeg)) → jv (f (4 * j + k)) (-(bb k)) (bb k)
theorem nn_eq (x : Int32) : x.toNatClampNeg = x.toInt.toNat := rfl
theorem mtk_0 {bb : Nat → Int} {n : Int32} {f : Nat → Int64} : mtk bb n f 0 0 := by
  intro j k _ h
  rw [show (0 : Int32).toNatClampNeg = 0 by decide] at h
  omega
theorem mtk_row {bb : Nat → Int} {n i g i' : Int32} {f : Nat → Int64} (h : mtk bb n f i g) (hg : n.toInt ≤ g.toInt) (e : i + Int32.ofInt 1 = i') (h0 : 0 ≤ i.toInt) (h3 : i.toInt ≤ 3) : mtk bb n f i' 0 := by
  obtain ⟨-, q⟩ := mn_nx e (iv.m ⟨h0, h3⟩)
  intro j k hk hj
  rw [q, show (0 : Int32).toNatClampNeg = 0 by decide] at hj
  have e1 := nn_eq n; have e2 := nn_eq g
  exact h j k hk (by omega)
theorem mtk_up {bb : Nat → Int} {n i g g' ix : Int32} {f f' : Nat → Int64} {v : Int64} (h : mtk bb n f i g) (w : f' ix.toNatClampNeg = v) (o : ∀ j : Nat, ¬ j = ix.toNatClampNeg → f' j = f j) (hix : ix.toInt = 4 * i.toInt + g.toInt) (hv : jv v (-(bb g.toNatClampNeg)) (bb g.toNatClampNeg)) (e : g + Int32.ofInt 1 = g') (h0 : 0 ≤ i.toInt) (g0 : 0 ≤ g.toInt) (g3 : g.toInt ≤ 3) (hn : n.toInt ≤ 4) : mtk bb n f' i g' := by
  obtain ⟨-, q⟩ := mn_nx e (iv.m ⟨g0, g3⟩)
  have e1 := nn_eq n; have e2 := nn_eq g; have e3 := nn_eq i; have e4 := nn_eq ix
  intro j k hk hj
  rw [q] at hj
  by_cases z : 4 * j + k = ix.toNatClampNeg
  · have : k = g.toNatClampNeg := by omega
    rw [z, w, this]; exact hv
  · rw [o _ z]; exact h j k hk (by omega)
theorem mtk_upL {rb : Nat → Int} {n i g g' ix c : Int32} {f f' : Nat → Int64} {v : Int64} (h : mtk (dbb rb c) n f i g) (w : f' ix.toNatClampNeg = v) (o : ∀ j : Nat, ¬ j = ix.toNatClampNeg → f' j = f j) (hix : ix.toInt = 4 * i.toInt + g.toInt) (hc : g.toInt = c.toInt) (hv : jv v (-1980) 1980) (e : g + Int32.ofInt 1 = g') (h0 : 0 ≤ i.toInt) (g0 : 0 ≤ g.toInt) (g3 : g.toInt ≤ 3) (hn : n.toInt ≤ 4) : mtk (dbb rb c) n f' i g' := by
  refine mtk_up h w o hix ?_ e h0 g0 g3 hn
  have e2 := nn_eq g
  unfold dbb
  rw [if_pos (by omega)]; exact hv
theorem mtk_upR {rb : Nat → Int} {n i g g' ix ix2 ch c bd : Int32} {fc : Nat → Int32} {f f' fr : Nat → Int64} {v : Int64} (h : mtk (dbb rb c) n f i g) (w : f' ix.toNatClampNeg = v) (o : ∀ j : Nat, ¬ j = ix.toNatClampNeg → f' j = f j) (hix : ix.toInt = 4 * i.toInt + g.toInt) (hc : g.toInt ≠ c.toInt) (hr : rwk rb n bd fr) (hcs : ∀ j : Nat, j < n.toNatClampNeg → (fc j).toInt < bd.toInt) (ec : ch = fc i.toNatClampNeg) (c0 : 0 ≤ ch.toInt) (hix2 : ix2.toInt = 4 * ch.toInt + g.toInt) (ev : v = fr ix2.toNatClampNeg) (e : g + Int32.ofInt 1 = g') (h0 : 0 ≤ i.toInt) (hi : i.toInt < n.toInt) (g0 : 0 ≤ g.toInt) (hg : g.toInt < n.toInt) (hn : n.toInt ≤ 4) : mtk (dbb rb c) n f' i g' := by
  refine mtk_up h w o hix ?_ e h0 g0 (by omega) hn
  have e1 := nn_eq n; have e2 := nn_eq g; have e3 := nn_eq i; have e4 := nn_eq ix2; have e5 := nn_eq ch; have e6 := nn_eq bd
  have q1 := hcs i.toNatClampNeg (by omega)
  rw [← ec] at q1
  have q2 := hr ch.toNatClampNeg g.toNatClampNeg (by omega) (by omega)
  rw [show 4 * ch.toNatClampNeg + g.toNatClampNeg = ix2.toNatClampNeg by omega, ← ev] at q2
  unfold dbb
  rw [if_neg (by omega)]; exact q2
theorem cols_all : ∀ n : Fin 5, ((1 : Int32) <<< (Int32.ofNat n.val &&& 31)) - 1 = Int32.ofNat (2 ^ n.val - 1) ∧ ccn (2 ^ n.val - 1) n.val = n.val ∧ 2 ^ n.val - 1 ≤ 15 := by decide +kernel
theorem cols_of {n x y : Int32} (hn : iv n 0 4) (e1 : x = 1 <<< (n &&& 31)) (e2 : y = x - 1) : y.toNatClampNeg = 2 ^ n.toNatClampNeg - 1 ∧ iv y 0 15 ∧ ccn y.toNatClampNeg n.toNatClampNeg = n.toNatClampNeg := by
  obtain ⟨n1, n2⟩ := i32_of (hi := 4) hn
  have q := cols_all ⟨n.toNatClampNeg, by omega⟩
  dsimp only at q
  rw [← n1, ← e1, ← e2] at q
  obtain ⟨q1, q2, q3⟩ := q
  have e : y.toNatClampNeg = 2 ^ n.toNatClampNeg - 1 := by
    rw [q1]
    show (Int32.ofNat (2 ^ n.toNatClampNeg - 1)).toInt.toNat = _
    rw [of_toInt (by omega)]; omega
  refine ⟨e, ?_, by rw [e]; exact q2⟩
  refine iv.m ?_
  rw [q1, of_toInt (by omega)]; omega
theorem pr4 {a b c d A B C D : Int} (a1 : 1 ≤ a) (b1 : 1 ≤ b) (c1 : 1 ≤ c) (d1 : 1 ≤ d) (hA : a ≤ A) (hB : b ≤ B) (hC : c ≤ C) (hD : d ≤ D) : a * (b * (c * d)) ≤ A * (B * (C * D)) := by
  have m2 := mul_1 (show 1 ≤ C by omega) (show 1 ≤ D by omega)
  have m1 := mul_1 (show 1 ≤ B by omega) m2
  have n2 := mul_1 c1 d1
  have n1 := mul_1 b1 n2
  exact Int.mul_le_mul hA (Int.mul_le_mul hB (Int.mul_le_mul hC hD (by omega) (by omega)) (by omega) (by omega)) (by omega) (by omega)
def bA (c t : Nat) (g : Nat) : Int := if g = c then 1980 else if g = t then 20 else 10
def bB (c : Nat) (g : Nat) : Int := if g = c then 1980 else 40
theorem bA_x : ∀ c t : Fin 5, 24 * (bA c.val t.val 0 * (bA c.val t.val 1 * (bA c.val t.val 2 * bA c.val t.val 3))) ≤ 95040000 := by decide +kernel
theorem bA_d : ∀ t : Fin 5, 24 * (bA 4 t.val 0 * (bA 4 t.val 1 * (bA 4 t.val 2 * bA 4 t.val 3))) ≤ 480000 := by decide +kernel
theorem bB_x : ∀ c : Fin 5, 6 * (bB c.val 0 * (bB c.val 1 * (bB c.val 2 * 1))) ≤ 95040000 := by decide +kernel
theorem bB_d : 6 * (bB 4 0 * (bB 4 1 * (bB 4 2 * 1))) ≤ 480000 := by decide +kernel
theorem bB_h : ∀ c : Fin 5, 24 * (bB c.val 0 * (bB c.val 1 * (bB c.val 2 * bB c.val 3))) ≤ 1000000000000 := by decide +kernel
theorem dbb_c {rb : Nat → Int} (c : Int32) : ∃ cN : Nat, cN < 5 ∧ (∀ g, g < 4 → dbb rb c g = if g = cN then 1980 else rb g) ∧ ((∀ g : Nat, g < 4 → ¬ (g : Int) = c.toInt) → cN = 4) := by
  by_cases h : 0 ≤ c.toInt ∧ c.toInt < 4
  · refine ⟨c.toInt.toNat, by omega, fun g hg => ?_, fun z => absurd (show ((c.toInt.toNat : Nat) : Int) = c.toInt by omega) (z c.toInt.toNat (by omega))⟩
    unfold dbb
    by_cases q : (g : Int) = c.toInt
    · rw [if_pos q, if_pos (by omega)]
    · rw [if_neg q, if_neg (by omega)]
  · refine ⟨4, by omega, fun g hg => ?_, fun _ => rfl⟩
    unfold dbb
    rw [if_neg (by omega), if_neg (by omega)]
theorem dbb_1 {n : Int32} {rb : Nat → Int} (hs : smk n rb) (c : Int32) (g : Nat) : 1 ≤ dbb rb c g := by
  unfold dbb; split
  · decide
  · exact (hs.1 g).1
theorem cpr_15 (b : Nat → Int) : cpr b 15 = b 0 * (b 1 * (b 2 * b 3)) := by simp [cpr, sb, Nat.testBit]
theorem cpr_le3 {b : Nat → Int} (h : ∀ k, 1 ≤ b k) {c : Nat} (hc : c < 8) : cpr b c ≤ b 0 * (b 1 * (b 2 * 1)) := by
  have q : c.testBit 3 = false := Nat.testBit_lt_two_pow (by omega)
  unfold cpr
  rw [show sb c 3 (b 3) = 1 by unfold sb; rw [q]; simp]
  exact pr4 (sb_1 (h 0)) (sb_1 (h 1)) (sb_1 (h 2)) (by decide) (sb_le (h 0)) (sb_le (h 1)) (sb_le (h 2)) (by decide)
theorem det_b {n c y : Int32} {rb : Nat → Int} (hn : iv n 0 4) (hs : smk n rb) (hy : y.toNatClampNeg = 2 ^ n.toNatClampNeg - 1) : mnB (dbb rb c) n 0 y ≤ 95040000 ∧ ((∀ g : Nat, g < 4 → ¬ (g : Int) = c.toInt) → mnB (dbb rb c) n 0 y ≤ 480000) := by
  obtain ⟨cN, c5, hc, hc4⟩ := dbb_c (rb := rb) c
  have d1 := dbb_1 hs c
  have n0 := hn.1; have n4 := hn.2
  have en := nn_eq n
  unfold mnB
  rw [hy, Nat.sub_zero]
  by_cases q : n.toInt ≤ 3
  · have hr : ∀ g, g < 4 → dbb rb c g ≤ bB cN g := by
      intro g hg; rw [hc g hg]; unfold bB
      have := (hs.1 g).2
      split <;> omega
    have k := cpr_le3 d1 (c := 2 ^ n.toNatClampNeg - 1) (by
      rcases (show n.toNatClampNeg = 0 ∨ n.toNatClampNeg = 1 ∨ n.toNatClampNeg = 2 ∨ n.toNatClampNeg = 3 by omega) with z | z | z | z <;> rw [z] <;> decide)
    have k2 := pr4 (d1 0) (d1 1) (d1 2) (show (1 : Int) ≤ 1 by decide) (hr 0 (by decide)) (hr 1 (by decide)) (hr 2 (by decide)) (show (1 : Int) ≤ 1 by decide)
    have f6 : 1 ≤ fa n.toNatClampNeg ∧ fa n.toNatClampNeg ≤ 6 := by
      rcases (show n.toNatClampNeg = 0 ∨ n.toNatClampNeg = 1 ∨ n.toNatClampNeg = 2 ∨ n.toNatClampNeg = 3 by omega) with z | z | z | z <;> rw [z] <;> decide
    have c1 := cpr_1 d1 (2 ^ n.toNatClampNeg - 1)
    have m : fa n.toNatClampNeg * cpr (dbb rb c) (2 ^ n.toNatClampNeg - 1) ≤ 6 * (bB cN 0 * (bB cN 1 * (bB cN 2 * 1))) := Int.mul_le_mul f6.2 (Int.le_trans k k2) (by omega) (by decide)
    refine ⟨Int.le_trans m (bB_x ⟨cN, c5⟩), fun z => ?_⟩
    have := hc4 z
    subst this
    exact Int.le_trans m bB_d
  · have e4 : n.toNatClampNeg = 4 := by omega
    obtain ⟨tt, ht⟩ := hs.2.resolve_left q
    have hr : ∀ g, g < 4 → dbb rb c g ≤ bA cN (if tt < 4 then tt else 4) g := by
      intro g hg; rw [hc g hg]; unfold bA
      have h1 := ht g
      split
      · omega
      · by_cases z : g = tt
        · rw [if_pos z] at h1; rw [if_pos (show tt < 4 by omega), if_pos z]; exact h1
        · rw [if_neg z] at h1; split <;> omega
    have t5 : (if tt < 4 then tt else 4) < 5 := by split <;> omega
    rw [e4, show (2 ^ 4 - 1 : Nat) = 15 by decide, cpr_15, show fa 4 = 24 by decide]
    have k2 := pr4 (d1 0) (d1 1) (d1 2) (d1 3) (hr 0 (by decide)) (hr 1 (by decide)) (hr 2 (by decide)) (hr 3 (by decide))
    refine ⟨?_, fun z => ?_⟩
    · have := bA_x ⟨cN, c5⟩ ⟨_, t5⟩
      dsimp only at this
      omega
    · have := hc4 z
      subst this
      have := bA_d ⟨_, t5⟩
      dsimp only at this
      omega
theorem det_H {n c x y i g : Int32} {rb : Nat → Int} {f : Nat → Int64} (hn : iv n 0 4) (hs : smk n rb) (hm : mtk (dbb rb c) n f i g) (hi : n.toInt ≤ i.toInt) (e1 : x = 1 <<< (n &&& 31)) (e2 : y = x - 1) : mnH (dbb rb c) n 0 f y := by
  obtain ⟨c1, c2, c3⟩ := cols_of hn e1 e2
  obtain ⟨cN, c5, hc, -⟩ := dbb_c (rb := rb) c
  have d1 := dbb_1 hs c
  have en := nn_eq n; have ei := nn_eq i
  have hr : ∀ g, g < 4 → dbb rb c g ≤ bB cN g := by
    intro g hg; rw [hc g hg]; unfold bB
    have := (hs.1 g).2
    split <;> omega
  have k2 := pr4 (d1 0) (d1 1) (d1 2) (d1 3) (hr 0 (by decide)) (hr 1 (by decide)) (hr 2 (by decide)) (hr 3 (by decide))
  have k3 := bB_h ⟨cN, c5⟩
  dsimp only at k3
  exact ⟨d1, by omega, fun j k hj hk => hm j k hk (by omega), c2, by rw [c3, Nat.sub_zero]⟩
theorem det_E {n c x y : Int32} {rb : Nat → Int} {r : Int64} (hn : iv n 0 4) (hs : smk n rb) (e1 : x = 1 <<< (n &&& 31)) (e2 : y = x - 1) (h : jv r (-(mnB (dbb rb c) n 0 y)) (mnB (dbb rb c) n 0 y)) : jv r (-95040000) 95040000 ∧ (c.toInt = -1 → jv r (-480000) 480000) := by
  obtain ⟨c1, -, -⟩ := cols_of hn e1 e2
  obtain ⟨b1, b2⟩ := det_b (c := c) hn hs c1
  refine ⟨h.w (by omega) b1, fun z => ?_⟩
  have := b2 (fun g _ => by omega)
  exact h.w (by omega) this
/-- groups of SIGNS: how large a row's numbers grow while the SIGNS are gone through -/
def grk (n3 n : Int32) (grp : Nat → Int32) (cb rb : Nat → Int) : Prop := (∃ B : Nat → Nat → Int, (∀ g, 0 ≤ B 0 g) ∧ (∀ s g : Nat, s < n3.toNatClampNeg → B s g ≤ B (s + 1) g ∧ (g = (grp s).toNatClampNeg → B s g + cb s ≤ B (s + 1) g)) ∧ (∀ s g : Nat, s ≤ n3.toNatClampNeg → B s g ≤ rb g)) ∧ smk n rb ∧ (∀ s : Nat, s < n3.toNatClampNeg → (grp s).toInt < n.toInt) ∧ (∀ s : Nat, 0 ≤ cb s ∧ cb s ≤ 20)
def chk (cb : Nat → Int) (f : Nat → Int32) : Prop := ∀ a s : Nat, a < 5 → s < 4 → iv (f (4 * a + s)) 0 (cb s)
def rac (n3 n : Int32) (grp : Nat → Int32) (cb rb : Nat → Int) (f : Nat → Int64) (k s : Int32) : Prop := ∃ B : Nat → Nat → Int, ((∀ s g : Nat, s < n3.toNatClampNeg → B s g ≤ B (s + 1) g ∧ (g = (grp s).toNatClampNeg → B s g + cb s ≤ B (s + 1) g)) ∧ (∀ s g : Nat, s ≤ n3.toNatClampNeg → B s g ≤ rb g)) ∧ s.toInt ≤ n3.toInt ∧ ∀ g : Nat, g < n.toNatClampNeg → jv (f (4 * k.toNatClampNeg + g)) (-(B s.toNatClampNeg g)) (B s.toNatClampNeg g)
theorem chk_at {cb : Nat → Int} {f : Nat → Int32} (h : chk cb f) {a s ix x : Int32} (ha : iv a 0 4) (hs : iv s 0 3) (hix : ix.toInt = 4 * a.toInt + s.toInt) (e : x = f ix.toNatClampNeg) : 0 ≤ x.toInt ∧ x.toInt ≤ cb s.toNatClampNeg := by
  have a0 := ha.1; have a4 := ha.2; have s0 := hs.1; have s3 := hs.2
  have e1 := nn_eq a; have e2 := nn_eq s; have e3 := nn_eq ix
  have := h a.toNatClampNeg s.toNatClampNeg (by omega) (by omega)
  rw [show 4 * a.toNatClampNeg + s.toNatClampNeg = ix.toNatClampNeg by omega, ← e] at this
  exact this
/-- a bound more: row k is 0, the others are as they were -/
def adk (n bd : Int32) (f f' : Nat → Int64) : Prop := (∀ g : Nat, g < n.toNatClampNeg → f' (4 * bd.toNatClampNeg + g) = 0) ∧ ∀ j : Nat, (j < 4 * bd.toNatClampNeg ∨ 4 * bd.toNatClampNeg + 4 ≤ j) → f' j = f j
def adI (n bd : Int32) (f f' : Nat → Int64) (g : Int32) : Prop := g.toInt ≤ n.toInt ∧ (∀ h : Nat, h < g.toNatClampNeg → f' (4 * bd.toNatClampNeg + h) = 0) ∧ ∀ j : Nat, (j < 4 * bd.toNatClampNeg ∨ 4 * bd.toNatClampNeg + 4 ≤ j) → f' j = f j
theorem adI_0 {n bd : Int32} {f : Nat → Int64} (h : 0 ≤ n.toInt) : adI n bd f f 0 := ⟨h, fun g z => by rw [show (0 : Int32).toNatClampNeg = 0 by decide] at z; omega, fun _ _ => rfl⟩
theorem adI_up {n bd g g' ix : Int32} {f f1 f2 : Nat → Int64} (h : adI n bd f f1 g) (w : f2 ix.toNatClampNeg = 0) (o : ∀ j : Nat, ¬ j = ix.toNatClampNeg → f2 j = f1 j) (hix : ix.toInt = 4 * bd.toInt + g.toInt) (b0 : 0 ≤ bd.toInt) (e : g + Int32.ofInt 1 = g') (g0 : 0 ≤ g.toInt) (hg : g.toInt < n.toInt) (hn : n.toInt ≤ 4) : adI n bd f f2 g' := by
  obtain ⟨q1, q⟩ := mn_nx e (iv.m ⟨g0, by omega⟩)
  have e1 := nn_eq g; have e2 := nn_eq bd; have e3 := nn_eq ix
  refine ⟨by omega, fun k hk => ?_, fun j hj => ?_⟩
  · rw [q] at hk
    by_cases z : 4 * bd.toNatClampNeg + k = ix.toNatClampNeg
    · rw [z]; exact w
    · rw [o _ z]; exact h.2.1 k (by omega)
  · rw [o j (by omega)]; exact h.2.2 j hj
theorem adI_end {n bd g : Int32} {f f' : Nat → Int64} (h : adI n bd f f' g) (hg : n.toInt ≤ g.toInt) : adk n bd f f' := by
  have e1 := nn_eq g; have e2 := nn_eq n
  exact ⟨fun k hk => h.2.1 k (by omega), h.2.2⟩
theorem rwk_0 {rb : Nat → Int} {n : Int32} {f : Nat → Int64} : rwk rb n 0 f := by
  intro k g hk; rw [show (0 : Int32).toNatClampNeg = 0 by decide] at hk; omega
/-- behind a new bound: the rows ahead of it, and itself at no SIGN yet -/
theorem rwk_keep {rb : Nat → Int} {n bd : Int32} {f f' : Nat → Int64} (h : rwk rb n bd f) (ha : adk n bd f f') (hn : n.toInt ≤ 4) : rwk rb n bd f' := by
  have e1 := nn_eq n
  intro k g hk hg
  rw [ha.2 _ (by omega)]; exact h k g hk hg
theorem rac_0 {n3 n bd : Int32} {grp : Nat → Int32} {cb rb : Nat → Int} {f f' : Nat → Int64} (hg : grk n3 n grp cb rb) (ha : adk n bd f f') (h3 : 0 ≤ n3.toInt) : rac n3 n grp cb rb f' bd 0 := by
  obtain ⟨⟨B, b0, b1, b2⟩, -⟩ := hg
  refine ⟨B, ⟨b1, b2⟩, h3, fun g hg => ?_⟩
  rw [ha.1 g hg, show (0 : Int32).toNatClampNeg = 0 by decide]
  have := b0 g
  unfold jv
  rw [show (0 : Int64).toInt = 0 by decide]; omega
theorem rac_up {n3 n k s s' gs ix : Int32} {grp : Nat → Int32} {cb rb : Nat → Int} {f f' : Nat → Int64} {d v old : Int64} (h : rac n3 n grp cb rb f k s) (hs : smk n rb) (eg : gs = grp s.toNatClampNeg) (g0 : 0 ≤ gs.toInt) (g3 : gs.toInt ≤ 3) (hix : ix.toInt = 4 * k.toInt + gs.toInt) (k0 : 0 ≤ k.toInt) (eo : old = f ix.toNatClampNeg) (ev : v = old + d) (hd : jv d (-(cb s.toNatClampNeg)) (cb s.toNatClampNeg)) (w : f' ix.toNatClampNeg = v) (o : ∀ j : Nat, ¬ j = ix.toNatClampNeg → f' j = f j) (e : s + Int32.ofInt 1 = s') (s0 : 0 ≤ s.toInt) (hs3 : s.toInt < n3.toInt) (h3 : n3.toInt ≤ 4) (hgn : gs.toInt < n.toInt) (hn : n.toInt ≤ 4) (hc20 : cb s.toNatClampNeg ≤ 20) : rac n3 n grp cb rb f' k s' := by
  obtain ⟨B, ⟨b1, b2⟩, -, hB⟩ := h
  obtain ⟨q1, q⟩ := mn_nx e (iv.m ⟨s0, by omega⟩)
  have e1 := nn_eq n; have e2 := nn_eq gs; have e3 := nn_eq ix; have e4 := nn_eq k; have e5 := nn_eq s; have e6 := nn_eq n3
  refine ⟨B, ⟨b1, b2⟩, by omega, fun g hg => ?_⟩
  rw [q]
  have c1 := b1 s.toNatClampNeg g (by omega)
  have c3 := b2 s.toNatClampNeg g (by omega)
  have c4 := (hs.1 g).2
  by_cases z : 4 * k.toNatClampNeg + g = ix.toNatClampNeg
  · have hgg : g = gs.toNatClampNeg := by omega
    have c2 := c1.2 (by rw [← eg]; exact hgg)
    have c5 := hB g hg
    rw [z, ← eo] at c5
    rw [z, w]
    have E := i64_addE ev c5 hd (by omega) (by omega)
    have x1 := c5.1; have x2 := c5.2; have x3 := hd.1; have x4 := hd.2
    unfold jv; rw [E]; omega
  · rw [o _ z]; exact (hB g hg).w (by omega) c1.1
theorem rac_end {n3 n k s bd' : Int32} {grp : Nat → Int32} {cb rb : Nat → Int} {f : Nat → Int64} (h : rac n3 n grp cb rb f k s) (hr : rwk rb n k f) (hb : bd'.toInt = k.toInt + 1) (k0 : 0 ≤ k.toInt) (s0 : 0 ≤ s.toInt) : rwk rb n bd' f := by
  obtain ⟨B, ⟨-, b2⟩, hs, hB⟩ := h
  have e1 := nn_eq bd'; have e2 := nn_eq k; have e3 := nn_eq s; have e4 := nn_eq n3
  intro j g hj hg
  by_cases z : j = k.toNatClampNeg
  · subst z
    have := b2 s.toNatClampNeg g (by omega)
    exact (hB g hg).w (by omega) this
  · exact hr j g (by omega) hg
theorem rwk_st {rb : Nat → Int} {n k gs ix : Int32} {f f' : Nat → Int64} {v : Int64} (h : rwk rb n k f) (hix : ix.toInt = 4 * k.toInt + gs.toInt) (k0 : 0 ≤ k.toInt) (g0 : 0 ≤ gs.toInt) (hn : n.toInt ≤ 4) (o : ∀ j : Nat, ¬ j = ix.toNatClampNeg → f' j = f j) : rwk rb n k f' := by
  have e1 := nn_eq n; have e2 := nn_eq gs; have e3 := nn_eq ix; have e4 := nn_eq k
  intro j g hj hg
  rw [o _ (by omega)]; exact h j g hj hg
/-- a row with 1 in one place -/
theorem rwk_one {rb : Nat → Int} {n k gs ix bd' : Int32} {f f1 f2 : Nat → Int64} (h : rwk rb n k f) (hs : smk n rb) (ha : adk n k f f1) (w : f2 ix.toNatClampNeg = 1) (o : ∀ j : Nat, ¬ j = ix.toNatClampNeg → f2 j = f1 j) (hix : ix.toInt = 4 * k.toInt + gs.toInt) (k0 : 0 ≤ k.toInt) (g0 : 0 ≤ gs.toInt) (hn : n.toInt ≤ 4) (hb : bd'.toInt = k.toInt + 1) : rwk rb n bd' f2 := by
  have e1 := nn_eq n; have e2 := nn_eq gs; have e3 := nn_eq ix; have e4 := nn_eq k; have e5 := nn_eq bd'
  intro j g hj hg
  have r1 := (hs.1 g).1
  by_cases z : 4 * j + g = ix.toNatClampNeg
  · rw [z, w]; unfold jv; rw [show (1 : Int64).toInt = 1 by decide]; omega
  · rw [o _ z]
    by_cases q : j = k.toNatClampNeg
    · rw [q, ha.1 g hg]; unfold jv; rw [show (0 : Int64).toInt = 0 by decide]; omega
    · rw [ha.2 _ (by omega)]; exact h j g (by omega) hg

/-! further rows for the reference's walk -/
theorem gc_end {x y : Int64} {G : Nat} (h : Nat.gcd x.toInt.natAbs y.toInt.natAbs = G) (hy : y = 0) : x.toInt.natAbs = G := by
  rw [hy, show (0 : Int64).toInt = 0 by decide] at h
  rw [← h]; simp
theorem gc_z {r a b : Int64} (h : r.toInt.natAbs = Nat.gcd a.toInt.natAbs b.toInt.natAbs) : b = 0 ∨ ¬ r = 0 := by
  by_cases z : b = 0
  · exact Or.inl z
  · right
    intro q
    have hb : b.toInt ≠ 0 := fun y => z (Int64.toInt_inj.mp y)
    rw [q, show (0 : Int64).toInt = 0 by decide] at h
    have := Nat.gcd_pos_of_pos_right a.toInt.natAbs (show 0 < b.toInt.natAbs by omega)
    simp at h
    omega
theorem sg_of {a b c : Int64} {lo hi lo' hi' : Int} (h : a.toInt = -9223372036854775808 ∨ b.toInt < 0 ∨ 0 ≤ c.toInt) (ha : jv a lo hi) (hb : jv b lo' hi') (h1 : -9223372036854775808 < lo) (h2 : 0 ≤ lo') : 0 ≤ c.toInt := by
  have a1 := ha.1; have b1 := hb.1
  omega
theorem sg_n {x y : Int64} (e : y = (-1) * x) (h : jv x (-480000) (-1)) : 1 ≤ y.toInt := by
  have := i64_mulE e (A := 1) (B := 480000) (jv.m (by decide)) (h.w (by decide) (by decide)) (by decide)
  rw [this, show (-1 : Int64).toInt = -1 by decide]
  have := h.2
  omega
theorem sg_p {x y : Int64} (e : y = 1 * x) (h : jv x 1 480000) : 1 ≤ y.toInt := by
  have := i64_mulE e (A := 1) (B := 480000) (jv.m (by decide)) (h.w (by decide) (by decide)) (by decide)
  rw [this, show (1 : Int64).toInt = 1 by decide]
  have := h.1
  omega
theorem jv_ne0 {x : Int64} {hi : Int} (h : jv x 0 hi) (hz : ¬ x = 0) : jv x 1 hi := by
  have h1 := h.1
  have : x.toInt ≠ 0 := fun y => hz (Int64.toInt_inj.mp y)
  exact jv.m ⟨by omega, h.2⟩
theorem wk_l {l wu wl : Int64} (h : wk l wu wl) : jv wl 1 2400000 := h.1
theorem wk_u {l wu wl : Int64} (h : wk l wu wl) : jv wu (-808000000) 808000000 := h.2.1
/-- the wages of the groups so far -/
def wgk (l : Int64) (fu fl : Nat → Int64) (g : Int32) : Prop := ∀ j : Nat, j < g.toNatClampNeg → wk l (fu j) (fl j)
theorem wgk_0 {l : Int64} {fu fl : Nat → Int64} : wgk l fu fl 0 := by
  intro j hj; rw [show (0 : Int32).toNatClampNeg = 0 by decide] at hj; omega
theorem wgk_up {l : Int64} {fu fl fu' fl' : Nat → Int64} {g g' : Int32} (h : wgk l fu fl g) (hw : wk l (fu' g.toNatClampNeg) (fl' g.toNatClampNeg)) (ho : ∀ j : Nat, ¬ j = g.toNatClampNeg → fu' j = fu j ∧ fl' j = fl j) (e : g + Int32.ofInt 1 = g') (g0 : 0 ≤ g.toInt) (g3 : g.toInt ≤ 3) : wgk l fu' fl' g' := by
  obtain ⟨-, q⟩ := mn_nx e (iv.m ⟨g0, g3⟩)
  intro j hj
  rw [q] at hj
  by_cases z : j = g.toNatClampNeg
  · rw [z]; exact hw
  · rw [(ho j z).1, (ho j z).2]; exact h j (by omega)
theorem wgk_at {l : Int64} {fu fl : Nat → Int64} {n gx gs s n3 : Int32} {grp : Nat → Int32} (h : wgk l fu fl gx) (hgx : n.toInt ≤ gx.toInt) (hgo : ∀ s : Nat, s < n3.toNatClampNeg → (grp s).toInt < n.toInt) (eg : gs = grp s.toNatClampNeg) (s0 : 0 ≤ s.toInt) (hs : s.toInt < n3.toInt) (g0 : 0 ≤ gs.toInt) : wk l (fu gs.toNatClampNeg) (fl gs.toNatClampNeg) := by
  have e1 := nn_eq n; have e2 := nn_eq gx; have e3 := nn_eq s; have e4 := nn_eq n3; have e5 := nn_eq gs
  have := hgo s.toNatClampNeg (by omega)
  rw [← eg] at this
  exact h _ (by omega)
theorem lkI_stepN {l up low wu wl x1 x2 x3 up1 low1 b up2 low2 : Int64} {ch s s' : Int32} (h : lkI l s.toInt up low) (e : s + Int32.ofInt 1 = s') (h0 : 0 ≤ s.toInt) (h3 : s.toInt ≤ 3) (hl : jv l 1 480000) (hw : wk l wu wl) (hc : iv ch 0 20) (e1 : x1 = up * wl) (e2 : x2 = ch.toInt64 * wu) (e3 : x3 = x2 * low) (e4 : up1 = x1 + x3) (e5 : low1 = low * wl) (hb : b.toInt.natAbs = Nat.gcd up1.toInt.natAbs low1.toInt.natAbs) (hb0 : up1.toInt = -9223372036854775808 ∨ low1.toInt < 0 ∨ 0 ≤ b.toInt) (e6 : up2 = up1 / b) (e7 : low2 = low1 / b) : lkI l s'.toInt up2 low2 :=
  lkI_step h h0 h3 hl hw hc.1 hc.2 e1 e2 e3 e4 e5 hb hb0 e6 e7 (mn_nx e (iv.m ⟨h0, h3⟩)).1
theorem ch20 {f : Nat → Int32} (h : ∀ j : Nat, j < 20 → iv (f j) 0 20) {a s ix x : Int32} (ha : iv a 0 4) (hs : iv s 0 3) (hix : ix.toInt = 4 * a.toInt + s.toInt) (e : x = f ix.toNatClampNeg) : iv x 0 20 := by
  have a0 := ha.1; have a4 := ha.2; have s0 := hs.1; have s3 := hs.2
  have e3 := nn_eq ix
  have := h ix.toNatClampNeg (by omega)
  rw [← e] at this
  exact this
theorem chk_20 {cb : Nat → Int} {f : Nat → Int32} (h : chk cb f) (hc : ∀ s : Nat, 0 ≤ cb s ∧ cb s ≤ 20) : ∀ j : Nat, j < 20 → iv (f j) 0 20 := by
  intro j hj
  have := h (j / 4) (j % 4) (by omega) (by omega)
  rw [show 4 * (j / 4) + j % 4 = j by omega] at this
  exact this.w (by decide) (hc _).2
/-- the chosen bounds: those ahead stay, the next one is one of them all -/
theorem ch_next {n : Nat} {f0 f1 f2 : Nat → Int32} {k bd m : Int32} (hm : m.toNatClampNeg = n) (h : ∀ j : Nat, j < n → (f0 j).toInt < bd.toInt) (hf : ∀ j : Nat, j < n → f1 j = f0 j) (w : f2 m.toNatClampNeg = k) (o : ∀ j : Nat, ¬ j = m.toNatClampNeg → f2 j = f1 j) (hk : k.toInt < bd.toInt) : ∀ j : Nat, j < n + 1 → (f2 j).toInt < bd.toInt := by
  intro j hj
  by_cases z : j = m.toNatClampNeg
  · rw [z, w]; exact hk
  · rw [o j z, hf j (by omega)]; exact h j (by omega)
theorem ch_back {n : Nat} {f0 f1 f2 f3 : Nat → Int32} {m : Int32} (hm : m.toNatClampNeg = n) (hf : ∀ j : Nat, j < n → f1 j = f0 j) (o : ∀ j : Nat, ¬ j = m.toNatClampNeg → f2 j = f1 j) (hr : ∀ j : Nat, j < n + 1 → f3 j = f2 j) : ∀ j : Nat, j < n → f3 j = f0 j := by
  intro j hj
  rw [hr j (by omega), o j (by omega), hf j hj]
theorem ch_all {n : Nat} {g bd : Int32} {f : Nat → Int32} (h : ∀ j : Nat, j < n → (f j).toInt < bd.toInt) (e : g.toInt = (n : Int)) : ∀ j : Nat, j < g.toNatClampNeg → (f j).toInt < bd.toInt := by
  have := nn_eq g
  intro j hj
  exact h j (by omega)
/-- each SIGN a group of its own -/
theorem al_up {f f' : Nat → Int32} {s s' : Int32} (h : ∀ j : Nat, j < s.toNatClampNeg → f j = Int32.ofNat j) (w : f' s.toNatClampNeg = s) (o : ∀ j : Nat, ¬ j = s.toNatClampNeg → f' j = f j) (e : s + Int32.ofInt 1 = s') (s0 : 0 ≤ s.toInt) (s3 : s.toInt ≤ 3) : ∀ j : Nat, j < s'.toNatClampNeg → f' j = Int32.ofNat j := by
  obtain ⟨-, q⟩ := mn_nx e (iv.m ⟨s0, s3⟩)
  intro j hj
  rw [q] at hj
  by_cases z : j = s.toNatClampNeg
  · rw [z, w]; exact (i32_of (hi := 3) (iv.m ⟨s0, s3⟩)).1
  · rw [o j z]; exact h j (by omega)
theorem al_end {f : Nat → Int32} {s n : Int32} (h : ∀ j : Nat, j < s.toNatClampNeg → f j = Int32.ofNat j) (hs : n.toInt ≤ s.toInt) : ∀ j : Nat, j < n.toNatClampNeg → f j = Int32.ofNat j := by
  have e1 := nn_eq s; have e2 := nn_eq n
  intro j hj
  exact h j (by omega)
def cbt (tt : Nat) (s : Nat) : Int := if s = tt then 20 else 10
theorem cbt_r (tt s : Nat) : 10 ≤ cbt tt s ∧ cbt tt s ≤ 20 := by unfold cbt; split <;> omega
theorem grk_alone {n3 : Int32} {grp : Nat → Int32} (h : ∀ j : Nat, j < n3.toNatClampNeg → grp j = Int32.ofNat j) (h0 : 0 ≤ n3.toInt) (h4 : n3.toInt ≤ 4) (tt : Nat) : grk n3 n3 grp (cbt tt) (cbt tt) := by
  have e1 := nn_eq n3
  have hg : ∀ j : Nat, j < n3.toNatClampNeg → (grp j).toInt = (j : Int) ∧ (grp j).toNatClampNeg = j := by
    intro j hj
    have q : (grp j).toInt = (j : Int) := by rw [h j hj, of_toInt (by omega)]
    have := nn_eq (grp j)
    exact ⟨q, by omega⟩
  refine ⟨⟨fun s g => if g < s then cbt tt g else 0, fun g => by simp, fun s g hs => ⟨?_, fun hgs => ?_⟩, fun s g hs => ?_⟩, ⟨fun g => ⟨by have := cbt_r tt g; omega, by have := cbt_r tt g; omega⟩, Or.inr ⟨tt, fun g => by unfold cbt; split <;> omega⟩⟩, fun s hs => ?_, fun s => ⟨by have := cbt_r tt s; omega, (cbt_r tt s).2⟩⟩
  · have := cbt_r tt g
    show (if g < s then cbt tt g else 0) ≤ (if g < s + 1 then cbt tt g else 0)
    by_cases z : g < s
    · rw [if_pos z, if_pos (show g < s + 1 by omega)]; omega
    · rw [if_neg z]; split <;> omega
  · rw [(hg s hs).2] at hgs
    subst hgs
    show (if g < g then cbt tt g else 0) + cbt tt g ≤ (if g < g + 1 then cbt tt g else 0)
    rw [if_neg (show ¬ g < g by omega), if_pos (show g < g + 1 by omega)]; omega
  · have := cbt_r tt g
    show (if g < s then cbt tt g else 0) ≤ cbt tt g
    split <;> omega
  · rw [(hg s hs).1]; omega
theorem chk_10 {f : Nat → Int32} (h : ivf f 0 10) (tt : Nat) : chk (cbt tt) f := fun a s _ _ => (h _).w (by decide) (cbt_r tt s).1
theorem chk_10c {f : Nat → Int32} (h : ivf f 0 10) : chk (fun _ => 10) f := fun a s _ _ => h _
theorem grk_merged {n3 n : Int32} {grp : Nat → Int32} (hn : n.toInt ≤ 3) (h3 : n3.toInt ≤ 4) (hgo : ∀ s : Nat, s < n3.toNatClampNeg → (grp s).toInt < n.toInt) : grk n3 n grp (fun _ => 10) (fun _ => 40) := by
  have e1 := nn_eq n3
  refine ⟨⟨fun s _ => 10 * (s : Int), fun g => by simp, fun s g hs => ⟨?_, fun _ => ?_⟩, fun s g hs => ?_⟩, ⟨fun g => ⟨(show (1 : Int) ≤ 40 by decide), (show (40 : Int) ≤ 40 by decide)⟩, Or.inl hn⟩, hgo, fun s => ⟨(show (0 : Int) ≤ 10 by decide), (show (10 : Int) ≤ 20 by decide)⟩⟩
  · show 10 * (s : Int) ≤ 10 * ((s + 1 : Nat) : Int); omega
  · show 10 * (s : Int) + 10 ≤ 10 * ((s + 1 : Nat) : Int); omega
  · show 10 * (s : Int) ≤ 40; omega
/-- groups while two SIGNS become one -/
theorem mg_up {f f' : Nat → Int32} {k k' n n' v : Int32} (h : ∀ j : Nat, j < k.toNatClampNeg → (f j).toInt < n.toInt) (w : f' k.toNatClampNeg = v) (o : ∀ j : Nat, ¬ j = k.toNatClampNeg → f' j = f j) (e : k + Int32.ofInt 1 = k') (k0 : 0 ≤ k.toInt) (k3 : k.toInt ≤ 3) (hv : v.toInt < n'.toInt) (hn : n.toInt ≤ n'.toInt) : ∀ j : Nat, j < k'.toNatClampNeg → (f' j).toInt < n'.toInt := by
  obtain ⟨-, q⟩ := mn_nx e (iv.m ⟨k0, k3⟩)
  intro j hj
  rw [q] at hj
  by_cases z : j = k.toNatClampNeg
  · rw [z, w]; exact hv
  · rw [o j z]; have := h j (by omega); omega
theorem mg_at {f : Nat → Int32} {k n i x : Int32} (h : ∀ j : Nat, j < k.toNatClampNeg → (f j).toInt < n.toInt) (e : x = f i.toNatClampNeg) (i0 : 0 ≤ i.toInt) (hi : i.toInt < k.toInt) : x.toInt < n.toInt := by
  have e1 := nn_eq k; have e2 := nn_eq i
  rw [e]; exact h _ (by omega)
theorem mg_end {f : Nat → Int32} {k n n3 : Int32} (h : ∀ j : Nat, j < k.toNatClampNeg → (f j).toInt < n.toInt) (hk : n3.toInt ≤ k.toInt) : ∀ j : Nat, j < n3.toNatClampNeg → (f j).toInt < n.toInt := by
  have e1 := nn_eq k; have e2 := nn_eq n3
  intro j hj; exact h j (by omega)
theorem mg_0 {f : Nat → Int32} {n : Int32} : ∀ j : Nat, j < (0 : Int32).toNatClampNeg → (f j).toInt < n.toInt := by
  intro j hj; rw [show (0 : Int32).toNatClampNeg = 0 by decide] at hj; omega
theorem i32_inj {x y : Int32} (h : x.toInt = y.toInt) : x = y := Int32.toInt_inj.mp h
theorem mb_k {n bd r : Int32} {f f' : Nat → Int64} (h : adk n bd f f') (e : r.toInt = bd.toInt) : adk n r f f' := by rw [i32_inj e]; exact h
theorem mb_w {rb : Nat → Int} {n bd r : Int32} {f : Nat → Int64} (h : rwk rb n bd f) (e : r.toInt = bd.toInt) : rwk rb n r f := by rw [i32_inj e]; exact h
theorem mb_gn {n3 n gs s : Int32} {grp : Nat → Int32} {cb rb : Nat → Int} (h : grk n3 n grp cb rb) (eg : gs = grp s.toNatClampNeg) (s0 : 0 ≤ s.toInt) (hs : s.toInt < n3.toInt) : gs.toInt < n.toInt := by
  have e1 := nn_eq s; have e2 := nn_eq n3
  rw [eg]; exact h.2.2.1 _ (by omega)
theorem al_0 {f : Nat → Int32} : ∀ j : Nat, j < (0 : Int32).toNatClampNeg → f j = Int32.ofNat j := by
  intro j hj; rw [show (0 : Int32).toNatClampNeg = 0 by decide] at hj; omega
/-- chances while one is moved -/
def egk (f0 f : Nat → Int32) (x y : Nat) (e : Int) : Prop := (f x).toInt = (f0 x).toInt - e ∧ (f y).toInt = (f0 y).toInt + e ∧ ∀ j : Nat, ¬ j = x → ¬ j = y → f j = f0 j
theorem egk_0 {f : Nat → Int32} {x y : Nat} : egk f f x y 0 := ⟨by omega, by omega, fun _ _ _ => rfl⟩
theorem nn_ne {x y : Int32} (x0 : 0 ≤ x.toInt) (y0 : 0 ≤ y.toInt) (h : x.toInt ≠ y.toInt) : ¬ x.toNatClampNeg = y.toNatClampNeg := by
  have e1 := nn_eq x; have e2 := nn_eq y
  omega
theorem egk_00 {f : Nat → Int32} {x y : Nat} {e : Int} (h : e = 0) : egk f f x y e := by subst h; exact egk_0
theorem egk_x {f0 f : Nat → Int32} {x m a : Int32} {y : Nat} {e : Int} (h : egk f0 f x.toNatClampNeg y e) (ea : a = f x.toNatClampNeg) (em : m = f0 x.toNatClampNeg) : a.toInt = m.toInt - e := by rw [ea, em]; exact h.1
theorem egk_y {f0 f : Nat → Int32} {y a : Int32} {x : Nat} {e : Int} (h : egk f0 f x y.toNatClampNeg e) (hf : ivf f0 0 10) (ea : a = f y.toNatClampNeg) : e ≤ a.toInt ∧ a.toInt ≤ 10 + e := by
  have h1 := (hf y.toNatClampNeg).1
  have h2 := (hf y.toNatClampNeg).2
  rw [ea, h.2.1]; omega
theorem egk_y1 {f0 f f1 : Nat → Int32} {x y a : Int32} {e : Int} (h : egk f0 f x.toNatClampNeg y.toNatClampNeg e) (hf : ivf f0 0 10) (ea : a = f1 y.toNatClampNeg) (o1 : ∀ j : Nat, ¬ j = x.toNatClampNeg → f1 j = f j) (hne : ¬ y.toNatClampNeg = x.toNatClampNeg) : e ≤ a.toInt ∧ a.toInt ≤ 10 + e := by
  rw [o1 _ hne] at ea
  exact egk_y h hf ea
theorem egk_up {f0 f f1 f2 : Nat → Int32} {x y v u a b : Int32} {e e' : Int} (h : egk f0 f x.toNatClampNeg y.toNatClampNeg e) (w2 : f2 y.toNatClampNeg = u) (o2 : ∀ j : Nat, ¬ j = y.toNatClampNeg → f2 j = f1 j) (w1 : f1 x.toNatClampNeg = v) (o1 : ∀ j : Nat, ¬ j = x.toNatClampNeg → f1 j = f j) (ea : a = f x.toNatClampNeg) (va : v.toInt = a.toInt - 1) (eb : b = f1 y.toNatClampNeg) (vb : u.toInt = b.toInt + 1) (hne : ¬ x.toNatClampNeg = y.toNatClampNeg) (he : e' = e + 1) : egk f0 f2 x.toNatClampNeg y.toNatClampNeg e' := by
  obtain ⟨h1, h2, h3⟩ := h
  refine ⟨?_, ?_, fun j hx hy => ?_⟩
  · rw [o2 _ hne, w1, va, ea, h1]; omega
  · have hny : ¬ y.toNatClampNeg = x.toNatClampNeg := fun z => hne z.symm
    rw [w2, vb, eb, o1 _ hny, h2]; omega
  · rw [o2 j hy, o1 j hx, h3 j hx hy]
theorem egk_chk {f0 f : Nat → Int32} {x y a t : Int32} {e : Int} (h : egk f0 f x.toNatClampNeg y.toNatClampNeg e) (hf : ivf f0 0 10) (hy : y.toInt = 4 * a.toInt + t.toInt) (a0 : 0 ≤ a.toInt) (t0 : 0 ≤ t.toInt) (t3 : t.toInt ≤ 3) (e0 : 0 ≤ e) {m : Int32} (em : m = f0 x.toNatClampNeg) (hm : e ≤ m.toInt) : chk (cbt t.toNatClampNeg) f := by
  have he : e ≤ (f0 x.toNatClampNeg).toInt := by rw [← em]; exact hm
  obtain ⟨h1, h2, h3⟩ := h
  have e1 := nn_eq y; have e2 := nn_eq a; have e3 := nn_eq t
  have fx := hf x.toNatClampNeg; have fy := hf y.toNatClampNeg
  have x1 := fx.1; have x2 := fx.2; have y1 := fy.1; have y2 := fy.2
  intro b s hb hs
  by_cases zy : 4 * b + s = y.toNatClampNeg
  · rw [zy]
    have : s = t.toNatClampNeg := by omega
    rw [this]; unfold cbt; rw [if_pos rfl]
    exact iv.m (by omega)
  · have c := (cbt_r t.toNatClampNeg s).1
    by_cases zx : 4 * b + s = x.toNatClampNeg
    · rw [zx]; exact iv.m (by omega)
    · rw [h3 _ zx zy]; exact (hf _).w (by decide) c
theorem egk_end {f0 f f1 f2 : Nat → Int32} {x y m a b v : Int32} {e : Int} (h : egk f0 f x.toNatClampNeg y.toNatClampNeg e) (hf : ivf f0 0 10) (w2 : f2 x.toNatClampNeg = m) (o2 : ∀ j : Nat, ¬ j = x.toNatClampNeg → f2 j = f1 j) (w1 : f1 y.toNatClampNeg = v) (o1 : ∀ j : Nat, ¬ j = y.toNatClampNeg → f1 j = f j) (em : m = f0 x.toNatClampNeg) (ea : a = f y.toNatClampNeg) (eb : b = f x.toNatClampNeg) (hv : v.toInt = a.toInt - (m.toInt - b.toInt)) : ivf f2 0 10 := by
  obtain ⟨h1, h2, h3⟩ := h
  have fx := hf x.toNatClampNeg; have fy := hf y.toNatClampNeg
  have x1 := fx.1; have x2 := fx.2; have y1 := fy.1; have y2 := fy.2
  intro j
  by_cases zx : j = x.toNatClampNeg
  · rw [zx, w2, em]; exact fx
  · rw [o2 j zx]
    by_cases zy : j = y.toNatClampNeg
    · rw [zy, w1]; rw [ea, eb, em, h1, h2] at hv; exact iv.m (by omega)
    · rw [o1 j zy, h3 j zx zy]; exact hf j

theorem rac_upN {n3 n k s s' gs ix : Int32} {grp : Nat → Int32} {cb rb : Nat → Int} {f f' : Nat → Int64} {d v old : Int64} (h : rac n3 n grp cb rb f k s) (hs : smk n rb) (w : f' ix.toNatClampNeg = v) (o : ∀ j : Nat, ¬ j = ix.toNatClampNeg → f' j = f j) (ev : v = old + d) (eo : old = f ix.toNatClampNeg) (eg : gs = grp s.toNatClampNeg) (e : s + Int32.ofInt 1 = s') (hd : jv d (-(cb s.toNatClampNeg)) (cb s.toNatClampNeg)) (g0 : 0 ≤ gs.toInt) (g3 : gs.toInt ≤ 3) (hix : ix.toInt = 4 * k.toInt + gs.toInt) (k0 : 0 ≤ k.toInt) (s0 : 0 ≤ s.toInt) (hs3 : s.toInt < n3.toInt) (h3 : n3.toInt ≤ 4) (hgn : gs.toInt < n.toInt) (hn : n.toInt ≤ 4) (hc20 : cb s.toNatClampNeg ≤ 20) : rac n3 n grp cb rb f' k s' :=
  rac_up h hs eg g0 g3 hix k0 eo ev hd w o e s0 hs3 h3 hgn hn hc20
theorem rwk_stN {rb : Nat → Int} {n k ix : Int32} {f f' : Nat → Int64} (h : rwk rb n k f) (o : ∀ j : Nat, ¬ j = ix.toNatClampNeg → f' j = f j) (hix : 4 * k.toInt ≤ ix.toInt) (k0 : 0 ≤ k.toInt) (hn : n.toInt ≤ 4) : rwk rb n k f' := by
  have e1 := nn_eq n; have e3 := nn_eq ix; have e4 := nn_eq k
  intro j g hj hg
  rw [o _ (by omega)]; exact h j g hj hg
theorem rwk_oneN {rb : Nat → Int} {n k ix bd' : Int32} {f f1 f2 : Nat → Int64} (h : rwk rb n k f) (hs : smk n rb) (ha : adk n k f f1) (w : f2 ix.toNatClampNeg = 1) (o : ∀ j : Nat, ¬ j = ix.toNatClampNeg → f2 j = f1 j) (k0 : 0 ≤ k.toInt) (hn : n.toInt ≤ 4) (hb : bd'.toInt = k.toInt + 1) : rwk rb n bd' f2 := by
  have e1 := nn_eq n; have e4 := nn_eq k; have e5 := nn_eq bd'
  intro j g hj hg
  have r1 := (hs.1 g).1
  by_cases z : 4 * j + g = ix.toNatClampNeg
  · rw [z, w]; unfold jv; rw [show (1 : Int64).toInt = 1 by decide]; omega
  · rw [o _ z]
    by_cases q : j = k.toNatClampNeg
    · rw [q, ha.1 g hg]; unfold jv; rw [show (0 : Int64).toInt = 0 by decide]; omega
    · rw [ha.2 _ (by omega)]; exact h j g (by omega) hg

theorem mtk_upRN {rb : Nat → Int} {n i g g' ix ix2 ch c bd : Int32} {fc : Nat → Int32} {f f' fr : Nat → Int64} {v : Int64} (h : mtk (dbb rb c) n f i g) (w : f' ix.toNatClampNeg = v) (o : ∀ j : Nat, ¬ j = ix.toNatClampNeg → f' j = f j) (ev : v = fr ix2.toNatClampNeg) (ec : ch = fc i.toNatClampNeg) (e : g + Int32.ofInt 1 = g') (hr : rwk rb n bd fr) (hcs : ∀ j : Nat, j < n.toNatClampNeg → (fc j).toInt < bd.toInt) (hix : ix.toInt = 4 * i.toInt + g.toInt) (hc : g.toInt ≠ c.toInt) (c0 : 0 ≤ ch.toInt) (hix2 : ix2.toInt = 4 * ch.toInt + g.toInt) (h0 : 0 ≤ i.toInt) (hi : i.toInt < n.toInt) (g0 : 0 ≤ g.toInt) (hg : g.toInt < n.toInt) (hn : n.toInt ≤ 4) : mtk (dbb rb c) n f' i g' :=
  mtk_upR h w o hix hc hr hcs ec c0 hix2 ev e h0 hi g0 hg hn
theorem jv_pos {x : Int64} {b : Int} (h : jv x 0 b) (h0 : ¬ x = 0) : jv x 1 b := by
  have h1 : ¬ x.toInt = 0 := fun z => h0 (Int64.toInt_inj.mp (by rw [z]; decide))
  have h2 := h.1
  have h3 := h.2
  exact jv.m (by omega)
