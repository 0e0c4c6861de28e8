/-! determinants by their least parts: how large they can be -/
def fa : Nat → Int
  | 0 => 1
  | n + 1 => ((n : Int) + 1) * fa n
def sb (c g : Nat) (b : Int) : Int := if c.testBit g = true then b else 1
def cpr (b : Nat → Int) (c : Nat) : Int := sb c 0 (b 0) * (sb c 1 (b 1) * (sb c 2 (b 2) * sb c 3 (b 3)))
def bt1 (c g : Nat) : Nat := if c.testBit g = true then 1 else 0
def ccn (c g : Nat) : Nat := (if 0 < g then bt1 c 0 else 0) + (if 1 < g then bt1 c 1 else 0) + (if 2 < g then bt1 c 2 else 0) + (if 3 < g then bt1 c 3 else 0)
theorem bt_and : ∀ (c : Fin 16) (g : Fin 4), ((Int32.ofNat c.val >>> (Int32.ofNat g.val &&& 31)) &&& 1) = Int32.ofNat (bt1 c.val g.val) := by decide +kernel
theorem bt_clr : ∀ (c : Fin 16) (g : Fin 4), c.val.testBit g.val = true → (Int32.ofNat c.val &&& ((1 <<< (Int32.ofNat g.val &&& 31)) ^^^ (-1))) = Int32.ofNat (c.val - 2 ^ g.val) := by decide +kernel
theorem bt_cnt : ∀ (c : Fin 16) (g : Fin 4) (n : Fin 5), c.val.testBit g.val = true → g.val < n.val → ccn c.val n.val = ccn (c.val - 2 ^ g.val) n.val + 1 := by decide +kernel
theorem bt_next : ∀ (c : Fin 16) (g : Fin 4), ccn c.val (g.val + 1) = ccn c.val g.val + bt1 c.val g.val := by decide +kernel
theorem bt_tb : ∀ (c : Fin 16) (g j : Fin 4), c.val.testBit g.val = true → (c.val - 2 ^ g.val).testBit j.val = (decide (j.val ≠ g.val) && c.val.testBit j.val) := by decide +kernel
theorem bt_le4 : ∀ (c : Fin 16) (g : Fin 5), ccn c.val g.val ≤ 4 := by decide +kernel
theorem bt_pr (b : Nat → Int) {c g : Nat} (hc : c < 16) (hg : g < 4) (ht : c.testBit g = true) : cpr b c = b g * cpr b (c - 2 ^ g) := by
  have t0 := bt_tb ⟨c, hc⟩ ⟨g, hg⟩ ⟨0, by decide⟩ ht
  have t1 := bt_tb ⟨c, hc⟩ ⟨g, hg⟩ ⟨1, by decide⟩ ht
  have t2 := bt_tb ⟨c, hc⟩ ⟨g, hg⟩ ⟨2, by decide⟩ ht
  have t3 := bt_tb ⟨c, hc⟩ ⟨g, hg⟩ ⟨3, by decide⟩ ht
  dsimp only at t0 t1 t2 t3
  unfold cpr sb
  rw [t0, t1, t2, t3]
  rcases (show g = 0 ∨ g = 1 ∨ g = 2 ∨ g = 3 by omega) with q | q | q | q <;> subst q <;> rw [if_pos ht] <;> simp only [ne_eq, Nat.reduceEqDiff, not_true_eq_false, not_false_eq_true, decide_false, decide_true, Bool.false_and, Bool.true_and, Bool.false_eq_true, if_false, Int.one_mul, Int.mul_one] <;> grind
theorem sb_1 {c g : Nat} {b : Int} (h : 1 ≤ b) : 1 ≤ sb c g b := by unfold sb; split <;> omega
theorem mul_1 {a b : Int} (ha : 1 ≤ a) (hb : 1 ≤ b) : 1 ≤ a * b := by
  have := Int.mul_le_mul ha hb (by decide) (by omega)
  omega
theorem cpr_1 {b : Nat → Int} (h : ∀ k, 1 ≤ b k) (c : Nat) : 1 ≤ cpr b c := mul_1 (sb_1 (h 0)) (mul_1 (sb_1 (h 1)) (mul_1 (sb_1 (h 2)) (sb_1 (h 3))))
theorem sb_le {c g : Nat} {b : Int} (h : 1 ≤ b) : sb c g b ≤ b := by unfold sb; split <;> omega
theorem cpr_le {b : Nat → Int} (h : ∀ k, 1 ≤ b k) (c : Nat) : cpr b c ≤ b 0 * (b 1 * (b 2 * b 3)) := by
  have a0 := sb_1 (c := c) (g := 0) (h 0); have a1 := sb_1 (c := c) (g := 1) (h 1); have a2 := sb_1 (c := c) (g := 2) (h 2); have a3 := sb_1 (c := c) (g := 3) (h 3)
  have h0 := h 0; have h1 := h 1; have h2 := h 2; have h3 := h 3
  have m2 := mul_1 h2 h3
  have m1 := mul_1 h1 m2
  have n2 := mul_1 a2 a3
  have n1 := mul_1 a1 n2
  exact Int.mul_le_mul (sb_le h0) (Int.mul_le_mul (sb_le h1) (Int.mul_le_mul (sb_le h2) (sb_le h3) (by omega) (by omega)) (by omega) (by omega)) (by omega) (by omega)
theorem fa_1 : ∀ n, n ≤ 4 → 1 ≤ fa n ∧ fa n ≤ 24 := by
  intro n h
  rcases (show n = 0 ∨ n = 1 ∨ n = 2 ∨ n = 3 ∨ n = 4 by omega) with q | q | q | q | q <;> subst q <;> decide
theorem fa_s {n : Nat} (h : 1 ≤ n) : fa n = (n : Int) * fa (n - 1) := by
  cases n with
  | zero => omega
  | succ k => show ((k : Int) + 1) * fa k = ((k + 1 : Nat) : Int) * fa (k + 1 - 1); rw [Nat.add_sub_cancel]; congr 1
theorem of_toInt {n : Nat} (h : n < 2147483648) : (Int32.ofNat n).toInt = (n : Int) := nI_toInt (by omega)
theorem i32_of {x : Int32} {hi : Nat} (h : iv x 0 hi) : x = Int32.ofNat x.toNatClampNeg ∧ x.toNatClampNeg ≤ hi := by
  have h1 := h.1
  have h2 := h.2
  have h3 := x.toInt_lt
  have e : x.toNatClampNeg = x.toInt.toNat := rfl
  refine ⟨Int32.toInt_inj.mp ?_, by omega⟩
  rw [e, of_toInt (by omega)]
  omega
/-- what a lesser determinant is over: row i on, columns c, entries within b by columns -/
def mnH (b : Nat → Int) (n : Int32) (i : Nat) (f : Nat → Int64) (c : Int32) : Prop := (∀ k, 1 ≤ b k) ∧ 24 * (b 0 * (b 1 * (b 2 * b 3))) ≤ 1000000000000 ∧ (∀ j k : Nat, j < n.toNatClampNeg → k < n.toNatClampNeg → jv (f (4 * j + k)) (-(b k)) (b k)) ∧ iv c 0 15 ∧ ccn c.toNatClampNeg n.toNatClampNeg = n.toNatClampNeg - i
def mnB (b : Nat → Int) (n : Int32) (i : Nat) (c : Int32) : Int := fa (n.toNatClampNeg - i) * cpr b c.toNatClampNeg
def mnI (b : Nat → Int) (n : Int32) (i : Nat) (c g : Int32) (sum : Int64) : Prop := g.toInt ≤ n.toInt ∧ jv sum (-((ccn c.toNatClampNeg g.toNatClampNeg : Int) * (fa (n.toNatClampNeg - i - 1) * cpr b c.toNatClampNeg))) ((ccn c.toNatClampNeg g.toNatClampNeg : Int) * (fa (n.toNatClampNeg - i - 1) * cpr b c.toNatClampNeg))
theorem mnB_rng {b : Nat → Int} {n : Int32} {i : Nat} {f : Nat → Int64} {c : Int32} (h : mnH b n i f c) (hn : iv n 0 4) {k : Nat} (hk : k ≤ 4) : 1 ≤ fa k * cpr b c.toNatClampNeg ∧ fa k * cpr b c.toNatClampNeg ≤ 1000000000000 := by
  have h1 := fa_1 k hk
  have h2 := cpr_1 h.1 c.toNatClampNeg
  have h3 := cpr_le h.1 c.toNatClampNeg
  have h4 := h.2.1
  have h5 : fa k * cpr b c.toNatClampNeg ≤ 24 * (b 0 * (b 1 * (b 2 * b 3))) := Int.mul_le_mul h1.2 h3 (by omega) (by decide)
  exact ⟨mul_1 h1.1 h2, by omega⟩
theorem mnI_0 {b : Nat → Int} {n : Int32} {i : Nat} {c : Int32} (hn : 0 ≤ n.toInt) : mnI b n i c 0 0 := by
  refine ⟨by rw [show (0 : Int32).toInt = 0 by decide]; exact hn, ?_⟩
  rw [show (0 : Int32).toNatClampNeg = 0 by decide, show ccn c.toNatClampNeg 0 = 0 from rfl]
  unfold jv
  rw [show (0 : Int64).toInt = 0 by decide]
  simp
theorem mn_nx {g g' : Int32} (e : g + Int32.ofInt 1 = g') (hg : iv g 0 3) : g'.toInt = g.toInt + 1 ∧ g'.toNatClampNeg = g.toNatClampNeg + 1 := by
  have h1 := hg.1
  have h2 := hg.2
  have h := i32_inc e rfl (by decide) (by omega) (by omega)
  have e1 : g'.toNatClampNeg = g'.toInt.toNat := rfl
  have e2 : g.toNatClampNeg = g.toInt.toNat := rfl
  exact ⟨h, by omega⟩
theorem mn_bit {c g x y : Int32} (e1 : x = c >>> (g &&& 31)) (e2 : y = x &&& 1) (hc : iv c 0 15) (hg : iv g 0 3) : y = Int32.ofNat (bt1 c.toNatClampNeg g.toNatClampNeg) ∧ ccn c.toNatClampNeg (g.toNatClampNeg + 1) = ccn c.toNatClampNeg g.toNatClampNeg + bt1 c.toNatClampNeg g.toNatClampNeg := by
  obtain ⟨c1, c2⟩ := i32_of (hi := 15) hc
  obtain ⟨g1, g2⟩ := i32_of (hi := 3) hg
  refine ⟨?_, bt_next ⟨c.toNatClampNeg, by omega⟩ ⟨g.toNatClampNeg, by omega⟩⟩
  rw [e2, e1]
  have := bt_and ⟨c.toNatClampNeg, by omega⟩ ⟨g.toNatClampNeg, by omega⟩
  dsimp only at this
  rw [← c1, ← g1] at this
  exact this
theorem mn_b01 (c g : Nat) : bt1 c g = 0 ∨ (bt1 c g = 1 ∧ c.testBit g = true) := by
  unfold bt1; split
  · exact Or.inr ⟨rfl, by assumption⟩
  · exact Or.inl rfl
theorem mnI_skip {b : Nat → Int} {n : Int32} {i : Nat} {f : Nat → Int64} {c g g' x y : Int32} {sum : Int64} (h : mnI b n i c g sum) (hH : mnH b n i f c) (e1 : x = c >>> (g &&& 31)) (e2 : y = x &&& 1) (e3 : y = 0) (e4 : g + Int32.ofInt 1 = g') (hlt : g.toInt < n.toInt) (hg : 0 ≤ g.toInt) (hn : n.toInt ≤ 4) : mnI b n i c g' sum := by
  have hg3 : iv g 0 3 := iv.m (by omega)
  obtain ⟨q1, q2⟩ := mn_nx e4 hg3
  obtain ⟨r1, r2⟩ := mn_bit e1 e2 hH.2.2.2.1 hg3
  have hz : bt1 c.toNatClampNeg g.toNatClampNeg = 0 := by
    rcases mn_b01 c.toNatClampNeg g.toNatClampNeg with z | z
    · exact z
    · rw [z.1, e3] at r1; exact absurd r1 (by decide)
  refine ⟨by omega, ?_⟩
  rw [q2, r2, hz, Nat.add_zero]
  exact h.2
theorem mnI_zero {b : Nat → Int} {n : Int32} {i : Nat} {f : Nat → Int64} {c g g' x y : Int32} {sum : Int64} (h : mnI b n i c g sum) (hH : mnH b n i f c) (e1 : x = c >>> (g &&& 31)) (e2 : y = x &&& 1) (e4 : g + Int32.ofInt 1 = g') (hlt : g.toInt < n.toInt) (hg : 0 ≤ g.toInt) (hn : n.toInt ≤ 4) : mnI b n i c g' sum := by
  have hg3 : iv g 0 3 := iv.m (by omega)
  obtain ⟨q1, q2⟩ := mn_nx e4 hg3
  obtain ⟨r1, r2⟩ := mn_bit e1 e2 hH.2.2.2.1 hg3
  have en : n.toNatClampNeg = n.toInt.toNat := rfl
  have hT := (mnB_rng hH (iv.m ⟨by omega, hn⟩) (k := n.toNatClampNeg - i - 1) (by omega)).1
  refine ⟨by omega, ?_⟩
  have h2 := h.2
  rw [q2, r2]
  generalize fa (n.toNatClampNeg - i - 1) * cpr b c.toNatClampNeg = T at h2 hT ⊢
  have e : ((ccn c.toNatClampNeg g.toNatClampNeg + bt1 c.toNatClampNeg g.toNatClampNeg : Nat) : Int) * T = (ccn c.toNatClampNeg g.toNatClampNeg : Int) * T + (bt1 c.toNatClampNeg g.toNatClampNeg : Int) * T := by rw [Int.natCast_add, Int.add_mul]
  rw [e]
  have p : 0 ≤ (bt1 c.toNatClampNeg g.toNatClampNeg : Int) * T := Int.mul_nonneg (by omega) (by omega)
  exact h2.w (by omega) (by omega)
theorem mnH_next {b : Nat → Int} {n : Int32} {i : Nat} {f : Nat → Int64} {c g x y z1 z2 z3 : Int32} (hH : mnH b n i f c) (e1 : x = c >>> (g &&& 31)) (e2 : y = x &&& 1) (e3 : ¬ y = 0) (e5 : z1 = 1 <<< (g &&& 31)) (e6 : z2 = z1 ^^^ (-1)) (e7 : z3 = c &&& z2) (hlt : g.toInt < n.toInt) (hg : 0 ≤ g.toInt) (hn : n.toInt ≤ 4) : mnH b n (i + 1) f z3 ∧ cpr b c.toNatClampNeg = b g.toNatClampNeg * cpr b z3.toNatClampNeg ∧ ccn c.toNatClampNeg (g.toNatClampNeg + 1) = ccn c.toNatClampNeg g.toNatClampNeg + 1 := by
  have hg3 : iv g 0 3 := iv.m (by omega)
  obtain ⟨r1, r2⟩ := mn_bit e1 e2 hH.2.2.2.1 hg3
  obtain ⟨c1, c2⟩ := i32_of (hi := 15) hH.2.2.2.1
  obtain ⟨g1, g2⟩ := i32_of (hi := 3) hg3
  have en : n.toNatClampNeg = n.toInt.toNat := rfl
  have eg : g.toNatClampNeg = g.toInt.toNat := rfl
  rcases mn_b01 c.toNatClampNeg g.toNatClampNeg with z | ⟨zz, z⟩
  · rw [z] at r1; exact absurd r1 e3
  have k1 := bt_clr ⟨c.toNatClampNeg, by omega⟩ ⟨g.toNatClampNeg, by omega⟩ z
  have k2 := bt_cnt ⟨c.toNatClampNeg, by omega⟩ ⟨g.toNatClampNeg, by omega⟩ ⟨n.toNatClampNeg, by omega⟩ z (by show g.toNatClampNeg < n.toNatClampNeg; omega)
  dsimp only at k1 k2
  rw [← c1, ← g1, ← e5, ← e6, ← e7] at k1
  have hsub := Nat.sub_le c.toNatClampNeg (2 ^ g.toNatClampNeg)
  have k3 : z3.toNatClampNeg = c.toNatClampNeg - 2 ^ g.toNatClampNeg := by
    rw [k1]
    show (Int32.ofNat (c.toNatClampNeg - 2 ^ g.toNatClampNeg)).toInt.toNat = _
    rw [of_toInt (by omega)]; omega
  refine ⟨⟨hH.1, hH.2.1, hH.2.2.1, ?_, ?_⟩, ?_, by rw [r2, zz]⟩
  · refine iv.m ?_
    rw [k1, of_toInt (by omega)]; omega
  · rw [k3]; have := hH.2.2.2.2; omega
  · rw [k3]; exact bt_pr b (by omega) (by omega) z
theorem mn_sign {s : Int32} (h : iv s (-1) 1) : jv s.toInt64 (-1) 1 := jv.i h
theorem mnI_add {b : Nat → Int} {n : Int32} {i : Nat} {f : Nat → Int64} {c g g' x y z1 z2 z3 s ix : Int32} {sum a y1 y2 y3 r : Int64} (h : mnI b n i c g sum) (hH : mnH b n i f c) (e1 : x = c >>> (g &&& 31)) (e2 : y = x &&& 1) (e3 : ¬ y = 0) (e5 : z1 = 1 <<< (g &&& 31)) (e6 : z2 = z1 ^^^ (-1)) (e7 : z3 = c &&& z2) (e4 : g + Int32.ofInt 1 = g') (hi : (i : Int) < n.toInt) (hlt : g.toInt < n.toInt) (hg : 0 ≤ g.toInt) (hn : n.toInt ≤ 4)
    (q3 : y3 = sum + y2) (q2 : y2 = y1 * r) (q1 : y1 = s.toInt64 * a) (hr : jv r (-(mnB b n (i + 1) z3)) (mnB b n (i + 1) z3)) (ea : a = f ix.toNatClampNeg) (hix : ix.toInt = 4 * (i : Int) + g.toInt) (hs : iv s (-1) 1) : mnI b n i c g' y3 := by
  obtain ⟨n1, n2⟩ := mn_nx e4 (iv.m (by omega))
  obtain ⟨k0, k1, k2⟩ := mnH_next hH e1 e2 e3 e5 e6 e7 hlt hg hn
  have en : n.toNatClampNeg = n.toInt.toNat := rfl
  have eg : g.toNatClampNeg = g.toInt.toNat := rfl
  have ei : ix.toNatClampNeg = ix.toInt.toNat := rfl
  have ex : ix.toNatClampNeg = 4 * i + g.toNatClampNeg := by omega
  have ha := hH.2.2.1 i g.toNatClampNeg (by omega) (by omega)
  rw [← ex, ← ea] at ha
  have hcc := bt_le4 ⟨c.toNatClampNeg, by have := (i32_of (hi := 15) hH.2.2.2.1).2; omega⟩ ⟨g.toNatClampNeg, by omega⟩
  dsimp only at hcc
  have hT := mnB_rng hH (iv.m ⟨by omega, hn⟩) (k := n.toNatClampNeg - i - 1) (by omega)
  have hT2 := mnB_rng k0 (iv.m ⟨by omega, hn⟩) (k := n.toNatClampNeg - i - 1) (by omega)
  have hb1 := hH.1 g.toNatClampNeg
  unfold mnB at hr
  rw [show n.toNatClampNeg - (i + 1) = n.toNatClampNeg - i - 1 by omega] at hr
  have h2 := h.2
  have eT : fa (n.toNatClampNeg - i - 1) * cpr b c.toNatClampNeg = b g.toNatClampNeg * (fa (n.toNatClampNeg - i - 1) * cpr b z3.toNatClampNeg) := by rw [k1]; grind
  refine ⟨by omega, ?_⟩
  rw [n2, k2]
  generalize fa (n.toNatClampNeg - i - 1) * cpr b z3.toNatClampNeg = U at eT hr hT2
  generalize fa (n.toNatClampNeg - i - 1) * cpr b c.toNatClampNeg = T at eT h2 hT ⊢
  generalize b g.toNatClampNeg = bg at ha hb1 eT
  have hbg : bg * 1 ≤ bg * U := Int.mul_le_mul_of_nonneg_left hT2.1 (by omega)
  have m1 := abs_mul_le (jv.i hs).1 (jv.i hs).2 ha.1 ha.2
  have v1 : jv y1 (-bg) bg := by
    have := i64_mulE q1 (A := 1) (B := bg) (jv.i hs) ha (by omega)
    unfold jv; rw [this]; omega
  have m2 := abs_mul_le v1.1 v1.2 hr.1 hr.2
  have v2 : jv y2 (-T) T := by
    have := i64_mulE q2 (A := bg) (B := U) v1 hr (by omega)
    unfold jv; rw [this, eT]; exact m2
  have hk : (ccn c.toNatClampNeg g.toNatClampNeg : Int) * T ≤ 4 * T := Int.mul_le_mul_of_nonneg_right (by omega) (by omega)
  have hk0 : 0 ≤ (ccn c.toNatClampNeg g.toNatClampNeg : Int) * T := Int.mul_nonneg (by omega) (by omega)
  have e : ((ccn c.toNatClampNeg g.toNatClampNeg + 1 : Nat) : Int) * T = (ccn c.toNatClampNeg g.toNatClampNeg : Int) * T + T := by rw [Int.natCast_add, Int.add_mul]; omega
  have v3 := i64_addE q3 h2 v2 (by omega) (by omega)
  have a1 := h2.1; have a2 := h2.2; have a3 := v2.1; have a4 := v2.2
  unfold jv
  rw [v3, e]
  omega
theorem mnI_end {b : Nat → Int} {n : Int32} {i : Nat} {f : Nat → Int64} {c g : Int32} {sum : Int64} (h : mnI b n i c g sum) (hH : mnH b n i f c) (hge : n.toInt ≤ g.toInt) (hi : (i : Int) < n.toInt) : jv sum (-(mnB b n i c)) (mnB b n i c) := by
  have en : n.toNatClampNeg = n.toInt.toNat := rfl
  have eg : g.toNatClampNeg = g.toInt.toNat := rfl
  have h1 := h.1
  have e : g.toNatClampNeg = n.toNatClampNeg := by omega
  have h2 := h.2
  have h3 := hH.2.2.2.2
  rw [e, h3] at h2
  unfold mnB
  rw [fa_s (n := n.toNatClampNeg - i) (by omega), Int.mul_assoc]
  exact h2
theorem mnI_one {b : Nat → Int} {n : Int32} {i : Nat} {f : Nat → Int64} {c : Int32} (hH : mnH b n i f c) (hn : iv n 0 4) : jv 1 (-(mnB b n i c)) (mnB b n i c) := by
  have h2 := hn.2
  have en : n.toNatClampNeg = n.toInt.toNat := rfl
  have := (mnB_rng hH hn (k := n.toNatClampNeg - i) (by omega)).1
  unfold mnB jv
  rw [show (1 : Int64).toInt = 1 by decide]
  omega
