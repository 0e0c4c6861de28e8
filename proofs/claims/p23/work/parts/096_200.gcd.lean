/-! the reference's numbers: the greatest common part, determinants within bounds, sums of fractions -/
theorem i64_remE {x y r : Int64} (e : r = x - x / y * y) (hy : ¬ y = 0) : r.toInt = x.toInt.tmod y.toInt := by
  have h0 : y.toInt ≠ 0 := fun z => hy (Int64.toInt_inj.mp z)
  have h1 := i64_remI x.toInt y.toInt h0
  have b1 := y.toInt_lt
  have b2 := y.le_toInt
  have e1 : r.toInt = (x.toInt - x.toInt.tdiv y.toInt * y.toInt).bmod (2 ^ 64) := by
    rw [e, Int64.toInt_sub, Int64.toInt_mul, Int64.toInt_div, Int.sub_bmod_bmod]
    have q : ((x.toInt.tdiv y.toInt).bmod (2 ^ 64) * y.toInt).bmod (2 ^ 64) = (x.toInt.tdiv y.toInt * y.toInt).bmod (2 ^ 64) := Int.bmod_mul_bmod
    rw [← Int.sub_bmod_bmod, q, Int.sub_bmod_bmod]
  rw [e1, i64_bm (by omega) (by omega), Int.tmod_def, Int.mul_comm]
theorem gc_step {x y r : Int64} {G : Nat} (e : r = x - x / y * y) (hy : ¬ y = 0) (h : Nat.gcd x.toInt.natAbs y.toInt.natAbs = G) : Nat.gcd y.toInt.natAbs r.toInt.natAbs = G := by
  rw [i64_remE e hy, Int.natAbs_tmod, ← h, Nat.gcd_comm x.toInt.natAbs, Nat.gcd_rec y.toInt.natAbs x.toInt.natAbs, Nat.gcd_comm]
theorem gc_nn {x y r : Int64} (e : r = x - x / y * y) (hy : ¬ y = 0) (hx : 0 ≤ x.toInt) : 0 ≤ r.toInt := by
  rw [i64_remE e hy]; exact Int.tmod_nonneg _ hx
theorem gc_abs0 {x y : Int64} (e : y = -x) : y.toInt.natAbs = x.toInt.natAbs := by
  have b1 := x.toInt_lt
  have b2 := x.le_toInt
  rw [e, Int64.toInt_neg]
  by_cases h : x.toInt = -9223372036854775808
  · rw [h]; decide
  · rw [i64_bm (by omega) (by omega), Int.natAbs_neg]
theorem gc_neg0 {x y : Int64} (e : y = -x) (h : x < 0) : x.toInt = -9223372036854775808 ∨ 0 ≤ y.toInt := by
  have b1 := x.toInt_lt
  have b2 := x.le_toInt
  have h1 := i64_lt h rfl (show (0 : Int64).toInt = 0 by decide)
  by_cases hm : x.toInt = -9223372036854775808
  · exact Or.inl hm
  · right; rw [e, Int64.toInt_neg, i64_bm (by omega) (by omega)]; omega
theorem i64_ex {x y z : Int64} (e : x = y / z) (hz : 1 ≤ z.toInt) (hd : z.toInt ∣ y.toInt) : x.toInt * z.toInt = y.toInt := by
  obtain ⟨k, hk⟩ := hd
  have b1 := y.toInt_lt
  have b2 := y.le_toInt
  have e1 : y.toInt.tdiv z.toInt = k := by rw [hk]; exact Int.mul_tdiv_cancel_left _ (by omega)
  have hk1 : k.natAbs ≤ y.toInt.natAbs := by rw [hk, Int.natAbs_mul]; exact Nat.le_mul_of_pos_left _ (by omega)
  rw [e, Int64.toInt_div, e1]
  by_cases q : k = 9223372036854775808
  · exfalso
    have : y.toInt = z.toInt * k := hk
    rw [q] at this
    have h2 : 1 * 9223372036854775808 ≤ z.toInt * 9223372036854775808 := Int.mul_le_mul_of_nonneg_right hz (by decide)
    omega
  · rw [i64_bm (by omega) (by omega), hk, Int.mul_comm]
theorem i64_divnz {x y z : Int64} (e : x = y / z) (hy : 1 ≤ y.toInt) (hz : ¬ z = 0) (hd : z.toInt.natAbs ∣ y.toInt.natAbs) : ¬ x = 0 := by
  have h0 : z.toInt ≠ 0 := fun q => hz (Int64.toInt_inj.mp q)
  have b1 := y.toInt_lt
  intro hx
  have h1 : (y.toInt.tdiv z.toInt).bmod (2 ^ 64) = 0 := by rw [← Int64.toInt_div, ← e, hx]; decide
  have h2 : (y.toInt.tdiv z.toInt).natAbs = y.toInt.natAbs / z.toInt.natAbs := Int.natAbs_tdiv _ _
  have h3 : y.toInt.natAbs / z.toInt.natAbs ≤ y.toInt.natAbs := Nat.div_le_self _ _
  have h4 : 1 ≤ y.toInt.natAbs / z.toInt.natAbs := Nat.div_pos (Nat.le_of_dvd (by omega) hd) (by omega)
  rw [i64_bm (by omega) (by omega)] at h1
  omega
/-- exact sums and products of longs -/
theorem i64_addE {x y z : Int64} (e : x = y + z) {a b c d : Int} (hy : jv y a b) (hz : jv z c d) (h3 : -9223372036854775808 ≤ a + c) (h4 : b + d ≤ 9223372036854775807) : x.toInt = y.toInt + z.toInt := by
  have a1 := hy.1; have a2 := hy.2; have a3 := hz.1; have a4 := hz.2
  rw [e, Int64.toInt_add, i64_bm (by omega) (by omega)]
theorem i64_subE {x y z : Int64} (e : x = y - z) {a b c d : Int} (hy : jv y a b) (hz : jv z c d) (h3 : -9223372036854775808 ≤ a - d) (h4 : b - c ≤ 9223372036854775807) : x.toInt = y.toInt - z.toInt := by
  have a1 := hy.1; have a2 := hy.2; have a3 := hz.1; have a4 := hz.2
  rw [e, Int64.toInt_sub, i64_bm (by omega) (by omega)]
theorem abs_mul_le {a b A B : Int} (h1 : -A ≤ a) (h2 : a ≤ A) (h3 : -B ≤ b) (h4 : b ≤ B) : -(A * B) ≤ a * b ∧ a * b ≤ A * B := by
  have n1 : a.natAbs ≤ A.toNat := by omega
  have n2 : b.natAbs ≤ B.toNat := by omega
  have n3 : (a * b).natAbs ≤ A.toNat * B.toNat := by rw [Int.natAbs_mul]; exact Nat.mul_le_mul n1 n2
  have n4 : ((A.toNat * B.toNat : Nat) : Int) = A * B := by rw [Int.natCast_mul, Int.toNat_of_nonneg (by omega), Int.toNat_of_nonneg (by omega)]
  omega
theorem i64_mulE {x y z : Int64} (e : x = y * z) {A B : Int} (hy : jv y (-A) A) (hz : jv z (-B) B) (h : A * B ≤ 9223372036854775807) : x.toInt = y.toInt * z.toInt := by
  have h1 := abs_mul_le hy.1 hy.2 hz.1 hz.2
  rw [e, Int64.toInt_mul, i64_bm (by omega) (by omega)]

theorem i32_mulv {x y z : Int32} {p q b d : Int} (e : x = y * z) (hy : y.toInt = p) (hz : z.toInt = q) (h1 : 0 ≤ p) (h2 : p ≤ b) (h3 : 0 ≤ q) (h4 : q ≤ d) (h5 : b * d ≤ 2147483647) : 0 ≤ x.toInt ∧ x.toInt ≤ b * q ∧ x.toInt ≤ d * p ∧ x.toInt ≤ b * d := by
  have m0 : 0 ≤ p * q := Int.mul_nonneg h1 h3
  have m1 : p * q ≤ b * q := Int.mul_le_mul_of_nonneg_right h2 h3
  have m2 : p * q ≤ d * p := by rw [Int.mul_comm d p]; exact Int.mul_le_mul_of_nonneg_left h4 h1
  have m3 : b * q ≤ b * d := Int.mul_le_mul_of_nonneg_left h4 (by omega)
  have := i32_mul e hy hz (by omega) (by omega)
  rw [this]
  omega
theorem i32_divE {x y q : Int32} (e : q = x / y) (hx : 0 ≤ x.toInt) (hy : 1 ≤ y.toInt) : q.toInt = x.toInt / y.toInt := by
  have b1 := x.toInt_lt
  have h1 : x.toInt / y.toInt ≤ x.toInt := Int.ediv_le_self _ hx
  have h0 : 0 ≤ x.toInt / y.toInt := Int.ediv_nonneg hx (by omega)
  rw [e, Int32.toInt_div, Int.tdiv_eq_ediv_of_nonneg hx]
  exact i32_bm (by omega) (by omega)
theorem i32_divv {x y q : Int32} (e : q = x / y) (hx : 0 ≤ x.toInt) (hy : 1 ≤ y.toInt) : 0 ≤ q.toInt ∧ q.toInt ≤ x.toInt := by
  rw [i32_divE e hx hy]
  exact ⟨Int.ediv_nonneg hx (by omega), Int.ediv_le_self _ hx⟩
theorem i32_remv {x y r : Int32} (e : r = x - x / y * y) (hx : 0 ≤ x.toInt) (hy : 1 ≤ y.toInt) : 0 ≤ r.toInt ∧ r.toInt < y.toInt := by
  have b1 := x.toInt_lt
  have b2 := y.toInt_lt
  have q := i32_divE (q := x / y) rfl hx hy
  have h1 := Int.emod_nonneg x.toInt (show y.toInt ≠ 0 by omega)
  have h2 := Int.emod_lt_of_pos x.toInt (show 0 < y.toInt by omega)
  have h3 := Int.mul_ediv_add_emod x.toInt y.toInt
  have h4 : (x / y * y).toInt = x.toInt / y.toInt * y.toInt := by
    rw [Int32.toInt_mul, q]
    have h5 : x.toInt / y.toInt * y.toInt = y.toInt * (x.toInt / y.toInt) := Int.mul_comm _ _
    exact i32_bm (by omega) (by omega)
  have h5 : x.toInt / y.toInt * y.toInt = y.toInt * (x.toInt / y.toInt) := Int.mul_comm _ _
  have : r.toInt = x.toInt - x.toInt / y.toInt * y.toInt := by
    rw [e, Int32.toInt_sub, h4]; exact i32_bm (by omega) (by omega)
  omega
theorem lf_nil {lo hi : Int} (h1 : lo ≤ 0) (h2 : 0 ≤ hi) : ivf (lf []) lo hi := by
  intro k
  show iv ((([] : List Int32)).getD k 0) lo hi
  simp only [List.getD_nil]
  exact iv.m (by rw [show (0 : Int32).toInt = 0 by decide]; exact ⟨h1, h2⟩)
theorem lf_cons {x : Int32} {l : List Int32} {lo hi : Int} (h : iv x lo hi) (t : ivf (lf l) lo hi) : ivf (lf (x :: l)) lo hi := by
  intro k
  cases k with
  | zero => exact h
  | succ j => exact t j
