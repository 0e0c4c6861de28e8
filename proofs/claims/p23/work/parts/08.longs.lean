/-! longs with bounds; what is left over by a division -/
def jv (x : Int64) (lo hi : Int) : Prop := lo ≤ x.toInt ∧ x.toInt ≤ hi
theorem jv.u {x : Int64} {lo hi : Int} (h : jv x lo hi) : lo ≤ x.toInt ∧ x.toInt ≤ hi := h
theorem jv.m {x : Int64} {lo hi : Int} (h : lo ≤ x.toInt ∧ x.toInt ≤ hi) : jv x lo hi := h
theorem jv.w {x : Int64} {lo hi lo' hi' : Int} (h : jv x lo hi) (h1 : lo' ≤ lo) (h2 : hi ≤ hi') : jv x lo' hi' := ⟨Int.le_trans h1 h.1, Int.le_trans h.2 h2⟩
theorem jv.of {x y : Int64} {lo hi : Int} (h : jv y lo hi) (e : x = y) : jv x lo hi := e ▸ h
theorem jv.i {x : Int32} {lo hi : Int} (h : iv x lo hi) : jv x.toInt64 lo hi := by
  unfold jv; rw [Int32.toInt_toInt64]; exact h
theorem jv.nz {x : Int64} {lo hi : Int} (h : jv x lo hi) (h0 : 0 < lo ∨ hi < 0) : ¬ x = 0 := by
  intro e
  have h1 := h.1
  have h2 := h.2
  rw [e, show (0 : Int64).toInt = 0 by decide] at h1 h2
  omega
def jvf (f : Nat → Int64) (lo hi : Int) : Prop := ∀ k, jv (f k) lo hi
theorem jvf.w {f : Nat → Int64} {lo hi lo' hi' : Int} (h : jvf f lo hi) (h1 : lo' ≤ lo) (h2 : hi ≤ hi') : jvf f lo' hi' := fun k => (h k).w h1 h2
theorem jvf.up {f : Nat → Int64} {lo hi : Int} (h : jvf f lo hi) {x : Int64} (hx : jv x lo hi) (k : Nat) : jvf (vp_updL f k x) lo hi := by
  intro j
  unfold vp_updL
  by_cases e : j = k
  · rw [if_pos e]; exact hx
  · rw [if_neg e]; exact h j
theorem i64_bm {n : Int} (h1 : -9223372036854775808 ≤ n) (h2 : n ≤ 9223372036854775807) : n.bmod (2 ^ 64) = n := by
  rw [Int.bmod_def]; omega
theorem jv.add {x y z : Int64} {a b c d lo hi : Int} (e : x = y + z) (hy : jv y a b) (hz : jv z c d) (h1 : lo = a + c) (h2 : hi = b + d) (h3 : -9223372036854775808 ≤ lo) (h4 : hi ≤ 9223372036854775807) : jv x lo hi := by
  have a1 := hy.1; have a2 := hy.2; have a3 := hz.1; have a4 := hz.2
  unfold jv
  rw [e, Int64.toInt_add, i64_bm (by omega) (by omega)]
  omega
theorem jv.sub {x y z : Int64} {a b c d lo hi : Int} (e : x = y - z) (hy : jv y a b) (hz : jv z c d) (h1 : lo = a - d) (h2 : hi = b - c) (h3 : -9223372036854775808 ≤ lo) (h4 : hi ≤ 9223372036854775807) : jv x lo hi := by
  have a1 := hy.1; have a2 := hy.2; have a3 := hz.1; have a4 := hz.2
  unfold jv
  rw [e, Int64.toInt_sub, i64_bm (by omega) (by omega)]
  omega
theorem jv.neg {x y : Int64} {a b lo hi : Int} (e : x = -y) (hy : jv y a b) (h1 : lo = -b) (h2 : hi = -a) (h3 : -9223372036854775808 ≤ lo) (h4 : hi ≤ 9223372036854775807) : jv x lo hi := by
  have a1 := hy.1; have a2 := hy.2
  unfold jv
  rw [e, Int64.toInt_neg, i64_bm (by omega) (by omega)]
  omega
/-- both 0 or more -/
theorem jv.mulp {x y z : Int64} {a b c d lo hi : Int} (e : x = y * z) (hy : jv y a b) (hz : jv z c d) (ha : 0 ≤ a) (hc : 0 ≤ c) (h1 : lo = a * c) (h2 : hi = b * d) (h4 : hi ≤ 9223372036854775807) : jv x lo hi := by
  have a1 := hy.1; have a2 := hy.2; have a3 := hz.1; have a4 := hz.2
  have p1 : a * c ≤ y.toInt * z.toInt := Int.mul_le_mul a1 a3 hc (by omega)
  have p2 : y.toInt * z.toInt ≤ b * d := Int.mul_le_mul a2 a4 (by omega) (by omega)
  have p0 : 0 ≤ a * c := Int.mul_nonneg ha hc
  unfold jv
  rw [e, Int64.toInt_mul, i64_bm (by omega) (by omega), h1, h2]
  exact ⟨p1, p2⟩
/-- any signs, by the greatest sizes -/
theorem jv.mula {x y z : Int64} {a b c d B D M : Int} (e : x = y * z) (hy : jv y a b) (hz : jv z c d) (h1 : -B ≤ a) (h2 : b ≤ B) (h3 : -D ≤ c) (h4 : d ≤ D) (hM : M = B * D) (h5 : M ≤ 9223372036854775807) : jv x (-M) M := by
  have a1 := hy.1; have a2 := hy.2; have a3 := hz.1; have a4 := hz.2
  have n1 : y.toInt.natAbs ≤ B.toNat := by omega
  have n2 : z.toInt.natAbs ≤ D.toNat := by omega
  have n3 : (y.toInt * z.toInt).natAbs ≤ B.toNat * D.toNat := by rw [Int.natAbs_mul]; exact Nat.mul_le_mul n1 n2
  have hB : 0 ≤ B := by omega
  have hD : 0 ≤ D := by omega
  have n4 : ((B.toNat * D.toNat : Nat) : Int) = B * D := by rw [Int.natCast_mul, Int.toNat_of_nonneg hB, Int.toNat_of_nonneg hD]
  unfold jv
  rw [e, Int64.toInt_mul, i64_bm (by omega) (by omega)]
  omega
theorem i64_remI (a b : Int) (hb : b ≠ 0) : (a - a.tdiv b * b).natAbs < b.natAbs := by
  have h := Int.tmod_def a b
  have e : a - a.tdiv b * b = a.tmod b := by rw [h, Int.mul_comm]
  rw [e, Int.natAbs_tmod]
  exact Nat.mod_lt _ (by omega)
theorem i64_rem {x y r : Int64} (e : r = x - x / y * y) (hy : ¬ y = 0) : r.toInt.natAbs < y.toInt.natAbs := by
  have h0 : y.toInt ≠ 0 := fun z => hy (Int64.toInt_inj.mp z)
  have h1 := i64_remI x.toInt y.toInt h0
  have b1 := y.toInt_lt
  have b2 := y.le_toInt
  have e1 : r.toInt = (x.toInt - x.toInt.tdiv y.toInt * y.toInt).bmod (2 ^ 64) := by
    rw [e, Int64.toInt_sub, Int64.toInt_mul, Int64.toInt_div, Int.sub_bmod_bmod]
    have q : ((x.toInt.tdiv y.toInt).bmod (2 ^ 64) * y.toInt).bmod (2 ^ 64) = (x.toInt.tdiv y.toInt * y.toInt).bmod (2 ^ 64) := Int.bmod_mul_bmod
    rw [← Int.sub_bmod_bmod, q, Int.sub_bmod_bmod]
  rw [e1, i64_bm (by omega) (by omega)]
  exact h1
theorem i64_min (x : Int64) : -9223372036854775808 ≤ x.toInt := by have h := x.le_toInt; omega
theorem i64_max (x : Int64) : x.toInt ≤ 9223372036854775807 := by have h := x.toInt_lt; omega
/-- a byte of the reference's tape, -1 behind its end -/
def rb_at (f : Nat → Int32) (n p : Int32) : Int32 := if p < n then f p.toNatClampNeg &&& 255 else -1
