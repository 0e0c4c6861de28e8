/-! numbers with bounds, and a loop by a measure -/
def iv (x : Int32) (lo hi : Int) : Prop := lo ≤ x.toInt ∧ x.toInt ≤ hi
theorem iv.u {x : Int32} {lo hi : Int} (h : iv x lo hi) : lo ≤ x.toInt ∧ x.toInt ≤ hi := h
theorem iv.m {x : Int32} {lo hi : Int} (h : lo ≤ x.toInt ∧ x.toInt ≤ hi) : iv x lo hi := h
theorem iv.w {x : Int32} {lo hi lo' hi' : Int} (h : iv x lo hi) (h1 : lo' ≤ lo) (h2 : hi ≤ hi') : iv x lo' hi' := ⟨Int.le_trans h1 h.1, Int.le_trans h.2 h2⟩
theorem iv.of {x y : Int32} {lo hi : Int} (h : iv y lo hi) (e : x = y) : iv x lo hi := e ▸ h
def ivf (f : Nat → Int32) (lo hi : Int) : Prop := ∀ k, iv (f k) lo hi
theorem ivf.w {f : Nat → Int32} {lo hi lo' hi' : Int} (h : ivf f lo hi) (h1 : lo' ≤ lo) (h2 : hi ≤ hi') : ivf f lo' hi' := fun k => (h k).w h1 h2
theorem ivf.up {f : Nat → Int32} {lo hi : Int} (h : ivf f lo hi) {x : Int32} (hx : iv x lo hi) (k : Nat) : ivf (upd f k x) lo hi := by
  intro j
  unfold upd
  by_cases e : j = k
  · rw [if_pos e]; exact hx
  · rw [if_neg e]; exact h j
theorem ivf.of {f g : Nat → Int32} {lo hi : Int} (h : ivf g lo hi) (e : f = g) : ivf f lo hi := e ▸ h
theorem i32_lt {x y : Int32} {a b : Int} (h : x < y) (hx : x.toInt = a) (hy : y.toInt = b) : a < b := by
  rw [Int32.lt_iff_toInt_lt, hx, hy] at h; exact h
theorem i32_nlt {x y : Int32} {a b : Int} (h : ¬ x < y) (hx : x.toInt = a) (hy : y.toInt = b) : b ≤ a := by
  rw [Int32.lt_iff_toInt_lt, hx, hy] at h; omega
theorem i32_le {x y : Int32} {a b : Int} (h : x ≤ y) (hx : x.toInt = a) (hy : y.toInt = b) : a ≤ b := by
  rw [Int32.le_iff_toInt_le, hx, hy] at h; exact h
theorem i32_nle {x y : Int32} {a b : Int} (h : ¬ x ≤ y) (hx : x.toInt = a) (hy : y.toInt = b) : b < a := by
  rw [Int32.le_iff_toInt_le, hx, hy] at h; omega
theorem i32_eq {x y : Int32} {a b : Int} (h : x = y) (hx : x.toInt = a) (hy : y.toInt = b) : a = b := by
  rw [← hx, ← hy, h]
theorem i32_ne {x y : Int32} {a b : Int} (h : ¬ x = y) (hx : x.toInt = a) (hy : y.toInt = b) : a ≠ b := by
  intro e
  exact h (Int32.toInt_inj.mp (by rw [hx, hy, e]))
theorem i32_bm {n : Int} (h1 : -2147483648 ≤ n) (h2 : n ≤ 2147483647) : n.bmod (2 ^ 32) = n := by
  rw [Int.bmod_def]; omega
theorem i32_add {x y z : Int32} {a b : Int} (e : x = y + z) (hy : y.toInt = a) (hz : z.toInt = b) (h1 : -2147483648 ≤ a + b) (h2 : a + b ≤ 2147483647) : x.toInt = a + b := by
  rw [e, Int32.toInt_add, hy, hz]; exact i32_bm h1 h2
theorem i32_sub {x y z : Int32} {a b : Int} (e : x = y - z) (hy : y.toInt = a) (hz : z.toInt = b) (h1 : -2147483648 ≤ a - b) (h2 : a - b ≤ 2147483647) : x.toInt = a - b := by
  rw [e, Int32.toInt_sub, hy, hz]; exact i32_bm h1 h2
theorem i32_mul {x y z : Int32} {a b : Int} (e : x = y * z) (hy : y.toInt = a) (hz : z.toInt = b) (h1 : -2147483648 ≤ a * b) (h2 : a * b ≤ 2147483647) : x.toInt = a * b := by
  rw [e, Int32.toInt_mul, hy, hz]; exact i32_bm h1 h2
theorem i32_neg {x y : Int32} {a : Int} (e : x = -y) (hy : y.toInt = a) (h1 : -2147483648 ≤ -a) (h2 : -a ≤ 2147483647) : x.toInt = -a := by
  rw [e, Int32.toInt_neg, hy]; exact i32_bm h1 h2
theorem i32_inc {x y : Int32} {n : Int} {a : Int} (e : y + Int32.ofInt n = x) (hy : y.toInt = a) (hn : (Int32.ofInt n).toInt = n) (h1 : -2147483648 ≤ a + n) (h2 : a + n ≤ 2147483647) : x.toInt = a + n := i32_add e.symm hy hn h1 h2
theorem i32_min (x : Int32) : -2147483648 ≤ x.toInt := by have h := x.le_toInt; omega
theorem i32_max (x : Int32) : x.toInt ≤ 2147483647 := by have h := x.toInt_lt; omega
section TLL
variable {p : Program} {l : Launch} {e : Env} {R : Room} {s : State} {m : MethodId} {args : Array Value} {below : List Frame} {meth : Method} {c : Code} {cells slots : Nat} {Q : State → Prop} {pc : Nat}
theorem tl_loop (I : Nat → Heap → List Loc → Array Slot → Prop)
    (step : ∀ (n : Nat) (H : Heap) (locs : List Loc) (ls : Array Slot), I n H locs ls → (∀ (n' : Nat) (H' : Heap) (locs' : List Loc) (ls' : Array Slot), n' < n → I n' H' locs' ls' → W p l e R s m args below meth c H' locs' cells slots Q (F0 m pc ls' [])) → W p l e R s m args below meth c H locs cells slots Q (F0 m pc ls []))
    {n : Nat} {H : Heap} {locs : List Loc} {ls : Array Slot} (h : I n H locs ls) : W p l e R s m args below meth c H locs cells slots Q (F0 m pc ls []) := by
  induction n using Nat.strongRecOn generalizing H locs ls with
  | ind n ih => exact step n H locs ls h (fun n' H' locs' ls' hlt h' => ih n' hlt h')
end TLL
theorem i32_nz {y : Int32} (h : y.toInt ≠ 0) : ¬ y = 0 := fun e => h (by rw [e]; rfl)
theorem i32_and255 {x y : Int32} (e : x = y &&& 255) : iv x 0 255 := by
  obtain ⟨j, hj, h⟩ := pk_andE y (m := 255) 8 (by decide)
  rw [e, h]
  unfold iv
  rw [nI_toInt (by omega)]
  omega
theorem i32_and1 {x y : Int32} (e : x = y &&& 1) : iv x 0 1 := by
  obtain ⟨j, hj, h⟩ := pk_andE y (m := 1) 1 (by decide)
  rw [e, h]
  unfold iv
  rw [nI_toInt (by omega)]
  omega
theorem iv01 {v : Int32} (h : iv v 0 1) : v = 0 ∨ v = 1 := by
  have h1 := h.1
  have h2 := h.2
  rcases (show v.toInt = 0 ∨ v.toInt = 1 by omega) with e | e
  · exact Or.inl (Int32.toInt_inj.mp e)
  · exact Or.inr (Int32.toInt_inj.mp e)
theorem nar_bool {v : Int32} (h : iv v 0 1) : narrow .boolean (.int v) = .int v := by
  rcases iv01 h with e | e <;> rw [e] <;> rfl
theorem i64_lt {x y : Int64} {a b : Int} (h : x < y) (hx : x.toInt = a) (hy : y.toInt = b) : a < b := by
  rw [Int64.lt_iff_toInt_lt, hx, hy] at h; exact h
theorem i64_le {x y : Int64} {a b : Int} (h : x ≤ y) (hx : x.toInt = a) (hy : y.toInt = b) : a ≤ b := by
  rw [Int64.le_iff_toInt_le, hx, hy] at h; exact h
theorem lc_lt {x y : Int64} (h : lg_cmp x y < 0) : x < y := (lg_cmp_lt x y).mp h
theorem lc_nlt {x y : Int64} (h : ¬ lg_cmp x y < 0) : y ≤ x := Int64.not_lt.mp (fun z => h ((lg_cmp_lt x y).mpr z))
theorem lc_ge {x y : Int64} (h : 0 ≤ lg_cmp x y) : y ≤ x := (lg_cmp_ge x y).mp h
theorem lc_nge {x y : Int64} (h : ¬ 0 ≤ lg_cmp x y) : x < y := Int64.not_le.mp (fun z => h ((lg_cmp_ge x y).mpr z))
theorem lc_gt {x y : Int64} (h : 0 < lg_cmp x y) : y < x := (lg_cmp_gt x y).mp h
theorem lc_ngt {x y : Int64} (h : ¬ 0 < lg_cmp x y) : x ≤ y := Int64.not_lt.mp (fun z => h ((lg_cmp_gt x y).mpr z))
theorem lc_le {x y : Int64} (h : lg_cmp x y ≤ 0) : x ≤ y := (lg_cmp_le x y).mp h
theorem lc_nle {x y : Int64} (h : ¬ lg_cmp x y ≤ 0) : y < x := Int64.not_le.mp (fun z => h ((lg_cmp_le x y).mpr z))
theorem lc_eq {x y : Int64} (h : lg_cmp x y = 0) : x = y := (lg_cmp_eq x y).mp h
theorem lc_ne {x y : Int64} (h : ¬ lg_cmp x y = 0) : ¬ x = y := fun z => h ((lg_cmp_eq x y).mpr z)
theorem i32_rng (x : Int32) : -2147483648 ≤ x.toInt ∧ x.toInt ≤ 2147483647 := ⟨i32_min x, i32_max x⟩
