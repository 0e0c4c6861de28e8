/-! a wage by its least numbers; sums of wages in parts of 60 times the determinant -/
def wk (l wu wl : Int64) : Prop := jv wl 1 2400000 ∧ jv wu (-808000000) 808000000 ∧ ∃ q : Int, wl.toInt * q = 60 * l.toInt ∧ -48480000000 ≤ wu.toInt * q ∧ wu.toInt * q ≤ 48480000000
theorem gc_pos {b : Int64} {x y : Nat} (hb : b.toInt.natAbs = Nat.gcd x y) (hb0 : 0 ≤ b.toInt) (hy : 0 < y) : 1 ≤ b.toInt := by
  have := Nat.gcd_pos_of_pos_right x hy
  omega
theorem gc_dl {b a : Int64} {y : Nat} (hb : b.toInt.natAbs = Nat.gcd a.toInt.natAbs y) : b.toInt ∣ a.toInt := Int.natAbs_dvd_natAbs.mp (by rw [hb]; exact Nat.gcd_dvd_left _ _)
theorem gc_dr {b a : Int64} {x : Nat} (hb : b.toInt.natAbs = Nat.gcd x a.toInt.natAbs) : b.toInt ∣ a.toInt := Int.natAbs_dvd_natAbs.mp (by rw [hb]; exact Nat.gcd_dvd_right _ _)
theorem dv_le {a b c B : Int} (h : a * b = c) (hb : 1 ≤ b) (h1 : -B ≤ c) (h2 : c ≤ B) : -B ≤ a ∧ a ≤ B := by
  have e : a.natAbs * b.natAbs = c.natAbs := by rw [← Int.natAbs_mul, h]
  have : a.natAbs ≤ a.natAbs * b.natAbs := Nat.le_mul_of_pos_right _ (by omega)
  omega
theorem dv_1 {a b c : Int} (h : a * b = c) (hb : 1 ≤ b) (h1 : 1 ≤ c) : 1 ≤ a := by
  by_cases q : 1 ≤ a
  · exact q
  · exfalso
    have : a * b ≤ 0 * b := Int.mul_le_mul_of_nonneg_right (by omega) (by omega)
    omega
theorem rt_60 {r : Int} (h1 : 1 ≤ r) (h2 : r ≤ 5) : ∃ k : Int, r * k = 60 ∧ 12 ≤ k ∧ k ≤ 60 := by
  rcases (show r = 1 ∨ r = 2 ∨ r = 3 ∨ r = 4 ∨ r = 5 by omega) with q | q | q | q | q
  · exact ⟨60, by omega, by omega, by omega⟩
  · exact ⟨30, by omega, by omega, by omega⟩
  · exact ⟨20, by omega, by omega, by omega⟩
  · exact ⟨15, by omega, by omega, by omega⟩
  · exact ⟨12, by omega, by omega, by omega⟩
theorem wk_of {l w0 w1 b wu wl : Int64} {rt : Int32} (hl : jv l 1 480000) (h1 : 1 ≤ rt.toInt) (h5 : rt.toInt ≤ 5) (hw0 : jv w0 (-808000000) 808000000) (e1 : w1 = l * rt.toInt64) (hb : b.toInt.natAbs = Nat.gcd w0.toInt.natAbs w1.toInt.natAbs) (hb0 : 0 ≤ b.toInt) (e2 : wu = w0 / b) (e3 : wl = w1 / b) : wk l wu wl := by
  have a1 := hl.1; have a2 := hl.2
  have er : rt.toInt64.toInt = rt.toInt := Int32.toInt_toInt64 rt
  have e1' : w1.toInt = l.toInt * rt.toInt := by
    have := i64_mulE e1 (A := 480000) (B := 5) (hl.w (by decide) (by decide)) (jv.m (by rw [er]; omega)) (by decide)
    rw [this, er]
  have p1 : 1 ≤ w1.toInt := by rw [e1']; exact mul_1 a1 h1
  have p2 : w1.toInt ≤ 2400000 := by
    rw [e1']
    have := (abs_mul_le (a := l.toInt) (b := rt.toInt) (A := 480000) (B := 5) (by omega) (by omega) (by omega) (by omega)).2
    omega
  have hbp := gc_pos hb hb0 (by omega)
  have x1 := i64_ex e2 hbp (gc_dl hb)
  have x2 := i64_ex e3 hbp (gc_dr hb)
  obtain ⟨k, hk, k1, k2⟩ := rt_60 h1 h5
  have c1 := dv_1 x2 hbp p1
  have c2 := dv_le x2 hbp (B := 2400000) (by omega) p2
  have c3 := dv_le x1 hbp (B := 808000000) hw0.1 hw0.2
  refine ⟨jv.m ⟨c1, c2.2⟩, jv.m c3, b.toInt * k, ?_, ?_⟩
  · rw [← Int.mul_assoc, x2, e1', Int.mul_assoc, hk, Int.mul_comm]
  · rw [← Int.mul_assoc, x1]
    have := abs_mul_le (a := w0.toInt) (b := k) (A := 808000000) (B := 60) hw0.1 hw0.2 (by omega) (by omega)
    omega
/-- the cost so far, of s SIGNS, by its least numbers -/
def lkI (l : Int64) (s : Int) (up low : Int64) : Prop := 1 ≤ low.toInt ∧ (∃ q : Int, low.toInt * q = 60 * l.toInt) ∧ ∃ T : Int, 60 * l.toInt * up.toInt = low.toInt * T ∧ -(s * 969600000000) ≤ T ∧ T ≤ s * 969600000000
theorem lkI_0 {l : Int64} : lkI l 0 0 1 := by
  refine ⟨by decide, ⟨60 * l.toInt, ?_⟩, 0, ?_, by decide, by decide⟩
  · rw [show (1 : Int64).toInt = 1 by decide, Int.one_mul]
  · rw [show (0 : Int64).toInt = 0 by decide, Int.mul_zero, Int.mul_zero]
theorem lkI_low {l up low : Int64} {s : Int} (h : lkI l s up low) (hl : jv l 1 480000) : jv low 1 28800000 := by
  obtain ⟨h1, ⟨q, hq⟩, -⟩ := h
  have a1 := hl.1; have a2 := hl.2
  have hq1 : 1 ≤ q := dv_1 (a := q) (b := low.toInt) (c := 60 * l.toInt) (by rw [Int.mul_comm]; exact hq) h1 (by omega)
  have := dv_le hq hq1 (B := 60 * l.toInt) (by omega) (by omega)
  exact jv.m ⟨h1, by omega⟩
theorem lkI_up {l up low : Int64} {s : Int} (h : lkI l s up low) (hl : jv l 1 480000) (h0 : 0 ≤ s) : -(s * 969600000000) ≤ up.toInt ∧ up.toInt ≤ s * 969600000000 := by
  have hlow := lkI_low h hl
  obtain ⟨h1, ⟨q, hq⟩, T, hT, t1, t2⟩ := h
  have a1 := hl.1; have a2 := hl.2
  have hq1 : 1 ≤ q := dv_1 (a := q) (b := low.toInt) (c := 60 * l.toInt) (by rw [Int.mul_comm]; exact hq) h1 (by omega)
  have e : up.toInt * q = T := by
    have : low.toInt * (up.toInt * q) = low.toInt * T := by rw [← hT, ← hq]; grind
    exact Int.eq_of_mul_eq_mul_left (by omega) this
  exact dv_le e hq1 t1 t2
theorem lkI_step {l up low wu wl x1 x2 x3 up1 low1 b up2 low2 : Int64} {ch : Int32} {s s' : Int} (h : lkI l s up low) (h0 : 0 ≤ s) (h3 : s ≤ 3) (hl : jv l 1 480000) (hw : wk l wu wl) (c0 : 0 ≤ ch.toInt) (c20 : ch.toInt ≤ 20) (e1 : x1 = up * wl) (e2 : x2 = ch.toInt64 * wu) (e3 : x3 = x2 * low) (e4 : up1 = x1 + x3) (e5 : low1 = low * wl) (hb : b.toInt.natAbs = Nat.gcd up1.toInt.natAbs low1.toInt.natAbs) (hb0 : up1.toInt = -9223372036854775808 ∨ low1.toInt < 0 ∨ 0 ≤ b.toInt) (e6 : up2 = up1 / b) (e7 : low2 = low1 / b) (hs' : s' = s + 1) : lkI l s' up2 low2 := by
  have hlow := lkI_low h hl
  have hup := lkI_up h hl h0
  obtain ⟨h1, ⟨q0, hq0⟩, T, hT, t1, t2⟩ := h
  obtain ⟨hwl, hwu, q, hq, q1, q2⟩ := hw
  have a1 := hl.1; have a2 := hl.2
  have l1 := hlow.1; have l2 := hlow.2
  have w1 := hwl.1; have w2 := hwl.2
  have ec : ch.toInt64.toInt = ch.toInt := Int32.toInt_toInt64 ch
  have vup : jv up (-2908800000000) 2908800000000 := jv.m (by omega)
  have vwl : jv wl (-2400000) 2400000 := hwl.w (by decide) (by decide)
  have vlow : jv low (-28800000) 28800000 := hlow.w (by decide) (by decide)
  have vch : jv ch.toInt64 (-20) 20 := jv.m (by rw [ec]; omega)
  have E1 := i64_mulE e1 (A := 2908800000000) (B := 2400000) vup vwl (by decide)
  have B1 := abs_mul_le vup.1 vup.2 vwl.1 vwl.2
  have E2 := i64_mulE e2 (A := 20) (B := 808000000) vch hwu (by decide)
  have B2 := abs_mul_le vch.1 vch.2 hwu.1 hwu.2
  have v2 : jv x2 (-16160000000) 16160000000 := jv.m (by rw [E2]; omega)
  have E3 := i64_mulE e3 (A := 16160000000) (B := 28800000) v2 vlow (by decide)
  have B3 := abs_mul_le v2.1 v2.2 vlow.1 vlow.2
  have v1 : jv x1 (-6981120000000000000) 6981120000000000000 := jv.m (by rw [E1]; omega)
  have v3 : jv x3 (-465408000000000000) 465408000000000000 := jv.m (by rw [E3]; omega)
  have E4 := i64_addE e4 v1 v3 (by decide) (by decide)
  have E5 := i64_mulE e5 (A := 28800000) (B := 2400000) vlow vwl (by decide)
  have p5 : 1 ≤ low1.toInt := by rw [E5]; exact mul_1 h1 w1
  have n1 := v1.1; have n2 := v1.2; have n3 := v3.1; have n4 := v3.2
  have hb1 : 0 ≤ b.toInt := by
    rcases hb0 with z | z | z
    · omega
    · omega
    · exact z
  have hbp := gc_pos hb hb1 (by omega)
  have D1 := i64_ex e6 hbp (gc_dl hb)
  have D2 := i64_ex e7 hbp (gc_dr hb)
  have pl : 1 ≤ low2.toInt := dv_1 D2 hbp p5
  -- the new sum in whole parts
  have key : 60 * l.toInt * up1.toInt = low1.toInt * (T + ch.toInt * (wu.toInt * q)) := by
    rw [E4, E1, E3, E2, E5, ec]
    have k1 : 60 * l.toInt * (up.toInt * wl.toInt) = low.toInt * T * wl.toInt := by rw [← hT]; grind
    have k2 : 60 * l.toInt * (ch.toInt * wu.toInt * low.toInt) = low.toInt * wl.toInt * (ch.toInt * (wu.toInt * q)) := by rw [← hq]; grind
    rw [Int.mul_add, k1, k2]; grind
  have key2 : 60 * l.toInt * up2.toInt = low2.toInt * (T + ch.toInt * (wu.toInt * q)) := by
    have : 60 * l.toInt * up2.toInt * b.toInt = low2.toInt * (T + ch.toInt * (wu.toInt * q)) * b.toInt := by
      have z1 : 60 * l.toInt * up2.toInt * b.toInt = 60 * l.toInt * (up2.toInt * b.toInt) := by grind
      have z2 : low2.toInt * (T + ch.toInt * (wu.toInt * q)) * b.toInt = low2.toInt * b.toInt * (T + ch.toInt * (wu.toInt * q)) := by grind
      rw [z1, z2, D1, D2, key]
    exact Int.eq_of_mul_eq_mul_right (by omega) this
  have cop : Nat.gcd low2.toInt.natAbs up2.toInt.natAbs = 1 := by
    have g1 : up1.toInt.natAbs = up2.toInt.natAbs * b.toInt.natAbs := by rw [← D1, Int.natAbs_mul]
    have g2 : low1.toInt.natAbs = low2.toInt.natAbs * b.toInt.natAbs := by rw [← D2, Int.natAbs_mul]
    rw [g1, g2, Nat.gcd_mul_right] at hb
    have : 1 * b.toInt.natAbs = Nat.gcd up2.toInt.natAbs low2.toInt.natAbs * b.toInt.natAbs := by omega
    have := Nat.eq_of_mul_eq_mul_right (by omega) this
    rw [Nat.gcd_comm]; omega
  have dv : low2.toInt.natAbs ∣ (60 * l.toInt).natAbs := by
    have d0 : low2.toInt.natAbs ∣ (60 * l.toInt).natAbs * up2.toInt.natAbs := by
      rw [← Int.natAbs_mul, key2, Int.natAbs_mul]; exact Nat.dvd_mul_right _ _
    exact Nat.Coprime.dvd_of_dvd_mul_right cop d0
  obtain ⟨z, hz⟩ := Int.natAbs_dvd_natAbs.mp dv
  have B9 := abs_mul_le (a := ch.toInt) (b := wu.toInt * q) (A := 20) (B := 48480000000) (by omega) (by omega) q1 q2
  refine ⟨pl, ⟨z, hz.symm⟩, T + ch.toInt * (wu.toInt * q), key2, ?_, ?_⟩ <;> (subst hs'; omega)
