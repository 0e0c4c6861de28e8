/-! Euclid's steps in the class; a number by its least numbers; the wage of a FEELING -/
def eucI (h l n : Nat) : Prop := h * l * 2 ^ n ≤ 2 ^ 127 ∧ (n = 0 → h * l ≤ 2 ^ 126) ∧ (1 ≤ n → l < h)
theorem euc_st {h l n : Nat} (e : eucI h l n) (hl : 0 < l) : eucI l (h % l) (n + 1) := by
  obtain ⟨e1, e2, e3⟩ := e
  have hm : h % l < l := Nat.mod_lt _ hl
  refine ⟨?_, fun z => absurd z (by omega), fun _ => hm⟩
  by_cases n0 : n = 0
  · subst n0
    have q := e2 rfl
    have q1 : h % l ≤ h := Nat.mod_le _ _
    have q2 : l * (h % l) ≤ l * h := Nat.mul_le_mul_left _ q1
    rw [Nat.mul_comm l h] at q2
    show l * (h % l) * 2 ^ 1 ≤ 2 ^ 127
    have q3 : (2 : Nat) ^ 127 = 2 ^ 126 * 2 ^ 1 := by rw [← Nat.pow_add]
    rw [q3]
    exact Nat.mul_le_mul_right _ (Nat.le_trans q2 q)
  · have hlt := e3 (by omega)
    have d := Nat.div_add_mod h l
    have dpos : 1 ≤ h / l := Nat.div_pos (Nat.le_of_lt hlt) hl
    have dl : l * 1 ≤ l * (h / l) := Nat.mul_le_mul_left _ dpos
    have two : 2 * (h % l) ≤ h := by omega
    have q2 : l * (2 * (h % l)) ≤ l * h := Nat.mul_le_mul_left _ two
    rw [Nat.mul_comm l h] at q2
    have q3 : l * (h % l) * 2 ^ (n + 1) = l * (2 * (h % l)) * 2 ^ n := by
      rw [Nat.pow_succ, Nat.mul_comm (2 ^ n) 2, ← Nat.mul_assoc, Nat.mul_assoc l, Nat.mul_comm (h % l) 2]
    rw [q3]
    exact Nat.le_trans (Nat.mul_le_mul_right _ q2) e1
theorem euc_end {h l n : Nat} (e : eucI h l n) (hn : 128 ≤ n) : l = 0 := by
  obtain ⟨e1, _, e3⟩ := e
  have hlt := e3 (by omega)
  rcases Nat.eq_zero_or_pos l with z | z
  · exact z
  · exfalso
    have p1 : 1 ≤ h * l := Nat.mul_pos (by omega) z
    have p2 : 1 * 2 ^ n ≤ h * l * 2 ^ n := Nat.mul_le_mul_right _ p1
    have p3 : (2 : Nat) ^ 128 ≤ 2 ^ n := Nat.pow_le_pow_right (by decide) hn
    have p4 : (2 : Nat) ^ 127 < 2 ^ 128 := Nat.pow_lt_pow_right (by decide) (by decide)
    omega
theorem euc_0 {a b : Int64} (a0 : 0 ≤ a.toInt) (b0 : 0 ≤ b.toInt) : eucI a.toInt.natAbs b.toInt.natAbs 0 := by
  have h1 := a.toInt_lt; have h2 := b.toInt_lt
  have x1 : a.toInt.natAbs ≤ 2 ^ 63 := by omega
  have x2 : b.toInt.natAbs ≤ 2 ^ 63 := by omega
  have m := Nat.mul_le_mul x1 x2
  have e : (2 : Nat) ^ 63 * 2 ^ 63 = 2 ^ 126 := by rw [← Nat.pow_add]
  rw [e] at m
  refine ⟨?_, fun _ => m, fun z => absurd z (by decide)⟩
  rw [Nat.pow_zero, Nat.mul_one]
  exact Nat.le_trans m (Nat.pow_le_pow_right (by decide) (by decide))
/-- the loop's facts: high, low of p, q behind n steps -/
def eucL (p q h l : Int64) (n : Nat) : Prop := 0 ≤ h.toInt ∧ 0 ≤ l.toInt ∧ Nat.gcd h.toInt.natAbs l.toInt.natAbs = Nat.gcd p.toInt.natAbs q.toInt.natAbs ∧ eucI h.toInt.natAbs l.toInt.natAbs n
theorem eucL_0 {p q : Int64} (p0 : 0 ≤ p.toInt) (q0 : 0 ≤ q.toInt) : eucL p q p q (Int32.toNatClampNeg 0) := by
  rw [show Int32.toNatClampNeg 0 = 0 from by decide]; exact ⟨p0, q0, rfl, euc_0 p0 q0⟩
theorem eucL_st {p q h l r : Int64} {i i' : Int32} (e : eucL p q h l i.toNatClampNeg) (hr : r = h - h / l * l) (hl : ¬ l = 0) (ei : i'.toInt = i.toInt + 1) (i0 : 0 ≤ i.toInt) : eucL p q l r i'.toNatClampNeg := by
  obtain ⟨e1, e2, e3, e4⟩ := e
  have l0 : l.toInt ≠ 0 := fun z => hl (Int64.toInt_inj.mp z)
  have hrE := i64_remE hr hl
  have hrn : r.toInt.natAbs = h.toInt.natAbs % l.toInt.natAbs := by rw [hrE, Int.natAbs_tmod]
  refine ⟨e2, gc_nn hr hl e1, gc_step hr hl e3, ?_⟩
  rw [nn_s ei i0, hrn]
  exact euc_st e4 (by omega)
theorem eucL_z {p q h l : Int64} {n : Nat} (e : eucL p q h l n) (hl : l = 0) : h.toInt.natAbs = Nat.gcd p.toInt.natAbs q.toInt.natAbs ∧ 0 ≤ h.toInt := by
  obtain ⟨e1, e2, e3, e4⟩ := e
  have z : l.toInt.natAbs = 0 := by rw [hl]; decide
  rw [z, Nat.gcd_zero_right] at e3
  exact ⟨e3, e1⟩
theorem eucL_n {p q h l : Int64} {i : Int32} (e : eucL p q h l i.toNatClampNeg) (hi : 200 ≤ i.toInt) : h.toInt.natAbs = Nat.gcd p.toInt.natAbs q.toInt.natAbs ∧ 0 ≤ h.toInt := by
  have e0 := nn_eq i
  have z := euc_end e.2.2.2 (by omega)
  exact eucL_z e (Int64.toInt_inj.mp (by show l.toInt = (0 : Int64).toInt; rw [show (0 : Int64).toInt = 0 by decide]; omega))
/-- u / l are the least numbers of p / q -/
def redR (p q u l : Int) : Prop := 1 ≤ l ∧ l ≤ q ∧ u * q = p * l ∧ u.natAbs ≤ p.natAbs
theorem red_of {p q g u l a : Int64} (ha : a.toInt.natAbs = p.toInt.natAbs) (hq : 1 ≤ q.toInt) (hg : g.toInt.natAbs = Nat.gcd a.toInt.natAbs q.toInt.natAbs ∧ 0 ≤ g.toInt) (hg1 : 1 ≤ g.toInt) (eu : u = p / g) (el : l = q / g) : redR p.toInt q.toInt u.toInt l.toInt := by
  obtain ⟨g1, g0⟩ := hg
  have dp : g.toInt ∣ p.toInt := by
    rw [← Int.natAbs_dvd_natAbs, g1, ← ha]; exact Nat.gcd_dvd_left _ _
  have dq : g.toInt ∣ q.toInt := by
    rw [← Int.natAbs_dvd_natAbs, g1]; exact Nat.gcd_dvd_right _ _
  have x1 := i64_ex eu hg1 dp
  have x2 := i64_ex el hg1 dq
  have l1 : 1 ≤ l.toInt := by
    have : 0 < l.toInt := Int.pos_of_mul_pos_left (by rw [x2]; omega) (show 0 < g.toInt by omega)
    omega
  have l2 : l.toInt * 1 ≤ l.toInt * g.toInt := Int.mul_le_mul_of_nonneg_left hg1 (by omega)
  refine ⟨l1, by omega, ?_, ?_⟩
  · rw [← x1, ← x2]; grind
  · rw [← x1, Int.natAbs_mul]; exact Nat.le_mul_of_pos_right _ (by omega)
/-- how far the RATES reach -/
def tI (f : Nat → Int32) : Nat → Int := fun i => (f i).toInt
def rcV (ra mk : Nat → Int) : Nat → Int
  | 0 => ra 0 * mk 0
  | i + 1 => rcV ra mk i + ra (i + 1) * (mk (i + 1) - mk i)
theorem rcV_i {ra mk : Nat → Int} (i : Nat) : rcV ra mk i = wfr (rcV ra mk) i + ra i * (mk i - wfr mk i) := by
  cases i with
  | zero => show ra 0 * mk 0 = 0 + ra 0 * (mk 0 - 0); rw [Int.zero_add, Int.sub_zero]
  | succ k => rfl
theorem rcV_two {ra ra' mk mk' : Nat → Int} {rt : Nat} (hr : ∀ i : Nat, i < rt → ra i = ra' i) (hm : ∀ i : Nat, i + 1 < rt → mk i = mk' i) : ∀ i : Nat, i + 1 < rt → rcV ra mk i = rcV ra' mk' i
  | 0, h => by show ra 0 * mk 0 = ra' 0 * mk' 0; rw [hr 0 (by omega), hm 0 h]
  | i + 1, h => by
    show rcV ra mk i + ra (i + 1) * (mk (i + 1) - mk i) = rcV ra' mk' i + ra' (i + 1) * (mk' (i + 1) - mk' i)
    rw [rcV_two hr hm i (by omega), hr (i + 1) (by omega), hm (i + 1) h, hm i (by omega)]
theorem fsm_keep {rt : Nat} {ra mk : Nat → Int32} {w : Int32} {p : Int32 × Int32} {i : Nat} (h : fsm rt ra mk w i = p) (ht : fto rt mk w i = p.2) : fsm rt ra mk w (i + 1) = p := by
  rw [fsm, h, ht, if_neg (Int.lt_irrefl _)]
theorem fel_mk0 {rt : Nat} {ra mk : Nat → Int32} (h : mkR rt mk) (h2 : 2 ≤ rt) (b : iv (ra 0) 0 5) (m : (mk 0).toInt ≤ 99) : (felM rt ra mk (mk 0)).toInt = (ra 0).toInt * (mk 0).toInt := by
  obtain ⟨h0, h1, h3⟩ := h
  have g0 := h0 h2
  have e0 : fto rt mk (mk 0) 0 = mk 0 := by unfold fto; split <;> rfl
  have e1 : ∀ i : Nat, 1 ≤ i → i < rt → fto rt mk (mk 0) i = mk 0 := by
    intro i hi hr
    unfold fto
    rw [if_neg]
    rintro ⟨q1, q2⟩
    have : i = 1 := by omega
    subst this
    have := h1 (by omega)
    omega
  have s1 : fsm rt ra mk (mk 0) 1 = (0 + ra 0 * (mk 0 - 0), mk 0) := by
    rw [fsm, e0]
    show (if (0 : Int32).toInt < (mk 0).toInt then (0 : Int32) + ra 0 * (mk 0 - 0) else 0, mk 0) = _
    rw [if_pos (by rw [show (0 : Int32).toInt = 0 by decide]; omega)]
  have s2 : fsm rt ra mk (mk 0) 2 = (0 + ra 0 * (mk 0 - 0), mk 0) := fsm_keep s1 (e1 1 (Nat.le_refl _) (by omega))
  have sz : fsm rt ra mk (mk 0) rt = (0 + ra 0 * (mk 0 - 0), mk 0) := by
    by_cases r3 : rt = 3
    · have := fsm_keep s2 (e1 2 (by omega) (by omega)); rw [r3] at this ⊢; exact this
    · have : rt = 2 := by omega
      rw [this] at s2 ⊢; exact s2
  unfold felM
  rw [sz]
  show ((0 : Int32) + ra 0 * (mk 0 - 0)).toInt = _
  have z := b.u
  have d : (mk 0 - 0 : Int32).toInt = (mk 0).toInt - 0 := i32_sub (x := mk 0 - 0) rfl rfl (by decide) (by omega) (by omega)
  have p := i32_mulv (x := ra 0 * (mk 0 - 0)) rfl rfl d (b := 5) (d := 99) z.1 z.2 (by omega) (by omega) (by decide)
  have p2 := i32_mul (x := ra 0 * (mk 0 - 0)) rfl rfl d (by have := Int.mul_nonneg z.1 (show 0 ≤ (mk 0).toInt - 0 by omega); omega) (by have := Int.mul_le_mul_of_nonneg_right z.2 (show 0 ≤ (mk 0).toInt - 0 by omega); omega)
  have s := i32_add (x := (0 : Int32) + ra 0 * (mk 0 - 0)) rfl (show (0 : Int32).toInt = 0 by decide) rfl (by omega) (by omega)
  rw [s, p2, Int.sub_zero, Int.zero_add]
theorem fel_mk1 {rt : Nat} {ra mk : Nat → Int32} (h : mkR rt mk) (h2 : 3 ≤ rt) (b : iv (ra 0) 0 5) (b1 : iv (ra 1) 0 5) (m : (mk 1).toInt ≤ 99) : (felM rt ra mk (mk 1)).toInt = (ra 0).toInt * (mk 0).toInt + (ra 1).toInt * ((mk 1).toInt - (mk 0).toInt) := by
  obtain ⟨h0, h1, h3⟩ := h
  have g0 := h0 (by omega)
  have g1 := h1 h2
  have r3 : rt = 3 := by omega
  subst r3
  have e0 : fto 3 mk (mk 1) 0 = mk 0 := by unfold fto; rw [if_pos ⟨by decide, g1⟩]
  have e1 : fto 3 mk (mk 1) 1 = mk 1 := by unfold fto; split <;> rfl
  have e2 : fto 3 mk (mk 1) 2 = mk 1 := by unfold fto; rw [if_neg (fun q => absurd q.1 (by decide))]
  have s1 : fsm 3 ra mk (mk 1) 1 = (0 + ra 0 * (mk 0 - 0), mk 0) := by
    rw [fsm, e0]
    show (if (0 : Int32).toInt < (mk 0).toInt then (0 : Int32) + ra 0 * (mk 0 - 0) else 0, mk 0) = _
    rw [if_pos (by rw [show (0 : Int32).toInt = 0 by decide]; omega)]
  have s2 : fsm 3 ra mk (mk 1) 2 = (0 + ra 0 * (mk 0 - 0) + ra 1 * (mk 1 - mk 0), mk 1) := by
    rw [fsm, e1, s1]
    show (if (mk 0).toInt < (mk 1).toInt then (0 + ra 0 * (mk 0 - 0)) + ra 1 * (mk 1 - mk 0) else 0 + ra 0 * (mk 0 - 0), mk 1) = _
    rw [if_pos g1]
  have s3 : fsm 3 ra mk (mk 1) 3 = (0 + ra 0 * (mk 0 - 0) + ra 1 * (mk 1 - mk 0), mk 1) := fsm_keep s2 e2
  unfold felM
  rw [s3]
  show ((0 : Int32) + ra 0 * (mk 0 - 0) + ra 1 * (mk 1 - mk 0)).toInt = _
  have z := b.u
  have y := b1.u
  have d : (mk 0 - 0 : Int32).toInt = (mk 0).toInt - 0 := i32_sub (x := mk 0 - 0) rfl rfl (by decide) (by omega) (by omega)
  have d1 : (mk 1 - mk 0 : Int32).toInt = (mk 1).toInt - (mk 0).toInt := i32_sub (x := mk 1 - mk 0) rfl rfl rfl (by omega) (by omega)
  have u0 : 0 ≤ (ra 0).toInt * ((mk 0).toInt - 0) := Int.mul_nonneg z.1 (by omega)
  have u1 : (ra 0).toInt * ((mk 0).toInt - 0) ≤ 5 * ((mk 0).toInt - 0) := Int.mul_le_mul_of_nonneg_right z.2 (by omega)
  have v0 : 0 ≤ (ra 1).toInt * ((mk 1).toInt - (mk 0).toInt) := Int.mul_nonneg y.1 (by omega)
  have v1 : (ra 1).toInt * ((mk 1).toInt - (mk 0).toInt) ≤ 5 * ((mk 1).toInt - (mk 0).toInt) := Int.mul_le_mul_of_nonneg_right y.2 (by omega)
  have p2 := i32_mul (x := ra 0 * (mk 0 - 0)) rfl rfl d (by omega) (by omega)
  have p3 := i32_mul (x := ra 1 * (mk 1 - mk 0)) rfl rfl d1 (by omega) (by omega)
  have s := i32_add (x := (0 : Int32) + ra 0 * (mk 0 - 0)) rfl (show (0 : Int32).toInt = 0 by decide) p2 (by omega) (by omega)
  have s' := i32_add (x := (0 : Int32) + ra 0 * (mk 0 - 0) + ra 1 * (mk 1 - mk 0)) rfl s p3 (by omega) (by omega)
  rw [s', Int.sub_zero, Int.zero_add]
/-- FEELING of a MARK is how far its RATE reaches -/
theorem fel_rc {rt : Nat} {ra mk : Nat → Int32} (h : mkR rt mk) (b : ivf ra 0 5) (m : ivf mk 0 99) : ∀ i : Nat, i + 1 < rt → (felM rt ra mk (mk i)).toInt = rcV (tI ra) (tI mk) i := by
  intro i hi
  have h3 := h.2.2
  have q : i = 0 ∨ i = 1 := by omega
  rcases q with q | q
  · subst q; exact fel_mk0 h (by omega) (b 0) (m 0).2
  · subst q; exact fel_mk1 h (by omega) (b 0) (b 1) (m 1).2
theorem rc_up {rt : Nat} {ra mk : Nat → Int32} (h : mkR rt mk) (b : ivf ra 0 5) : ∀ i j : Nat, i ≤ j → j + 1 < rt → rcV (tI ra) (tI mk) i ≤ rcV (tI ra) (tI mk) j := by
  intro i j hij hj
  obtain ⟨h0, h1, h3⟩ := h
  have q : i = j ∨ (i = 0 ∧ j = 1) := by omega
  rcases q with q | ⟨q1, q2⟩
  · rw [q]; exact Int.le_refl _
  · subst q1; subst q2
    have g := h1 (by omega)
    show rcV (tI ra) (tI mk) 0 ≤ rcV (tI ra) (tI mk) 0 + tI ra (0 + 1) * (tI mk (0 + 1) - tI mk 0)
    have : 0 ≤ tI ra (0 + 1) * (tI mk (0 + 1) - tI mk 0) := Int.mul_nonneg (b 1).1 (by show 0 ≤ (mk 1).toInt - (mk 0).toInt; omega)
    omega
theorem abs_n {x y : Int64} (e : y = if 0 < x then x else -x) (h : -9000000000000000000 ≤ x.toInt) : y.toInt.natAbs = x.toInt.natAbs ∧ 0 ≤ y.toInt := by
  have b1 := x.toInt_lt
  by_cases c : 0 < x
  · rw [if_pos c] at e
    have := i64_lt c (show (0 : Int64).toInt = 0 by decide) rfl
    rw [e]; exact ⟨rfl, by omega⟩
  · rw [if_neg c] at e
    have := i64_le (Int64.not_lt.mp c) rfl (show (0 : Int64).toInt = 0 by decide)
    have z : y.toInt = -x.toInt := by rw [e, Int64.toInt_neg]; exact i64_bm (by omega) (by omega)
    rw [z, Int.natAbs_neg]; exact ⟨rfl, by omega⟩
theorem gcd_1 {a q g : Int64} (hg : g.toInt.natAbs = Nat.gcd a.toInt.natAbs q.toInt.natAbs ∧ 0 ≤ g.toInt) (hq : 1 ≤ q.toInt) : 1 ≤ g.toInt := by
  have := Nat.gcd_pos_of_pos_right a.toInt.natAbs (show 0 < q.toInt.natAbs by omega)
  omega
/-- what is paid in the mean: the wage of a FEELING u / l in p of W ways, r more in all -/
def mnQ (Y : Int → Int → Int → Int → Prop) (u l W p r U L : Int) : Prop := ∃ wu wl : Int, Y u l wu wl ∧ 0 < wl ∧ U * (W * wl) = (p * wu + r * wl) * L
theorem mn_of {Y : Int → Int → Int → Int → Prop} {u l W p r wu wl U L : Int} (hW : 0 < W) (hY : Y u l wu wl) (hw : 0 < wl) (h : redR (p * wu + r * wl) (W * wl) U L) : mnQ Y u l W p r U L := ⟨wu, wl, hY, hw, h.2.2.1⟩
theorem cst_of {P : Nat → Prop} {T M : Nat → Int} {Y : Int → Int → Int → Int → Prop} {fl lu ll W p r U L : Int} (hl : lowI P T M 0 lu ll) (hm : mnQ Y (fl * ll + lu) ll W p r U L) (hL : 0 < L) : cstQ (lowR P T (fun j => M j + T j * fl) fl) Y W p r U L := by
  obtain ⟨wu, wl, m1, m2, m3⟩ := hm
  have h1 := lowR_of hl
  refine ⟨hL, fl * ll + lu, ll, wu, wl, ?_, h1.1, m1, m2, m3⟩
  rw [Int.add_comm]
  exact lowR_sh.mpr h1
theorem cst_add {X : Int → Int → Prop} {Y : Int → Int → Int → Int → Prop} {W p r d u l U L : Int} (hW : 0 < W) (h : cstQ X Y W p r u l) (hr : redR (u * W + d * l) (l * W) U L) : cstQ X Y W p (r + d) U L := by
  obtain ⟨x0, fu, fl, wu, wl, x1, x2, x3, x4, x5⟩ := h
  obtain ⟨r1, r2, r3, _⟩ := hr
  refine ⟨by omega, fu, fl, wu, wl, x1, x2, x3, x4, ?_⟩
  have hp : 0 < l * W := Int.mul_pos x0 hW
  refine Int.eq_of_mul_eq_mul_right (Int.ne_of_gt hp) ?_
  have y1 : U * (W * wl) * (l * W) = U * (l * W) * (W * wl) := by grind
  have y2 : (u * W + d * l) * L * (W * wl) = (u * (W * wl)) * W * L + d * l * L * (W * wl) := by grind
  rw [y1, r3, y2, x5]
  grind
/-- the wage, as the class counts it -/
theorem wgA_of {ra mk fl : Nat → Int} {u l wu wl N D : Int} {i : Nat} (hN : N = u - wfr fl i * l + wfr mk i * ra i * l) (hD : D = ra i * l) (h : redR N D wu wl) : wgA ra mk fl u l wu wl i := by
  obtain ⟨r1, r2, r3, _⟩ := h
  refine ⟨by omega, ?_⟩
  have e1 : wu * (l * ra i) = wu * D := by rw [hD, Int.mul_comm l]
  rw [e1, r3, hN]
  grind
theorem rc_b {rt : Nat} {ra mk : Nat → Int32} (h : mkR rt mk) (b : ivf ra 0 5) (m : ivf mk 0 99) : ∀ i : Nat, i + 1 < rt → 0 ≤ rcV (tI ra) (tI mk) i ∧ rcV (tI ra) (tI mk) i ≤ 495 := by
  intro i hi
  obtain ⟨h0, h1, h3⟩ := h
  have q : i = 0 ∨ i = 1 := by omega
  have z := (b 0).u; have y := (b 1).u; have x := (m 0).u; have w := (m 1).u
  have a0 : 0 ≤ (ra 0).toInt * (mk 0).toInt := Int.mul_nonneg z.1 x.1
  have a1 : (ra 0).toInt * (mk 0).toInt ≤ 5 * (mk 0).toInt := Int.mul_le_mul_of_nonneg_right z.2 x.1
  rcases q with q | q
  · subst q
    show 0 ≤ (ra 0).toInt * (mk 0).toInt ∧ (ra 0).toInt * (mk 0).toInt ≤ 495
    omega
  · subst q
    have g := h1 (by omega)
    show 0 ≤ (ra 0).toInt * (mk 0).toInt + (ra 1).toInt * ((mk 1).toInt - (mk 0).toInt) ∧ (ra 0).toInt * (mk 0).toInt + (ra 1).toInt * ((mk 1).toInt - (mk 0).toInt) ≤ 495
    have c0 : 0 ≤ (ra 1).toInt * ((mk 1).toInt - (mk 0).toInt) := Int.mul_nonneg y.1 (by omega)
    have c1 : (ra 1).toInt * ((mk 1).toInt - (mk 0).toInt) ≤ 5 * ((mk 1).toInt - (mk 0).toInt) := Int.mul_le_mul_of_nonneg_right y.2 (by omega)
    omega
