/-! what the walks of BAR and WATCH want -/
theorem rp_law {rt rt' a b c : Int32} {fr : Nat → Int32} (h6 : rt = rt') (t3 : rt.toInt ≤ 3) (hr : rtE rt fr a b c) (hk : (2 ≤ rt'.toInt → 1 ≤ b.toInt) ∧ (3 ≤ rt'.toInt → 1 ≤ c.toInt)) (ha : 1 ≤ a.toInt) : ∀ i : Nat, i < rt.toNatClampNeg → 1 ≤ (fr i).toInt := by
  subst h6
  have e := nn_eq rt
  intro i hi
  have q : i = 0 ∨ i = 1 ∨ i = 2 := by omega
  rcases q with q | q | q
  · subst q; rw [hr.1 (by omega)]; exact ha
  · subst q; rw [hr.2.1 (by omega)]; exact hk.1 (by omega)
  · subst q; rw [hr.2.2 (by omega)]; exact hk.2 (by omega)
theorem rp_mod {rt a b c d e0 f0 : Int32} (t3 : rt.toInt ≤ 3) (hk : (2 ≤ rt.toInt → 1 ≤ b.toInt) ∧ (3 ≤ rt.toInt → 1 ≤ c.toInt)) (ha : 1 ≤ a.toInt) : ∀ i : Nat, i < rt.toNatClampNeg → 1 ≤ (lf [a, b, c, d, e0, f0] i).toInt := by
  have e := nn_eq rt
  intro i hi
  have q : i = 0 ∨ i = 1 ∨ i = 2 := by omega
  rcases q with q | q | q
  · subst q; exact ha
  · subst q; exact hk.1 (by omega)
  · subst q; exact hk.2 (by omega)
theorem wfr_0 {f : Nat → Int} : (0 : Int64).toInt = wfr f (Int32.toNatClampNeg 0) := by
  rw [show Int32.toNatClampNeg 0 = 0 from by decide, show (0 : Int64).toInt = 0 from by decide]; rfl
theorem wfr_s {f : Nat → Int} {i i' : Int32} {x : Int} (h : x = f i.toNatClampNeg) (e : i'.toInt = i.toInt + 1) (i0 : 0 ≤ i.toInt) : x = wfr f i'.toNatClampNeg := by
  rw [nn_s e i0]; unfold wfr; rw [if_neg (by omega)]; exact h
theorem wo_rc {ra mk : Nat → Int32} {i x m : Int32} {fr0 fe reach : Int64} (h1 : fr0.toInt = wfr (tI mk) i.toNatClampNeg) (h2 : fe.toInt = wfr (rcV (tI ra) (tI mk)) i.toNatClampNeg) (ex : x = ra i.toNatClampNeg) (em : m = mk i.toNatClampNeg) (e : reach.toInt = fe.toInt + x.toInt * (m.toInt - fr0.toInt)) : reach.toInt = rcV (tI ra) (tI mk) i.toNatClampNeg := by
  rw [rcV_i, ← h1, ← h2, e, ex, em]; rfl
theorem wo_lo {f : Nat → Int} {i i' : Int32} {p0 p1 y reach : Int} (hr : reach = f i.toNatClampNeg) (hy : y = reach * p1) (hc : y < p0) (e : i'.toInt = i.toInt + 1) (i0 : 0 ≤ i.toInt) : i'.toInt = 0 ∨ p1 * f (i'.toNatClampNeg - 1) < p0 := by
  refine Or.inr ?_
  rw [nn_s e i0]
  show p1 * f i.toNatClampNeg < p0
  rw [← hr, Int.mul_comm, ← hy]; exact hc
theorem wo_hi {f : Nat → Int} {i : Int32} {p0 p1 y reach : Int} (hr : reach = f i.toNatClampNeg) (hy : y = reach * p1) (hc : p0 ≤ y) : p0 ≤ p1 * f i.toNatClampNeg := by
  rw [← hr, Int.mul_comm, ← hy]; exact hc
/-- the wage's numbers -/
theorem wo_end {ra mk : Nat → Int32} {rt i x : Int32} {fr0 fe p0 p1 N D u l : Int64} (hp1 : 1 ≤ p1.toInt) (hp2 : p1.toInt ≤ 1600) (hq1 : -20000000 ≤ p0.toInt) (hq2 : p0.toInt ≤ 20000000) (hR : mkR rt.toNatClampNeg mk) (hra : ivf ra 0 5) (hmk : ivf mk 0 99) (hrp : ∀ i : Nat, i < rt.toNatClampNeg → 1 ≤ (ra i).toInt) (i0 : 0 ≤ i.toInt) (hi : i.toInt + 1 ≤ rt.toInt) (h1 : fr0.toInt = wfr (tI mk) i.toNatClampNeg) (h2 : fe.toInt = wfr (rcV (tI ra) (tI mk)) i.toNatClampNeg) (hlo : i.toInt = 0 ∨ p1.toInt * rcV (tI ra) (tI mk) (i.toNatClampNeg - 1) < p0.toInt) (hhi : i.toInt + 1 = rt.toInt ∨ p0.toInt ≤ p1.toInt * rcV (tI ra) (tI mk) i.toNatClampNeg) (ex : x = ra i.toNatClampNeg) (eN : N.toInt = p0.toInt - fe.toInt * p1.toInt + fr0.toInt * x.toInt * p1.toInt) (eD : D.toInt = x.toInt * p1.toInt) (hb : -9000000000000000000 ≤ N.toInt → 1 ≤ D.toInt → redR N.toInt D.toInt u.toInt l.toInt) : wgR rt.toNatClampNeg (tI ra) (tI mk) (rcV (tI ra) (tI mk)) p0.toInt p1.toInt u.toInt l.toInt ∧ 1 ≤ l.toInt ∧ l.toInt ≤ 8000 ∧ -30000000 ≤ u.toInt ∧ u.toInt ≤ 30000000 := by
  have e1 := nn_eq i; have e2 := nn_eq rt
  have hx1 : 1 ≤ x.toInt := by rw [ex]; exact hrp _ (by omega)
  have hx2 : x.toInt ≤ 5 := by rw [ex]; exact (hra _).2
  have hf : 0 ≤ fr0.toInt ∧ fr0.toInt ≤ 99 := by
    rw [h1]; unfold wfr; split
    · decide
    · exact ⟨(hmk _).1, (hmk _).2⟩
  have hg : 0 ≤ fe.toInt ∧ fe.toInt ≤ 495 := by
    rw [h2]; unfold wfr; split
    · decide
    · exact rc_b hR hra hmk _ (by omega)
  have d1 : 1 * 1 ≤ x.toInt * p1.toInt := Int.mul_le_mul hx1 hp1 (by decide) (by omega)
  have d2 : x.toInt * p1.toInt ≤ 5 * 1600 := Int.mul_le_mul hx2 hp2 (by omega) (by decide)
  have f1 : 0 ≤ fe.toInt * p1.toInt := Int.mul_nonneg hg.1 (by omega)
  have f2 : fe.toInt * p1.toInt ≤ 495 * 1600 := Int.mul_le_mul hg.2 hp2 (by omega) (by decide)
  have g0 : 0 ≤ fr0.toInt * x.toInt := Int.mul_nonneg hf.1 (by omega)
  have g1 : fr0.toInt * x.toInt ≤ 99 * 5 := Int.mul_le_mul hf.2 hx2 (by omega) (by decide)
  have g2 : 0 ≤ fr0.toInt * x.toInt * p1.toInt := Int.mul_nonneg g0 (by omega)
  have g3 : fr0.toInt * x.toInt * p1.toInt ≤ 495 * 1600 := Int.mul_le_mul g1 hp2 (by omega) (by decide)
  have r := hb (by omega) (by omega)
  obtain ⟨r1, r2, r3, r4⟩ := id r
  refine ⟨⟨i.toNatClampNeg, by omega, ?_, ?_, wgA_of (N := N.toInt) (D := D.toInt) ?_ ?_ r⟩, r1, by omega, by omega, by omega⟩
  · rcases hlo with z | z
    · exact Or.inl (by omega)
    · exact Or.inr z
  · rcases hhi with z | z
    · exact Or.inl (by omega)
    · exact Or.inr z
  · rw [← h1, ← h2, eN, ex]; rfl
  · rw [eD, ex]; rfl
/-- what is paid in the mean: from the wage's numbers -/
theorem mi_end {Y : Int → Int → Int → Int → Prop} {u l wu wl P A ways all least U L : Int} (hw0 : 0 ≤ ways) (hw1 : ways ≤ 1600) (ha0 : 1 ≤ all) (ha1 : all ≤ 100) (hl0 : 0 ≤ least) (hl1 : least ≤ 99) (hy : Y u l wu wl ∧ 1 ≤ wl ∧ wl ≤ 8000 ∧ -30000000 ≤ wu ∧ wu ≤ 30000000) (eP : P = ways * wu + (all - ways) * least * wl) (eA : A = all * wl) (hb : -9000000000000000000 ≤ P → 1 ≤ A → redR P A U L) : mnQ Y u l all ways ((all - ways) * least) U L ∧ 1 ≤ L ∧ L ≤ 800000 ∧ -60000000000 ≤ U ∧ U ≤ 60000000000 := by
  obtain ⟨y1, y2, y3, y4, y5⟩ := hy
  have a1 : ways * wu ≤ ways * 30000000 := Int.mul_le_mul_of_nonneg_left y5 hw0
  have a2 : ways * -30000000 ≤ ways * wu := Int.mul_le_mul_of_nonneg_left y4 hw0
  have b1 : (all - ways) * least ≤ 100 * 99 := by
    by_cases q : 0 ≤ all - ways
    · exact Int.mul_le_mul (by omega) hl1 hl0 (by decide)
    · have := Int.mul_nonneg (show 0 ≤ ways - all by omega) hl0
      have e : (ways - all) * least = -((all - ways) * least) := by rw [← Int.neg_mul]; congr 1; omega
      omega
  have b2 : -(1600 * 99) ≤ (all - ways) * least := by
    have z : (ways - all) * least ≤ 1600 * 99 := by
      by_cases q : 0 ≤ ways - all
      · exact Int.mul_le_mul (by omega) hl1 hl0 (by decide)
      · have := Int.mul_nonneg (show 0 ≤ all - ways by omega) hl0
        have e : (all - ways) * least = -((ways - all) * least) := by rw [← Int.neg_mul]; congr 1; omega
        omega
    have e : (ways - all) * least = -((all - ways) * least) := by rw [← Int.neg_mul]; congr 1; omega
    omega
  have c1 : (all - ways) * least * wl ≤ 9900 * wl := Int.mul_le_mul_of_nonneg_right (by omega) (by omega)
  have c2 : -158400 * wl ≤ (all - ways) * least * wl := Int.mul_le_mul_of_nonneg_right (by omega) (by omega)
  have d1 : 1 * 1 ≤ all * wl := Int.mul_le_mul ha0 y2 (by decide) (by omega)
  have d2 : all * wl ≤ 100 * 8000 := Int.mul_le_mul ha1 y3 (by omega) (by decide)
  have r := hb (by omega) (by omega)
  obtain ⟨r1, r2, r3, r4⟩ := id r
  rw [eP, eA] at r
  exact ⟨mn_of (by omega) y1 (by omega) r, r1, by omega, by omega, by omega⟩
/-- one cost is as good as another for the same needs -/
theorem bq_uq {P : Nat → Prop} {T M : Nat → Int} {L : Int} {rt : Int32} {ra mk : Nat → Int32} {W p r a b c d : Int} (hW : 0 < W) (hR : mkR rt.toNatClampNeg mk) (hra : ivf ra 0 5) (hrp : ∀ i : Nat, i < rt.toNatClampNeg → 1 ≤ (ra i).toInt) (h : cstQ (lowR P T M L) (wgR rt.toNatClampNeg (tI ra) (tI mk) (rcV (tI ra) (tI mk))) W p r a b) (h' : cstQ (lowR P T M L) (wgR rt.toNatClampNeg (tI ra) (tI mk) (rcV (tI ra) (tI mk))) W p r c d) : a * d = c * b :=
  cstQ_uq hW (fun _ _ _ _ x y => lowR_uq x y) (fun _ _ _ _ _ _ _ _ h1 h2 h3 x y => wgR_uq (fun i hi => by have := hrp i hi; show 0 < (ra i).toInt; omega) (fun i j hij hj => rc_up hR hra i j hij hj) h1 h2 h3 x y) h h'
theorem ib_e {u1 l1 u2 l2 y1 y2 : Int64} (e1 : y1 = u1 * l2) (e2 : y2 = u2 * l1) (h : -700000000000 ≤ u1.toInt ∧ u1.toInt ≤ 700000000000 ∧ 1 ≤ l1.toInt ∧ l1.toInt ≤ 8000000 ∧ -700000000000 ≤ u2.toInt ∧ u2.toInt ≤ 700000000000 ∧ 1 ≤ l2.toInt ∧ l2.toInt ≤ 8000000) : y1.toInt = u1.toInt * l2.toInt ∧ y2.toInt = u2.toInt * l1.toInt := by
  obtain ⟨h1, h2, h3, h4, h5, h6, h7, h8⟩ := h
  exact ⟨i64_mulE (A := 700000000000) (B := 8000000) e1 (jv_self h1 h2) (jv_self (by omega) h8) (by decide), i64_mulE (A := 700000000000) (B := 8000000) e2 (jv_self h5 h6) (jv_self (by omega) h4) (by decide)⟩
theorem ad_e {up lo p0 p1 a1 a2 a3 a4 U L : Int64} (e1 : a1 = up * p1) (e2 : a2 = p0 * lo) (e3 : a3 = a1 + a2) (e4 : a4 = lo * p1) (h : -60000000000 ≤ up.toInt ∧ up.toInt ≤ 60000000000 ∧ 1 ≤ lo.toInt ∧ lo.toInt ≤ 800000 ∧ 0 ≤ p0.toInt ∧ p0.toInt ≤ 100000 ∧ 1 ≤ p1.toInt ∧ p1.toInt ≤ 10) (w : -9000000000000000000 ≤ a3.toInt → 1 ≤ a4.toInt → redR a3.toInt a4.toInt U.toInt L.toInt) : redR (up.toInt * p1.toInt + p0.toInt * lo.toInt) (lo.toInt * p1.toInt) U.toInt L.toInt := by
  obtain ⟨h1, h2, h3, h4, h5, h6, h7, h8⟩ := h
  have f1 := i64_mulE (A := 60000000000) (B := 10) e1 (jv_self h1 h2) (jv_self (by omega) h8) (by decide)
  have f2 := i64_mulE (A := 100000) (B := 800000) e2 (jv_self (by omega) h6) (jv_self (by omega) h4) (by decide)
  have f4 := i64_mulE (A := 800000) (B := 10) e4 (jv_self (by omega) h4) (jv_self (by omega) h8) (by decide)
  have b1 : up.toInt * p1.toInt ≤ 60000000000 * p1.toInt := Int.mul_le_mul_of_nonneg_right h2 (by omega)
  have b2 : -60000000000 * p1.toInt ≤ up.toInt * p1.toInt := Int.mul_le_mul_of_nonneg_right h1 (by omega)
  have b3 : 0 ≤ p0.toInt * lo.toInt := Int.mul_nonneg h5 (by omega)
  have b4 : p0.toInt * lo.toInt ≤ 100000 * 800000 := Int.mul_le_mul h6 h4 (by omega) (by decide)
  have b5 : 1 * 1 ≤ lo.toInt * p1.toInt := Int.mul_le_mul h3 h7 (by decide) (by omega)
  have f3 := i64_addE (a := -600000000000) (b := 600000000000) (c := 0) (d := 80000000000) e3 (jv_self (by omega) (by omega)) (jv_self (by omega) (by omega)) (by decide) (by decide)
  rw [f3, f1, f2, f4] at w
  exact w (by omega) (by omega)
section PICKI
variable {F : Nat → Prop} {Q : Nat → Int → Int → Prop} {s s' f : Int32} {k u l u' l' : Int}
theorem pick_0i (hs : s.toInt = 0) (hf : f.toInt = -1) : pickI F Q s.toNatClampNeg f.toInt u l := by
  have e := nn_eq s
  rw [show s.toNatClampNeg = 0 by omega, hf]; exact pick_0
theorem pick_ni (h : pickI F Q s.toNatClampNeg k u l) (hn : ¬ F s.toNatClampNeg) (es : s'.toInt = s.toInt + 1) (s0 : 0 ≤ s.toInt) : pickI F Q s'.toNatClampNeg k u l := by
  rw [nn_s es s0]; exact pick_n h hn
theorem pick_ti (hQ : ∀ (s : Nat) (a b : Int), Q s a b → 0 < b) (hU : ∀ (s : Nat) (a b c d : Int), Q s a b → Q s c d → a * d = c * b) (h : pickI F Q s.toNatClampNeg k u l) (hF : F s.toNatClampNeg) (hq : Q s.toNatClampNeg u' l') (hk : k = -1 ∨ u' * l < u * l') (es : s'.toInt = s.toInt + 1) (s0 : 0 ≤ s.toInt) : pickI F Q s'.toNatClampNeg s.toInt u' l' := by
  have z := pick_t hQ (fun s a b c d _ => hU s a b c d) h hF hq hk
  have e := nn_eq s
  rw [nn_s es s0]
  rw [show ((s.toNatClampNeg : Nat) : Int) = s.toInt by omega] at z
  exact z
theorem pick_si (hQ : ∀ (s : Nat) (a b : Int), Q s a b → 0 < b) (hU : ∀ (s : Nat) (a b c d : Int), Q s a b → Q s c d → a * d = c * b) (h : pickI F Q s.toNatClampNeg k u l) (hk : ¬ k = -1) (hq : Q s.toNatClampNeg u' l') (hle : u * l' ≤ u' * l) (es : s'.toInt = s.toInt + 1) (s0 : 0 ≤ s.toInt) : pickI F Q s'.toNatClampNeg k u l := by
  rw [nn_s es s0]; exact pick_s hQ (fun s a b c d _ => hU s a b c d) h hk hq hle
theorem pick_end {g : Int32} (h : pickI F Q s.toNatClampNeg k u l) (h1 : g.toInt ≤ s.toInt) (h2 : s.toInt ≤ g.toInt) : pickI F Q g.toNatClampNeg k u l := by
  have e1 := nn_eq s; have e2 := nn_eq g
  rw [show g.toNatClampNeg = s.toNatClampNeg by omega]; exact h
theorem pick_end1 {g : Int32} (h : pickI F Q s.toNatClampNeg k u l) (h1 : g.toInt + 1 ≤ s.toInt) (h2 : s.toInt ≤ g.toInt + 1) (g0 : 0 ≤ g.toInt) : pickI F Q (g.toNatClampNeg + 1) k u l := by
  have e1 := nn_eq s; have e2 := nn_eq g
  rw [show g.toNatClampNeg + 1 = s.toNatClampNeg by omega]; exact h
end PICKI
/-- WATCH: how often the price is felt -/
def twV (W q : Int) (a b : Nat) : Int := if b = a then W else q
theorem tw_y {W q : Int} {a b : Int32} (h : b.toInt = a.toInt) : W = twV W q a.toNatClampNeg b.toNatClampNeg := by unfold twV; rw [if_pos (nn_e h)]
theorem tw_n {W q : Int} {a b : Int32} (h : ¬ b.toInt = a.toInt) (a0 : 0 ≤ a.toInt) (b0 : 0 ≤ b.toInt) : q = twV W q a.toNatClampNeg b.toNatClampNeg := by unfold twV; rw [if_neg (nn_ne b0 a0 h)]
theorem wt_q {P : Nat → Prop} {T M : Nat → Int} {Y : Int → Int → Int → Int → Prop} {q p1 wh : Int32} {fl ll lu le : Int} {u0 l0 u l y : Int64} (q0 : 0 ≤ q.toInt) (q1 : q.toInt ≤ 10) (p0 : 0 ≤ p1.toInt) (p2 : p1.toInt ≤ 9999) (w0 : 2 ≤ wh.toInt) (w1 : wh.toInt ≤ 10) (hy : y.toInt = q.toInt * p1.toInt) (hl : lowI P T M 0 lu ll) (hm : mnQ Y (fl * ll + lu) ll wh.toInt wh.toInt ((wh.toInt - wh.toInt) * le) u0.toInt l0.toInt ∧ 1 ≤ l0.toInt ∧ l0.toInt ≤ 800000 ∧ -60000000000 ≤ u0.toInt ∧ u0.toInt ≤ 60000000000) (ha : -60000000000 ≤ u0.toInt ∧ u0.toInt ≤ 60000000000 ∧ 1 ≤ l0.toInt ∧ l0.toInt ≤ 800000 ∧ 0 ≤ y.toInt ∧ y.toInt ≤ 100000 ∧ 1 ≤ wh.toInt64.toInt ∧ wh.toInt64.toInt ≤ 10 → redR (u0.toInt * wh.toInt64.toInt + y.toInt * l0.toInt) (l0.toInt * wh.toInt64.toInt) u.toInt l.toInt) : cstQ (lowR P T (fun j => M j + T j * fl) fl) Y wh.toInt wh.toInt ((wh.toInt - wh.toInt) * le + ((q.toNatClampNeg : Nat) : Int) * p1.toInt) u.toInt l.toInt ∧ -700000000000 ≤ u.toInt ∧ u.toInt ≤ 700000000000 ∧ 1 ≤ l.toInt ∧ l.toInt ≤ 8000000 := by
  obtain ⟨m1, m2, m3, m4, m5⟩ := hm
  have e := nn_eq q
  have y0 : 0 ≤ q.toInt * p1.toInt := Int.mul_nonneg q0 p0
  have y1 : q.toInt * p1.toInt ≤ 10 * 9999 := Int.mul_le_mul q1 p2 p0 (by decide)
  rw [l_i] at ha
  have r := ha (by omega)
  have c := cst_of hl m1 (by omega)
  have b1 : u0.toInt * wh.toInt ≤ 60000000000 * wh.toInt := Int.mul_le_mul_of_nonneg_right m5 (by omega)
  have b2 : -60000000000 * wh.toInt ≤ u0.toInt * wh.toInt := Int.mul_le_mul_of_nonneg_right m4 (by omega)
  have b3 : 0 ≤ y.toInt * l0.toInt := Int.mul_nonneg (by omega) (by omega)
  have b4 : y.toInt * l0.toInt ≤ 99990 * 800000 := Int.mul_le_mul (by omega) m3 (by omega) (by decide)
  have b5 : l0.toInt * wh.toInt ≤ 800000 * 10 := Int.mul_le_mul m3 w1 (by omega) (by decide)
  have z := cst_add (d := y.toInt) (by omega) c r
  obtain ⟨r1, r2, r3, r4⟩ := r
  rw [hy] at z
  rw [show ((q.toNatClampNeg : Nat) : Int) = q.toInt by omega]
  exact ⟨z, by omega, by omega, r1, by omega⟩
theorem sq_c {a : Int} (h0 : 2 ≤ a) (h1 : a ≤ 10) : 4 ≤ a * a ∧ a * a ≤ 100 := by
  have m0 : 2 * 2 ≤ a * a := Int.mul_le_mul h0 h0 (by decide) (by omega)
  have m1 : a * a ≤ 10 * 10 := Int.mul_le_mul h1 h1 (by omega) (by decide)
  omega
theorem sq_d {a : Int} (h0 : 0 ≤ a) (h1 : a ≤ 40) : 0 ≤ a * a ∧ a * a ≤ 1600 := by
  have m0 : 0 ≤ a * a := Int.mul_nonneg h0 h0
  have m1 : a * a ≤ 40 * 40 := Int.mul_le_mul h1 h1 h0 (by decide)
  omega
/-- the reference's wage -/
theorem wM_end {rt : Int32} {ra mk : Nat → Int32} {p0 p1 N D b u l : Int64} {x : Int} (i : Nat) {f e : Int} (hi : (i : Int) + 1 ≤ rt.toInt) (hf : f = wfr (tI mk) i) (he : e = wfr (rcV (tI ra) (tI mk)) i) (hx : x = tI ra i) (x1 : 1 ≤ x) (hp : 1 ≤ p1.toInt) (hlo : i = 0 ∨ p1.toInt * rcV (tI ra) (tI mk) (i - 1) < p0.toInt) (hhi : (i : Int) + 1 = rt.toInt ∨ p0.toInt ≤ p1.toInt * rcV (tI ra) (tI mk) i) (eN : N.toInt = f * p1.toInt * x + p0.toInt - e * p1.toInt) (eD : D.toInt = p1.toInt * x) (hN : jv N (-808000000) 808000000) (g1 : b.toInt.natAbs = Nat.gcd N.toInt.natAbs D.toInt.natAbs) (g2 : N.toInt = -9223372036854775808 ∨ D.toInt < 0 ∨ 0 ≤ b.toInt) (eu : u = N / b) (el : l = D / b) (hm : mkR rt.toNatClampNeg mk) (hra : ivf ra 0 5) (hmk : ivf mk 0 99) (x5 : x ≤ 5) : wgR rt.toNatClampNeg (tI ra) (tI mk) (rcV (tI ra) (tI mk)) p0.toInt p1.toInt u.toInt l.toInt ∧ (-20000000 ≤ p0.toInt → p0.toInt ≤ 20000000 → p1.toInt ≤ 1600 → 1 ≤ l.toInt ∧ l.toInt ≤ 8000 ∧ -30000000 ≤ u.toInt ∧ u.toInt ≤ 30000000) := by
  have e2 := nn_eq rt
  have d1 : 1 * 1 ≤ p1.toInt * x := Int.mul_le_mul hp x1 (by decide) (by omega)
  have n1 := hN.1
  have b0 : 0 ≤ b.toInt := by
    rcases g2 with z | z | z
    · omega
    · omega
    · exact z
  have r := red_of (p := N) (q := D) (a := N) rfl (by omega) ⟨g1, b0⟩ (gcd_1 ⟨g1, b0⟩ (by omega)) eu el
  obtain ⟨r1, r2, r3, r4⟩ := id r
  refine ⟨⟨i, by omega, hlo, ?_, wgA_of (N := N.toInt) (D := D.toInt) ?_ ?_ r⟩, fun h1 h2 h3 => ?_⟩
  · rcases hhi with z | z
    · exact Or.inl (by omega)
    · exact Or.inr z
  · rw [eN, ← hf, ← he, ← hx]; grind
  · rw [eD, ← hx, Int.mul_comm]
  · have hff : 0 ≤ f ∧ f ≤ 99 := by
      rw [hf]; unfold wfr; split
      · decide
      · exact ⟨(hmk _).1, (hmk _).2⟩
    have hg : 0 ≤ e ∧ e ≤ 495 := by
      rw [he]; unfold wfr; split
      · decide
      · exact rc_b hm hra hmk _ (by omega)
    have d2 : p1.toInt * x ≤ 1600 * 5 := Int.mul_le_mul h3 x5 (by omega) (by decide)
    have f1 : 0 ≤ e * p1.toInt := Int.mul_nonneg hg.1 (by omega)
    have f2 : e * p1.toInt ≤ 495 * 1600 := Int.mul_le_mul hg.2 h3 (by omega) (by decide)
    have g0 : 0 ≤ f * p1.toInt := Int.mul_nonneg hff.1 (by omega)
    have g3 : f * p1.toInt ≤ 99 * 1600 := Int.mul_le_mul hff.2 h3 (by omega) (by decide)
    have g4 : 0 ≤ f * p1.toInt * x := Int.mul_nonneg g0 (by omega)
    have g5 : f * p1.toInt * x ≤ 158400 * 5 := Int.mul_le_mul (by omega) x5 (by omega) (by decide)
    omega
theorem ap_e2 {p0 p1 p2 p3 a b r : Int64} (e1 : a = p0 * p3) (e2 : b = p2 * p1) (e3 : r = a - b) : -100000000000 ≤ p0.toInt ∧ p0.toInt ≤ 100000000000 ∧ 0 ≤ p1.toInt ∧ p1.toInt ≤ 1000000 ∧ -100000000000 ≤ p2.toInt ∧ p2.toInt ≤ 100000000000 ∧ 0 ≤ p3.toInt ∧ p3.toInt ≤ 1000000 → r.toInt = p0.toInt * p3.toInt - p2.toInt * p1.toInt := by
  rintro ⟨a1, a2, b1, b2, c1, c2, d1, d2⟩
  have x1 := i64_mulE (A := 100000000000) (B := 1000000) e1 (jv_self a1 a2) (jv_self (by omega) d2) (by decide)
  have x2 := i64_mulE (A := 100000000000) (B := 1000000) e2 (jv_self c1 c2) (jv_self (by omega) b2) (by decide)
  have y1 : jv a (-100000000000000000) 100000000000000000 := jv.mula (B := 100000000000) (D := 1000000) e1 (jv_self a1 a2) (jv_self (by omega) d2) (by decide) (by decide) (by decide) (by decide) (by decide) (by decide)
  have y2 : jv b (-100000000000000000) 100000000000000000 := jv.mula (B := 100000000000) (D := 1000000) e2 (jv_self c1 c2) (jv_self (by omega) b2) (by decide) (by decide) (by decide) (by decide) (by decide) (by decide)
  rw [i64_subE e3 y1 y2 (by decide) (by decide), x1, x2]
theorem brM_o {co : Nat → Int32} {cf : Nat → Int} {a b x z k : Int32} {ow fl W P Q F y1 y2 : Int} (h : ¬ b.toInt = a.toInt) (a0 : 0 ≤ a.toInt) (b0 : 0 ≤ b.toInt) (hp : P = cf a.toNatClampNeg) (hq : Q = cf b.toNatClampNeg) (ex : x = co a.toNatClampNeg) (ez : z = co b.toNatClampNeg) (tk : k.toInt = x.toInt - z.toInt) (hf : F = fl) (e1 : y1 = P - Q) (e2 : y2 = W * k.toInt + (P - Q) * F) : y1 = neT cf a.toNatClampNeg 1 b.toNatClampNeg ∧ y2 = (fun j => neM co ow fl W a.toNatClampNeg j + neT cf a.toNatClampNeg 1 j * fl) b.toNatClampNeg := by
  have n := nn_ne b0 a0 h
  have t : y1 = neT cf a.toNatClampNeg 1 b.toNatClampNeg := by unfold neT; rw [if_neg n, ← hp, ← hq, Int.mul_one]; exact e1
  refine ⟨t, ?_⟩
  show y2 = neM co ow fl W a.toNatClampNeg b.toNatClampNeg + neT cf a.toNatClampNeg 1 b.toNatClampNeg * fl
  rw [← t, e1, e2, ← hf]
  unfold neM lakV
  rw [if_neg n, ← ex, ← ez, tk]
theorem brM_a {co : Nat → Int32} {cf : Nat → Int} {a x o k : Int32} {fl W P F y1 y2 : Int} (hp : P = cf a.toNatClampNeg) (ex : x = co a.toNatClampNeg) (tk : k.toInt = x.toInt + o.toInt) (hf : F = fl) (e1 : y1 = P) (e2 : y2 = W * k.toInt - (W - P) * F) : y1 = neT cf a.toNatClampNeg 1 a.toNatClampNeg ∧ y2 = (fun j => neM co o.toInt fl W a.toNatClampNeg j + neT cf a.toNatClampNeg 1 j * fl) a.toNatClampNeg := by
  have t : y1 = neT cf a.toNatClampNeg 1 a.toNatClampNeg := by unfold neT; rw [if_pos rfl, ← hp, Int.sub_zero, Int.mul_one]; exact e1
  refine ⟨t, ?_⟩
  show y2 = neM co o.toInt fl W a.toNatClampNeg a.toNatClampNeg + neT cf a.toNatClampNeg 1 a.toNatClampNeg * fl
  rw [← t, e1, e2, ← hf]
  unfold neM lakV
  rw [if_pos rfl, ← ex, tk]
  grind
/-- the reference's cost -/
theorem cst_ref {P : Nat → Prop} {T M : Nat → Int} {Y : Int → Int → Int → Int → Prop} {fl lu ll wu wl W p r p' U L : Int} (hl : lowI P T M fl lu ll) (hY : Y lu ll wu wl) (hw : 1 ≤ wl) (hW : 0 < W) (hp : p = p') (eU : U = p * wu + r * wl) (eL : L = W * wl) : cstQ (lowR P T M fl) Y W p' r U L := by
  subst hp
  have h1 := lowR_of hl
  have : 0 < W * wl := Int.mul_pos hW (by omega)
  exact ⟨by omega, lu, ll, wu, wl, h1, h1.1, hY, by omega, by rw [eU, eL]⟩
/-- WATCH as the reference tells its needs -/
def twM (q : Int) (a b : Nat) : Int := if b = a then 1 else q
def mwM (co : Nat → Int32) (ow fl W q : Int) (a b : Nat) : Int := if b = a then (co a).toInt + ow else W * ((co a).toInt - (co b).toInt) + q * fl
theorem wtM_o {co : Nat → Int32} {a b q x z k : Int32} {ow fl W F y1 y2 : Int} (h : ¬ b.toInt = a.toInt) (a0 : 0 ≤ a.toInt) (b0 : 0 ≤ b.toInt) (q0 : 0 ≤ q.toInt) (ex : x = co a.toNatClampNeg) (ez : z = co b.toNatClampNeg) (tk : k.toInt = x.toInt - z.toInt) (hf : F = fl) (e1 : y1 = q.toInt) (e2 : y2 = W * k.toInt + q.toInt * F) : y1 = twM ((q.toNatClampNeg : Nat) : Int) a.toNatClampNeg b.toNatClampNeg ∧ y2 = mwM co ow fl W ((q.toNatClampNeg : Nat) : Int) a.toNatClampNeg b.toNatClampNeg := by
  have n := nn_ne b0 a0 h
  have e := nn_eq q
  have e3 : ((q.toNatClampNeg : Nat) : Int) = q.toInt := by omega
  unfold twM mwM
  rw [if_neg n, if_neg n, e3, e1, e2, ← ex, ← ez, tk, hf]
  exact ⟨rfl, rfl⟩
theorem wtM_a {co : Nat → Int32} {a x o k : Int32} {fl W q y2 : Int} (ex : x = co a.toNatClampNeg) (tk : k.toInt = x.toInt + o.toInt) (e2 : y2 = k.toInt) : (1 : Int64).toInt = twM q a.toNatClampNeg a.toNatClampNeg ∧ y2 = mwM co o.toInt fl W q a.toNatClampNeg a.toNatClampNeg := by
  unfold twM mwM
  rw [if_pos rfl, if_pos rfl, e2, tk, ex]
  exact ⟨by decide, rfl⟩
theorem wt_u {W wu wl p U le : Int} {n : Int32} (h0 : 0 ≤ n.toInt) (h : U = W * wu + n.toInt * p * wl) : U = W * wu + ((W - W) * le + ((n.toNatClampNeg : Nat) : Int) * p) * wl := by
  have e := nn_eq n
  rw [show ((n.toNatClampNeg : Nat) : Int) = n.toInt by omega, h, Int.sub_self, Int.zero_mul, Int.zero_add]
