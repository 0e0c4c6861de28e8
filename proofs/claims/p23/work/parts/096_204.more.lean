/-! further rows for the reference's walk -/
theorem gc_end {x y : Int64} {G : Nat} (h : Nat.gcd x.toInt.natAbs y.toInt.natAbs = G) (hy : y = 0) : x.toInt.natAbs = G := by
  rw [hy, show (0 : Int64).toInt = 0 by decide] at h
  rw [← h]; simp
theorem gc_z {r a b : Int64} (h : r.toInt.natAbs = Nat.gcd a.toInt.natAbs b.toInt.natAbs) : b = 0 ∨ ¬ r = 0 := by
  by_cases z : b = 0
  · exact Or.inl z
  · right
    intro q
    have hb : b.toInt ≠ 0 := fun y => z (Int64.toInt_inj.mp y)
    rw [q, show (0 : Int64).toInt = 0 by decide] at h
    have := Nat.gcd_pos_of_pos_right a.toInt.natAbs (show 0 < b.toInt.natAbs by omega)
    simp at h
    omega
theorem sg_of {a b c : Int64} {lo hi lo' hi' : Int} (h : a.toInt = -9223372036854775808 ∨ b.toInt < 0 ∨ 0 ≤ c.toInt) (ha : jv a lo hi) (hb : jv b lo' hi') (h1 : -9223372036854775808 < lo) (h2 : 0 ≤ lo') : 0 ≤ c.toInt := by
  have a1 := ha.1; have b1 := hb.1
  omega
theorem sg_n {x y : Int64} (e : y = (-1) * x) (h : jv x (-480000) (-1)) : 1 ≤ y.toInt := by
  have := i64_mulE e (A := 1) (B := 480000) (jv.m (by decide)) (h.w (by decide) (by decide)) (by decide)
  rw [this, show (-1 : Int64).toInt = -1 by decide]
  have := h.2
  omega
theorem sg_p {x y : Int64} (e : y = 1 * x) (h : jv x 1 480000) : 1 ≤ y.toInt := by
  have := i64_mulE e (A := 1) (B := 480000) (jv.m (by decide)) (h.w (by decide) (by decide)) (by decide)
  rw [this, show (1 : Int64).toInt = 1 by decide]
  have := h.1
  omega
theorem jv_ne0 {x : Int64} {hi : Int} (h : jv x 0 hi) (hz : ¬ x = 0) : jv x 1 hi := by
  have h1 := h.1
  have : x.toInt ≠ 0 := fun y => hz (Int64.toInt_inj.mp y)
  exact jv.m ⟨by omega, h.2⟩
theorem wk_l {l wu wl : Int64} (h : wk l wu wl) : jv wl 1 2400000 := h.1
theorem wk_u {l wu wl : Int64} (h : wk l wu wl) : jv wu (-808000000) 808000000 := h.2.1
/-- the wages of the groups so far -/
def wgk (l : Int64) (fu fl : Nat → Int64) (g : Int32) : Prop := ∀ j : Nat, j < g.toNatClampNeg → wk l (fu j) (fl j)
theorem wgk_0 {l : Int64} {fu fl : Nat → Int64} : wgk l fu fl 0 := by
  intro j hj; rw [show (0 : Int32).toNatClampNeg = 0 by decide] at hj; omega
theorem wgk_up {l : Int64} {fu fl fu' fl' : Nat → Int64} {g g' : Int32} (h : wgk l fu fl g) (hw : wk l (fu' g.toNatClampNeg) (fl' g.toNatClampNeg)) (ho : ∀ j : Nat, ¬ j = g.toNatClampNeg → fu' j = fu j ∧ fl' j = fl j) (e : g + Int32.ofInt 1 = g') (g0 : 0 ≤ g.toInt) (g3 : g.toInt ≤ 3) : wgk l fu' fl' g' := by
  obtain ⟨-, q⟩ := mn_nx e (iv.m ⟨g0, g3⟩)
  intro j hj
  rw [q] at hj
  by_cases z : j = g.toNatClampNeg
  · rw [z]; exact hw
  · rw [(ho j z).1, (ho j z).2]; exact h j (by omega)
theorem wgk_at {l : Int64} {fu fl : Nat → Int64} {n gx gs s n3 : Int32} {grp : Nat → Int32} (h : wgk l fu fl gx) (hgx : n.toInt ≤ gx.toInt) (hgo : ∀ s : Nat, s < n3.toNatClampNeg → (grp s).toInt < n.toInt) (eg : gs = grp s.toNatClampNeg) (s0 : 0 ≤ s.toInt) (hs : s.toInt < n3.toInt) (g0 : 0 ≤ gs.toInt) : wk l (fu gs.toNatClampNeg) (fl gs.toNatClampNeg) := by
  have e1 := nn_eq n; have e2 := nn_eq gx; have e3 := nn_eq s; have e4 := nn_eq n3; have e5 := nn_eq gs
  have := hgo s.toNatClampNeg (by omega)
  rw [← eg] at this
  exact h _ (by omega)
theorem lkI_stepN {l up low wu wl x1 x2 x3 up1 low1 b up2 low2 : Int64} {ch s s' : Int32} (h : lkI l s.toInt up low) (e : s + Int32.ofInt 1 = s') (h0 : 0 ≤ s.toInt) (h3 : s.toInt ≤ 3) (hl : jv l 1 480000) (hw : wk l wu wl) (hc : iv ch 0 20) (e1 : x1 = up * wl) (e2 : x2 = ch.toInt64 * wu) (e3 : x3 = x2 * low) (e4 : up1 = x1 + x3) (e5 : low1 = low * wl) (hb : b.toInt.natAbs = Nat.gcd up1.toInt.natAbs low1.toInt.natAbs) (hb0 : up1.toInt = -9223372036854775808 ∨ low1.toInt < 0 ∨ 0 ≤ b.toInt) (e6 : up2 = up1 / b) (e7 : low2 = low1 / b) : lkI l s'.toInt up2 low2 :=
  lkI_step h h0 h3 hl hw hc.1 hc.2 e1 e2 e3 e4 e5 hb hb0 e6 e7 (mn_nx e (iv.m ⟨h0, h3⟩)).1
theorem ch20 {f : Nat → Int32} (h : ∀ j : Nat, j < 20 → iv (f j) 0 20) {a s ix x : Int32} (ha : iv a 0 4) (hs : iv s 0 3) (hix : ix.toInt = 4 * a.toInt + s.toInt) (e : x = f ix.toNatClampNeg) : iv x 0 20 := by
  have a0 := ha.1; have a4 := ha.2; have s0 := hs.1; have s3 := hs.2
  have e3 := nn_eq ix
  have := h ix.toNatClampNeg (by omega)
  rw [← e] at this
  exact this
theorem chk_20 {cb : Nat → Int} {f : Nat → Int32} (h : chk cb f) (hc : ∀ s : Nat, 0 ≤ cb s ∧ cb s ≤ 20) : ∀ j : Nat, j < 20 → iv (f j) 0 20 := by
  intro j hj
  have := h (j / 4) (j % 4) (by omega) (by omega)
  rw [show 4 * (j / 4) + j % 4 = j by omega] at this
  exact this.w (by decide) (hc _).2
/-- the chosen bounds: those ahead stay, the next one is one of them all -/
theorem ch_next {n : Nat} {f0 f1 f2 : Nat → Int32} {k bd m : Int32} (hm : m.toNatClampNeg = n) (h : ∀ j : Nat, j < n → (f0 j).toInt < bd.toInt) (hf : ∀ j : Nat, j < n → f1 j = f0 j) (w : f2 m.toNatClampNeg = k) (o : ∀ j : Nat, ¬ j = m.toNatClampNeg → f2 j = f1 j) (hk : k.toInt < bd.toInt) : ∀ j : Nat, j < n + 1 → (f2 j).toInt < bd.toInt := by
  intro j hj
  by_cases z : j = m.toNatClampNeg
  · rw [z, w]; exact hk
  · rw [o j z, hf j (by omega)]; exact h j (by omega)
theorem ch_back {n : Nat} {f0 f1 f2 f3 : Nat → Int32} {m : Int32} (hm : m.toNatClampNeg = n) (hf : ∀ j : Nat, j < n → f1 j = f0 j) (o : ∀ j : Nat, ¬ j = m.toNatClampNeg → f2 j = f1 j) (hr : ∀ j : Nat, j < n + 1 → f3 j = f2 j) : ∀ j : Nat, j < n → f3 j = f0 j := by
  intro j hj
  rw [hr j (by omega), o j (by omega), hf j hj]
theorem ch_all {n : Nat} {g bd : Int32} {f : Nat → Int32} (h : ∀ j : Nat, j < n → (f j).toInt < bd.toInt) (e : g.toInt = (n : Int)) : ∀ j : Nat, j < g.toNatClampNeg → (f j).toInt < bd.toInt := by
  have := nn_eq g
  intro j hj
  exact h j (by omega)
/-- each SIGN a group of its own -/
theorem al_up {f f' : Nat → Int32} {s s' : Int32} (h : ∀ j : Nat, j < s.toNatClampNeg → f j = Int32.ofNat j) (w : f' s.toNatClampNeg = s) (o : ∀ j : Nat, ¬ j = s.toNatClampNeg → f' j = f j) (e : s + Int32.ofInt 1 = s') (s0 : 0 ≤ s.toInt) (s3 : s.toInt ≤ 3) : ∀ j : Nat, j < s'.toNatClampNeg → f' j = Int32.ofNat j := by
  obtain ⟨-, q⟩ := mn_nx e (iv.m ⟨s0, s3⟩)
  intro j hj
  rw [q] at hj
  by_cases z : j = s.toNatClampNeg
  · rw [z, w]; exact (i32_of (hi := 3) (iv.m ⟨s0, s3⟩)).1
  · rw [o j z]; exact h j (by omega)
theorem al_end {f : Nat → Int32} {s n : Int32} (h : ∀ j : Nat, j < s.toNatClampNeg → f j = Int32.ofNat j) (hs : n.toInt ≤ s.toInt) : ∀ j : Nat, j < n.toNatClampNeg → f j = Int32.ofNat j := by
  have e1 := nn_eq s; have e2 := nn_eq n
  intro j hj
  exact h j (by omega)
def cbt (tt : Nat) (s : Nat) : Int := if s = tt then 20 else 10
theorem cbt_r (tt s : Nat) : 10 ≤ cbt tt s ∧ cbt tt s ≤ 20 := by unfold cbt; split <;> omega
theorem grk_alone {n3 : Int32} {grp : Nat → Int32} (h : ∀ j : Nat, j < n3.toNatClampNeg → grp j = Int32.ofNat j) (h0 : 0 ≤ n3.toInt) (h4 : n3.toInt ≤ 4) (tt : Nat) : grk n3 n3 grp (cbt tt) (cbt tt) := by
  have e1 := nn_eq n3
  have hg : ∀ j : Nat, j < n3.toNatClampNeg → (grp j).toInt = (j : Int) ∧ (grp j).toNatClampNeg = j := by
    intro j hj
    have q : (grp j).toInt = (j : Int) := by rw [h j hj, of_toInt (by omega)]
    have := nn_eq (grp j)
    exact ⟨q, by omega⟩
  refine ⟨⟨fun s g => if g < s then cbt tt g else 0, fun g => by simp, fun s g hs => ⟨?_, fun hgs => ?_⟩, fun s g hs => ?_⟩, ⟨fun g => ⟨by have := cbt_r tt g; omega, by have := cbt_r tt g; omega⟩, Or.inr ⟨tt, fun g => by unfold cbt; split <;> omega⟩⟩, fun s hs => ?_, fun s => ⟨by have := cbt_r tt s; omega, (cbt_r tt s).2⟩⟩
  · have := cbt_r tt g
    show (if g < s then cbt tt g else 0) ≤ (if g < s + 1 then cbt tt g else 0)
    by_cases z : g < s
    · rw [if_pos z, if_pos (show g < s + 1 by omega)]; omega
    · rw [if_neg z]; split <;> omega
  · rw [(hg s hs).2] at hgs
    subst hgs
    show (if g < g then cbt tt g else 0) + cbt tt g ≤ (if g < g + 1 then cbt tt g else 0)
    rw [if_neg (show ¬ g < g by omega), if_pos (show g < g + 1 by omega)]; omega
  · have := cbt_r tt g
    show (if g < s then cbt tt g else 0) ≤ cbt tt g
    split <;> omega
  · rw [(hg s hs).1]; omega
theorem chk_10 {f : Nat → Int32} (h : ivf f 0 10) (tt : Nat) : chk (cbt tt) f := fun a s _ _ => (h _).w (by decide) (cbt_r tt s).1
theorem chk_10c {f : Nat → Int32} (h : ivf f 0 10) : chk (fun _ => 10) f := fun a s _ _ => h _
theorem grk_merged {n3 n : Int32} {grp : Nat → Int32} (hn : n.toInt ≤ 3) (h3 : n3.toInt ≤ 4) (hgo : ∀ s : Nat, s < n3.toNatClampNeg → (grp s).toInt < n.toInt) : grk n3 n grp (fun _ => 10) (fun _ => 40) := by
  have e1 := nn_eq n3
  refine ⟨⟨fun s _ => 10 * (s : Int), fun g => by simp, fun s g hs => ⟨?_, fun _ => ?_⟩, fun s g hs => ?_⟩, ⟨fun g => ⟨(show (1 : Int) ≤ 40 by decide), (show (40 : Int) ≤ 40 by decide)⟩, Or.inl hn⟩, hgo, fun s => ⟨(show (0 : Int) ≤ 10 by decide), (show (10 : Int) ≤ 20 by decide)⟩⟩
  · show 10 * (s : Int) ≤ 10 * ((s + 1 : Nat) : Int); omega
  · show 10 * (s : Int) + 10 ≤ 10 * ((s + 1 : Nat) : Int); omega
  · show 10 * (s : Int) ≤ 40; omega
/-- groups while two SIGNS become one -/
theorem mg_up {f f' : Nat → Int32} {k k' n n' v : Int32} (h : ∀ j : Nat, j < k.toNatClampNeg → (f j).toInt < n.toInt) (w : f' k.toNatClampNeg = v) (o : ∀ j : Nat, ¬ j = k.toNatClampNeg → f' j = f j) (e : k + Int32.ofInt 1 = k') (k0 : 0 ≤ k.toInt) (k3 : k.toInt ≤ 3) (hv : v.toInt < n'.toInt) (hn : n.toInt ≤ n'.toInt) : ∀ j : Nat, j < k'.toNatClampNeg → (f' j).toInt < n'.toInt := by
  obtain ⟨-, q⟩ := mn_nx e (iv.m ⟨k0, k3⟩)
  intro j hj
  rw [q] at hj
  by_cases z : j = k.toNatClampNeg
  · rw [z, w]; exact hv
  · rw [o j z]; have := h j (by omega); omega
theorem mg_at {f : Nat → Int32} {k n i x : Int32} (h : ∀ j : Nat, j < k.toNatClampNeg → (f j).toInt < n.toInt) (e : x = f i.toNatClampNeg) (i0 : 0 ≤ i.toInt) (hi : i.toInt < k.toInt) : x.toInt < n.toInt := by
  have e1 := nn_eq k; have e2 := nn_eq i
  rw [e]; exact h _ (by omega)
theorem mg_end {f : Nat → Int32} {k n n3 : Int32} (h : ∀ j : Nat, j < k.toNatClampNeg → (f j).toInt < n.toInt) (hk : n3.toInt ≤ k.toInt) : ∀ j : Nat, j < n3.toNatClampNeg → (f j).toInt < n.toInt := by
  have e1 := nn_eq k; have e2 := nn_eq n3
  intro j hj; exact h j (by omega)
theorem mg_0 {f : Nat → Int32} {n : Int32} : ∀ j : Nat, j < (0 : Int32).toNatClampNeg → (f j).toInt < n.toInt := by
  intro j hj; rw [show (0 : Int32).toNatClampNeg = 0 by decide] at hj; omega
theorem i32_inj {x y : Int32} (h : x.toInt = y.toInt) : x = y := Int32.toInt_inj.mp h
theorem mb_k {n bd r : Int32} {f f' : Nat → Int64} (h : adk n bd f f') (e : r.toInt = bd.toInt) : adk n r f f' := by rw [i32_inj e]; exact h
theorem mb_w {rb : Nat → Int} {n bd r : Int32} {f : Nat → Int64} (h : rwk rb n bd f) (e : r.toInt = bd.toInt) : rwk rb n r f := by rw [i32_inj e]; exact h
theorem mb_gn {n3 n gs s : Int32} {grp : Nat → Int32} {cb rb : Nat → Int} (h : grk n3 n grp cb rb) (eg : gs = grp s.toNatClampNeg) (s0 : 0 ≤ s.toInt) (hs : s.toInt < n3.toInt) : gs.toInt < n.toInt := by
  have e1 := nn_eq s; have e2 := nn_eq n3
  rw [eg]; exact h.2.2.1 _ (by omega)
theorem al_0 {f : Nat → Int32} : ∀ j : Nat, j < (0 : Int32).toNatClampNeg → f j = Int32.ofNat j := by
  intro j hj; rw [show (0 : Int32).toNatClampNeg = 0 by decide] at hj; omega
/-- chances while one is moved -/
def egk (f0 f : Nat → Int32) (x y : Nat) (e : Int) : Prop := (f x).toInt = (f0 x).toInt - e ∧ (f y).toInt = (f0 y).toInt + e ∧ ∀ j : Nat, ¬ j = x → ¬ j = y → f j = f0 j
theorem egk_0 {f : Nat → Int32} {x y : Nat} : egk f f x y 0 := ⟨by omega, by omega, fun _ _ _ => rfl⟩
theorem nn_ne {x y : Int32} (x0 : 0 ≤ x.toInt) (y0 : 0 ≤ y.toInt) (h : x.toInt ≠ y.toInt) : ¬ x.toNatClampNeg = y.toNatClampNeg := by
  have e1 := nn_eq x; have e2 := nn_eq y
  omega
theorem egk_00 {f : Nat → Int32} {x y : Nat} {e : Int} (h : e = 0) : egk f f x y e := by subst h; exact egk_0
theorem egk_x {f0 f : Nat → Int32} {x m a : Int32} {y : Nat} {e : Int} (h : egk f0 f x.toNatClampNeg y e) (ea : a = f x.toNatClampNeg) (em : m = f0 x.toNatClampNeg) : a.toInt = m.toInt - e := by rw [ea, em]; exact h.1
theorem egk_y {f0 f : Nat → Int32} {y a : Int32} {x : Nat} {e : Int} (h : egk f0 f x y.toNatClampNeg e) (hf : ivf f0 0 10) (ea : a = f y.toNatClampNeg) : e ≤ a.toInt ∧ a.toInt ≤ 10 + e := by
  have h1 := (hf y.toNatClampNeg).1
  have h2 := (hf y.toNatClampNeg).2
  rw [ea, h.2.1]; omega
theorem egk_y1 {f0 f f1 : Nat → Int32} {x y a : Int32} {e : Int} (h : egk f0 f x.toNatClampNeg y.toNatClampNeg e) (hf : ivf f0 0 10) (ea : a = f1 y.toNatClampNeg) (o1 : ∀ j : Nat, ¬ j = x.toNatClampNeg → f1 j = f j) (hne : ¬ y.toNatClampNeg = x.toNatClampNeg) : e ≤ a.toInt ∧ a.toInt ≤ 10 + e := by
  rw [o1 _ hne] at ea
  exact egk_y h hf ea
theorem egk_up {f0 f f1 f2 : Nat → Int32} {x y v u a b : Int32} {e e' : Int} (h : egk f0 f x.toNatClampNeg y.toNatClampNeg e) (w2 : f2 y.toNatClampNeg = u) (o2 : ∀ j : Nat, ¬ j = y.toNatClampNeg → f2 j = f1 j) (w1 : f1 x.toNatClampNeg = v) (o1 : ∀ j : Nat, ¬ j = x.toNatClampNeg → f1 j = f j) (ea : a = f x.toNatClampNeg) (va : v.toInt = a.toInt - 1) (eb : b = f1 y.toNatClampNeg) (vb : u.toInt = b.toInt + 1) (hne : ¬ x.toNatClampNeg = y.toNatClampNeg) (he : e' = e + 1) : egk f0 f2 x.toNatClampNeg y.toNatClampNeg e' := by
  obtain ⟨h1, h2, h3⟩ := h
  refine ⟨?_, ?_, fun j hx hy => ?_⟩
  · rw [o2 _ hne, w1, va, ea, h1]; omega
  · have hny : ¬ y.toNatClampNeg = x.toNatClampNeg := fun z => hne z.symm
    rw [w2, vb, eb, o1 _ hny, h2]; omega
  · rw [o2 j hy, o1 j hx, h3 j hx hy]
theorem egk_chk {f0 f : Nat → Int32} {x y a t : Int32} {e : Int} (h : egk f0 f x.toNatClampNeg y.toNatClampNeg e) (hf : ivf f0 0 10) (hy : y.toInt = 4 * a.toInt + t.toInt) (a0 : 0 ≤ a.toInt) (t0 : 0 ≤ t.toInt) (t3 : t.toInt ≤ 3) (e0 : 0 ≤ e) {m : Int32} (em : m = f0 x.toNatClampNeg) (hm : e ≤ m.toInt) : chk (cbt t.toNatClampNeg) f := by
  have he : e ≤ (f0 x.toNatClampNeg).toInt := by rw [← em]; exact hm
  obtain ⟨h1, h2, h3⟩ := h
  have e1 := nn_eq y; have e2 := nn_eq a; have e3 := nn_eq t
  have fx := hf x.toNatClampNeg; have fy := hf y.toNatClampNeg
  have x1 := fx.1; have x2 := fx.2; have y1 := fy.1; have y2 := fy.2
  intro b s hb hs
  by_cases zy : 4 * b + s = y.toNatClampNeg
  · rw [zy]
    have : s = t.toNatClampNeg := by omega
    rw [this]; unfold cbt; rw [if_pos rfl]
    exact iv.m (by omega)
  · have c := (cbt_r t.toNatClampNeg s).1
    by_cases zx : 4 * b + s = x.toNatClampNeg
    · rw [zx]; exact iv.m (by omega)
    · rw [h3 _ zx zy]; exact (hf _).w (by decide) c
theorem egk_end {f0 f f1 f2 : Nat → Int32} {x y m a b v : Int32} {e : Int} (h : egk f0 f x.toNatClampNeg y.toNatClampNeg e) (hf : ivf f0 0 10) (w2 : f2 x.toNatClampNeg = m) (o2 : ∀ j : Nat, ¬ j = x.toNatClampNeg → f2 j = f1 j) (w1 : f1 y.toNatClampNeg = v) (o1 : ∀ j : Nat, ¬ j = y.toNatClampNeg → f1 j = f j) (em : m = f0 x.toNatClampNeg) (ea : a = f y.toNatClampNeg) (eb : b = f x.toNatClampNeg) (hv : v.toInt = a.toInt - (m.toInt - b.toInt)) : ivf f2 0 10 := by
  obtain ⟨h1, h2, h3⟩ := h
  have fx := hf x.toNatClampNeg; have fy := hf y.toNatClampNeg
  have x1 := fx.1; have x2 := fx.2; have y1 := fy.1; have y2 := fy.2
  intro j
  by_cases zx : j = x.toNatClampNeg
  · rw [zx, w2, em]; exact fx
  · rw [o2 j zx]
    by_cases zy : j = y.toNatClampNeg
    · rw [zy, w1]; rw [ea, eb, em, h1, h2] at hv; exact iv.m (by omega)
    · rw [o1 j zy, h3 j zx zy]; exact hf j
