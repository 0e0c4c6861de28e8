/-! FEELING, WORTH, what a WORK LEAVES, what he DOES: as both programs count them -/
/-- to which wage the i-th RATE reaches -/
def fto (rt : Nat) (mk : Nat → Int32) (w : Int32) (i : Nat) : Int32 := if i + 1 < rt ∧ (mk i).toInt < w.toInt then mk i else w
/-- the class: felt, from -/
def fsc (rt : Nat) (ra mk : Nat → Int32) (w : Int32) : Nat → Int32 × Int32
  | 0 => (0, 0)
  | i + 1 => if (fsc rt ra mk w i).2.toInt < (fto rt mk w i).toInt then ((fsc rt ra mk w i).1 + ra i * (fto rt mk w i - (fsc rt ra mk w i).2), fto rt mk w i) else fsc rt ra mk w i
/-- the reference: felt, from -/
def fsm (rt : Nat) (ra mk : Nat → Int32) (w : Int32) : Nat → Int32 × Int32
  | 0 => (0, 0)
  | i + 1 => (if (fsm rt ra mk w i).2.toInt < (fto rt mk w i).toInt then (fsm rt ra mk w i).1 + ra i * (fto rt mk w i - (fsm rt ra mk w i).2) else (fsm rt ra mk w i).1, fto rt mk w i)
def felC (rt : Nat) (ra mk : Nat → Int32) (w : Int32) : Int32 := (fsc rt ra mk w rt).1
def felM (rt : Nat) (ra mk : Nat → Int32) (w : Int32) : Int32 := (fsm rt ra mk w rt).1
section FEL
variable {rt : Int32} {ra mk : Nat → Int32} {w i i' fe fr to r d m fe' z : Int32}
theorem fto_last (h : ¬ i.toInt + 1 < rt.toInt) (i0 : 0 ≤ i.toInt) : w = fto rt.toNatClampNeg mk w i.toNatClampNeg := by
  have e1 := nn_eq i; have e2 := nn_eq rt
  unfold fto; rw [if_neg (fun q => h (by omega))]
theorem fto_min (h : i.toInt + 1 < rt.toInt) (i0 : 0 ≤ i.toInt) (ez : z = mk i.toNatClampNeg) (t : (to.toInt = w.toInt ∨ to.toInt = z.toInt) ∧ to.toInt ≤ w.toInt ∧ to.toInt ≤ z.toInt) : to = fto rt.toNatClampNeg mk w i.toNatClampNeg := by
  have e1 := nn_eq i; have e2 := nn_eq rt
  unfold fto
  rw [← ez]
  by_cases q : z.toInt < w.toInt
  · rw [if_pos ⟨by omega, q⟩]; exact Int32.toInt_inj.mp (by omega)
  · rw [if_neg (fun u => q u.2)]; exact Int32.toInt_inj.mp (by omega)
theorem fto_mk (h : i.toInt + 1 < rt.toInt) (i0 : 0 ≤ i.toInt) (ez : z = mk i.toNatClampNeg) (q : z.toInt < w.toInt) : z = fto rt.toNatClampNeg mk w i.toNatClampNeg := by
  have e1 := nn_eq i; have e2 := nn_eq rt
  unfold fto; rw [← ez, if_pos ⟨by omega, q⟩]
theorem fto_w (i0 : 0 ≤ i.toInt) (ez : z = mk i.toNatClampNeg) (q : w.toInt ≤ z.toInt) : w = fto rt.toNatClampNeg mk w i.toNatClampNeg := by
  unfold fto; rw [← ez, if_neg (fun u => by omega)]
theorem fsc_0 {rt : Nat} : (0 : Int32) = (fsc rt ra mk w (Int32.toNatClampNeg 0)).1 ∧ (0 : Int32) = (fsc rt ra mk w (Int32.toNatClampNeg 0)).2 := by
  rw [show Int32.toNatClampNeg 0 = 0 from by decide]; exact ⟨rfl, rfl⟩
theorem fsm_0 {rt : Nat} : (0 : Int32) = (fsm rt ra mk w (Int32.toNatClampNeg 0)).1 ∧ (0 : Int32) = (fsm rt ra mk w (Int32.toNatClampNeg 0)).2 := by
  rw [show Int32.toNatClampNeg 0 = 0 from by decide]; exact ⟨rfl, rfl⟩
theorem fsc_go {rt : Nat} (h : fe = (fsc rt ra mk w i.toNatClampNeg).1 ∧ fr = (fsc rt ra mk w i.toNatClampNeg).2) (ht : to = fto rt mk w i.toNatClampNeg) (hlt : fr.toInt < to.toInt) (er : r = ra i.toNatClampNeg) (ed : d = to - fr) (em : m = r * d) (ef : fe' = fe + m) (ei : i'.toInt = i.toInt + 1) (i0 : 0 ≤ i.toInt) : fe' = (fsc rt ra mk w i'.toNatClampNeg).1 ∧ to = (fsc rt ra mk w i'.toNatClampNeg).2 := by
  rw [nn_s ei i0, fsc, ← h.1, ← h.2, ← ht, if_pos hlt]
  exact ⟨by rw [ef, em, er, ed], rfl⟩
theorem fsc_st {rt : Nat} (h : fe = (fsc rt ra mk w i.toNatClampNeg).1 ∧ fr = (fsc rt ra mk w i.toNatClampNeg).2) (ht : to = fto rt mk w i.toNatClampNeg) (hlt : to.toInt ≤ fr.toInt) (ei : i'.toInt = i.toInt + 1) (i0 : 0 ≤ i.toInt) : fe = (fsc rt ra mk w i'.toNatClampNeg).1 ∧ fr = (fsc rt ra mk w i'.toNatClampNeg).2 := by
  have hn : ¬ (fsc rt ra mk w i.toNatClampNeg).2.toInt < (fto rt mk w i.toNatClampNeg).toInt := by rw [← h.2, ← ht]; omega
  rw [nn_s ei i0, fsc, if_neg hn]; exact h
theorem fsm_go {rt : Nat} (h : fe = (fsm rt ra mk w i.toNatClampNeg).1 ∧ fr = (fsm rt ra mk w i.toNatClampNeg).2) (ht : to = fto rt mk w i.toNatClampNeg) (hlt : fr.toInt < to.toInt) (er : r = ra i.toNatClampNeg) (ed : d = to - fr) (em : m = r * d) (ef : fe' = fe + m) (ei : i'.toInt = i.toInt + 1) (i0 : 0 ≤ i.toInt) : fe' = (fsm rt ra mk w i'.toNatClampNeg).1 ∧ to = (fsm rt ra mk w i'.toNatClampNeg).2 := by
  rw [nn_s ei i0, fsm, ← h.1, ← h.2, ← ht, if_pos hlt]
  exact ⟨by rw [ef, em, er, ed], rfl⟩
theorem fsm_st {rt : Nat} (h : fe = (fsm rt ra mk w i.toNatClampNeg).1 ∧ fr = (fsm rt ra mk w i.toNatClampNeg).2) (ht : to = fto rt mk w i.toNatClampNeg) (hlt : to.toInt ≤ fr.toInt) (ei : i'.toInt = i.toInt + 1) (i0 : 0 ≤ i.toInt) : fe = (fsm rt ra mk w i'.toNatClampNeg).1 ∧ to = (fsm rt ra mk w i'.toNatClampNeg).2 := by
  have hn : ¬ (fsm rt ra mk w i.toNatClampNeg).2.toInt < (fto rt mk w i.toNatClampNeg).toInt := by rw [← h.2, ← ht]; omega
  rw [nn_s ei i0, fsm, if_neg hn]; exact ⟨h.1, ht⟩
theorem felC_end (h : fe = (fsc rt.toNatClampNeg ra mk w i.toNatClampNeg).1 ∧ fr = (fsc rt.toNatClampNeg ra mk w i.toNatClampNeg).2) (h1 : rt.toInt ≤ i.toInt) (h2 : i.toInt ≤ rt.toInt) : fe = felC rt.toNatClampNeg ra mk w := by
  have e1 := nn_eq i; have e2 := nn_eq rt
  have h3 := h.1
  rw [show i.toNatClampNeg = rt.toNatClampNeg by omega] at h3; exact h3
theorem felM_end (h : fe = (fsm rt.toNatClampNeg ra mk w i.toNatClampNeg).1 ∧ fr = (fsm rt.toNatClampNeg ra mk w i.toNatClampNeg).2) (h1 : rt.toInt ≤ i.toInt) (h2 : i.toInt ≤ rt.toInt) : fe = felM rt.toNatClampNeg ra mk w := by
  have e1 := nn_eq i; have e2 := nn_eq rt
  have h3 := h.1
  rw [show i.toNatClampNeg = rt.toNatClampNeg by omega] at h3; exact h3
end FEL
/-- both count the same where the MARKS rise -/
theorem fto_two {rt : Nat} {mk mk' : Nat → Int32} {w : Int32} (hm : ∀ i : Nat, i < rt - 1 → mk i = mk' i) (i : Nat) : fto rt mk w i = fto rt mk' w i := by
  unfold fto
  by_cases h : i + 1 < rt
  · rw [hm i (by omega)]
  · rw [if_neg (fun q => h q.1), if_neg (fun q => h q.1)]
theorem fsc_two {rt : Nat} {ra ra' mk mk' : Nat → Int32} {w : Int32} (hr : ∀ i : Nat, i < rt → ra i = ra' i) (hm : ∀ i : Nat, i < rt - 1 → mk i = mk' i) : ∀ i : Nat, i ≤ rt → fsc rt ra mk w i = fsc rt ra' mk' w i
  | 0, _ => rfl
  | i + 1, h => by
    rw [fsc, fsc, fsc_two hr hm i (by omega), fto_two hm i, hr i (by omega)]
/-- how far the RATES reach does not fall -/
def mkR (rt : Nat) (mk : Nat → Int32) : Prop := (2 ≤ rt → 1 ≤ (mk 0).toInt) ∧ (3 ≤ rt → (mk 0).toInt < (mk 1).toInt) ∧ rt ≤ 3
theorem fto_up {rt : Nat} {mk : Nat → Int32} {w : Int32} (h : mkR rt mk) {i : Nat} (hi : i + 1 < rt) : (fto rt mk w i).toInt ≤ (fto rt mk w (i + 1)).toInt := by
  obtain ⟨h1, h2, h3⟩ := h
  have hq : i = 0 ∨ i = 1 := by omega
  rcases hq with q | q
  · subst q
    by_cases r3 : 3 ≤ rt
    · have hz := h2 r3
      have e0 : fto rt mk w 0 = if 0 + 1 < rt ∧ (mk 0).toInt < w.toInt then mk 0 else w := rfl
      have e1 : fto rt mk w (0 + 1) = if 0 + 1 + 1 < rt ∧ (mk (0 + 1)).toInt < w.toInt then mk (0 + 1) else w := rfl
      rw [e0, e1]
      by_cases c0 : (mk 0).toInt < w.toInt
      · rw [if_pos ⟨by omega, c0⟩]
        by_cases c1 : (mk (0 + 1)).toInt < w.toInt
        · rw [if_pos ⟨by omega, c1⟩]; exact Int.le_of_lt hz
        · rw [if_neg (fun u => c1 u.2)]; omega
      · rw [if_neg (fun u => c0 u.2), if_neg (fun u => c0 (Int.lt_trans hz u.2))]; exact Int.le_refl _
    · have e1 : fto rt mk w (0 + 1) = if 0 + 1 + 1 < rt ∧ (mk (0 + 1)).toInt < w.toInt then mk (0 + 1) else w := rfl
      rw [e1, if_neg (fun u => r3 (by omega))]
      have e0 : fto rt mk w 0 = if 0 + 1 < rt ∧ (mk 0).toInt < w.toInt then mk 0 else w := rfl
      rw [e0]; split
      · next u => exact Int.le_of_lt u.2
      · exact Int.le_refl _
  · subst q
    have e1 : fto rt mk w (1 + 1) = if 1 + 1 + 1 < rt ∧ (mk (1 + 1)).toInt < w.toInt then mk (1 + 1) else w := rfl
    rw [e1, if_neg (fun u => by omega)]
    have e0 : fto rt mk w 1 = if 1 + 1 < rt ∧ (mk 1).toInt < w.toInt then mk 1 else w := rfl
    rw [e0]; split
    · next u => exact Int.le_of_lt u.2
    · exact Int.le_refl _
theorem fto_nn {rt : Nat} {mk : Nat → Int32} {w : Int32} (h : mkR rt mk) (h0 : 0 ≤ w.toInt) : 0 ≤ (fto rt mk w 0).toInt := by
  unfold fto; split
  · next u => have := h.1 (by omega); omega
  · exact h0
theorem fcm_two {rt : Nat} {ra mk : Nat → Int32} {w : Int32} (h : mkR rt mk) (h0 : 0 ≤ w.toInt) : ∀ i : Nat, i ≤ rt → (fsc rt ra mk w i = fsm rt ra mk w i ∧ (i < rt → (fsm rt ra mk w i).2.toInt ≤ (fto rt mk w i).toInt))
  | 0, hi => ⟨rfl, fun _ => by rw [show (fsm rt ra mk w 0).2 = 0 from rfl, show (0 : Int32).toInt = 0 by decide]; exact fto_nn h h0⟩
  | i + 1, hi => by
    obtain ⟨q1, q2⟩ := fcm_two (ra := ra) h h0 i (by omega)
    have q3 := q2 (by omega)
    refine ⟨?_, fun hj => ?_⟩
    · rw [fsc, fsm, q1]
      by_cases c : (fsm rt ra mk w i).2.toInt < (fto rt mk w i).toInt
      · rw [if_pos c, if_pos c]
      · rw [if_neg c, if_neg c]
        have e : (fsm rt ra mk w i).2 = fto rt mk w i := Int32.toInt_inj.mp (by omega)
        exact Prod.ext rfl e
    · rw [show (fsm rt ra mk w (i + 1)).2 = fto rt mk w i from rfl]
      exact fto_up h (by omega)
theorem fel_two {rt : Nat} {ra ra' mk mk' : Nat → Int32} {w : Int32} (hr : ∀ i : Nat, i < rt → ra i = ra' i) (hm : ∀ i : Nat, i < rt - 1 → mk i = mk' i) (h : mkR rt mk') (h0 : 0 ≤ w.toInt) : felC rt ra mk w = felM rt ra' mk' w := by
  unfold felC felM
  rw [fsc_two hr hm rt (Nat.le_refl _), (fcm_two h h0 rt (Nat.le_refl _)).1]
/-- sums of products, as both count them -/
def wsm (z : Int32) (c v : Nat → Int32) : Nat → Int32
  | 0 => z
  | s + 1 => wsm z c v s + c s * v s
theorem wsm_0 {z : Int32} {c v : Nat → Int32} : z = wsm z c v (Int32.toNatClampNeg 0) := by rw [show Int32.toNatClampNeg 0 = 0 from by decide]; rfl
theorem wsm_up {z u u' x r m s s' : Int32} {c v : Nat → Int32} (h : u = wsm z c v s.toNatClampNeg) (ex : x = c s.toNatClampNeg) (er : r = v s.toNatClampNeg) (em : m = x * r) (eu : u' = u + m) (es : s'.toInt = s.toInt + 1) (s0 : 0 ≤ s.toInt) : u' = wsm z c v s'.toNatClampNeg := by
  rw [nn_s es s0, wsm, ← h, ← ex, ← er, ← em]; exact eu
theorem wsm_end {z u s g : Int32} {c v : Nat → Int32} (h : u = wsm z c v s.toNatClampNeg) (h1 : g.toInt ≤ s.toInt) (h2 : s.toInt ≤ g.toInt) : u = wsm z c v g.toNatClampNeg := by
  have e1 := nn_eq s; have e2 := nn_eq g
  rw [h, show s.toNatClampNeg = g.toNatClampNeg by omega]
theorem wsm_two {z z' : Int32} {c c' v v' : Nat → Int32} (hz : z = z') : ∀ {n : Nat}, (∀ s : Nat, s < n → c s = c' s) → (∀ s : Nat, s < n → v s = v' s) → wsm z c v n = wsm z' c' v' n
  | 0, _, _ => hz
  | n + 1, hc, hv => by
    rw [wsm, wsm, wsm_two hz (fun s h => hc s (by omega)) (fun s h => hv s (by omega)), hc n (by omega), hv n (by omega)]
/-- WORTH and what is LEFT -/
def wthC (wh : Int32) (sg rt : Nat) (co : Nat → Int32) (C : Nat → Nat → Int32) (ra mk h : Nat → Int32) (a : Nat) : Int32 := wsm (-wh * co a) (C a) (fun s => felC rt ra mk (h s)) sg
def wthM (wh : Int32) (sg rt : Nat) (co : Nat → Int32) (C : Nat → Nat → Int32) (ra mk h : Nat → Int32) (a : Nat) : Int32 := wsm (-wh * co a) (C a) (fun s => felM rt ra mk (h s)) sg
def lftV (sg : Nat) (C : Nat → Nat → Int32) (br h : Nat → Int32) (a : Nat) : Int32 := wsm 0 (C a) (fun s => br s - h s) sg
/-- what he DOES, of the first a WORKS -/
def dnv (W L : Nat → Int32) : Nat → Nat
  | 0 => 0
  | a + 1 => if a = 0 then 0 else if (W (dnv W L a)).toInt < (W a).toInt ∨ ((W a).toInt = (W (dnv W L a)).toInt ∧ (L (dnv W L a)).toInt < (L a).toInt) then a else dnv W L a
theorem dnv_1 {W L : Nat → Int32} {b i : Int32} (hi : i.toInt = 1) (hb : b.toInt = 0) : b.toNatClampNeg = dnv W L i.toNatClampNeg := by
  have e1 := nn_eq i; have e2 := nn_eq b
  rw [show i.toNatClampNeg = 1 by omega, show b.toNatClampNeg = 0 by omega]; rfl
theorem dnv_go {W L : Nat → Int32} {b i i' x y : Int32} (h : b.toNatClampNeg = dnv W L i.toNatClampNeg) (ex : x = W i.toNatClampNeg) (ey : y = W b.toNatClampNeg) (hlt : y.toInt < x.toInt) (ei : i'.toInt = i.toInt + 1) (i1 : 1 ≤ i.toInt) : i.toNatClampNeg = dnv W L i'.toNatClampNeg := by
  have e1 := nn_eq i
  rw [nn_s ei (by omega), dnv, if_neg (by omega), ← h, ← ex, ← ey, if_pos (Or.inl hlt)]
theorem dnv_go2 {W L : Nat → Int32} {b i i' x y u v : Int32} (h : b.toNatClampNeg = dnv W L i.toNatClampNeg) (ex : x = W i.toNatClampNeg) (ey : y = W b.toNatClampNeg) (he : x.toInt = y.toInt) (eu : u = L i.toNatClampNeg) (ev : v = L b.toNatClampNeg) (hlt : v.toInt < u.toInt) (ei : i'.toInt = i.toInt + 1) (i1 : 1 ≤ i.toInt) : i.toNatClampNeg = dnv W L i'.toNatClampNeg := by
  have e1 := nn_eq i
  rw [nn_s ei (by omega), dnv, if_neg (by omega), ← h, ← ex, ← ey, ← eu, ← ev, if_pos (Or.inr ⟨he, hlt⟩)]
theorem dnv_st {W L : Nat → Int32} {b i i' x y : Int32} (h : b.toNatClampNeg = dnv W L i.toNatClampNeg) (ex : x = W i.toNatClampNeg) (ey : y = W b.toNatClampNeg) (hlt : x.toInt < y.toInt) (ei : i'.toInt = i.toInt + 1) (i1 : 1 ≤ i.toInt) : b.toNatClampNeg = dnv W L i'.toNatClampNeg := by
  have e1 := nn_eq i
  rw [nn_s ei (by omega), dnv, if_neg (by omega), ← h, ← ex, ← ey, if_neg (fun q => by omega)]
theorem dnv_st2 {W L : Nat → Int32} {b i i' x y u v : Int32} (h : b.toNatClampNeg = dnv W L i.toNatClampNeg) (ex : x = W i.toNatClampNeg) (ey : y = W b.toNatClampNeg) (he : x.toInt = y.toInt) (eu : u = L i.toNatClampNeg) (ev : v = L b.toNatClampNeg) (hlt : u.toInt ≤ v.toInt) (ei : i'.toInt = i.toInt + 1) (i1 : 1 ≤ i.toInt) : b.toNatClampNeg = dnv W L i'.toNatClampNeg := by
  have e1 := nn_eq i
  rw [nn_s ei (by omega), dnv, if_neg (by omega), ← h, ← ex, ← ey, ← eu, ← ev, if_neg (fun q => by omega)]
theorem dnv_lt {W L : Nat → Int32} : ∀ {n : Nat}, 1 ≤ n → dnv W L n < n
  | 0, h => absurd h (by decide)
  | n + 1, _ => by
    rw [dnv]
    by_cases h0 : n = 0
    · rw [if_pos h0]; omega
    · rw [if_neg h0]
      have q := dnv_lt (W := W) (L := L) (n := n) (by omega)
      split
      · omega
      · omega
theorem dnv_two {W W' L L' : Nat → Int32} : ∀ {n : Nat}, (∀ a : Nat, a < n → W a = W' a) → (∀ a : Nat, a < n → L a = L' a) → dnv W L n = dnv W' L' n
  | 0, _, _ => rfl
  | n + 1, hw, hl => by
    rw [dnv, dnv, dnv_two (fun a h => hw a (by omega)) (fun a h => hl a (by omega))]
    by_cases h0 : n = 0
    · rw [if_pos h0, if_pos h0]
    · rw [if_neg h0, if_neg h0]
      have q := dnv_lt (W := W') (L := L') (n := n) (by omega)
      rw [hw n (by omega), hl n (by omega), hw _ (by omega), hl _ (by omega)]
theorem dnv_end {W L : Nat → Int32} {b i g : Int32} (h : b.toNatClampNeg = dnv W L i.toNatClampNeg) (h1 : g.toInt ≤ i.toInt) (h2 : i.toInt ≤ g.toInt) : b.toNatClampNeg = dnv W L g.toNatClampNeg := by
  have e1 := nn_eq i; have e2 := nn_eq g
  rw [h, show i.toNatClampNeg = g.toNatClampNeg by omega]
theorem i32_nmul {x y z : Int32} {p q : Int} (e : x = y * z) (hy : y.toInt = p) (hz : z.toInt = q) (h1 : -10 ≤ p) (h2 : p ≤ 0) (h3 : 0 ≤ q) (h4 : q ≤ 99) : -990 ≤ x.toInt ∧ x.toInt ≤ 0 := by
  have m0 : 0 ≤ (-p) * q := Int.mul_nonneg (by omega) h3
  have m1 : (-p) * q ≤ 10 * q := Int.mul_le_mul_of_nonneg_right (by omega) h3
  have m2 : (-p) * q = -(p * q) := Int.neg_mul p q
  have m3 := i32_mul e hy hz (by omega) (by omega)
  rw [m3]; omega
theorem co_at {f : Nat → Int32} {ix a s r : Int32} (hix : ix.toInt = 4 * a.toInt + s.toInt) (he : r = f ix.toNatClampNeg) (a0 : 0 ≤ a.toInt) (s0 : 0 ≤ s.toInt) : r = f (4 * a.toNatClampNeg + s.toNatClampNeg) := by
  have e1 := nn_eq ix; have e2 := nn_eq a; have e3 := nn_eq s
  rw [he, show ix.toNatClampNeg = 4 * a.toNatClampNeg + s.toNatClampNeg by omega]
