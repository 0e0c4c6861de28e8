/-! BAR, WATCH: the least sum, its wage, its cost; the one that is picked -/
/-- u / l is the least sum that all needs bear, L or more -/
def lowR (P : Nat → Prop) (t m : Nat → Int) (L u l : Int) : Prop := 0 < l ∧ L * l ≤ u ∧ (∀ j : Nat, P j → 0 < t j → m j * l ≤ u * t j) ∧ (u = L * l ∨ ∃ j : Nat, P j ∧ 0 < t j ∧ u * t j = m j * l)
theorem lowR_of {P : Nat → Prop} {t m : Nat → Int} {L lu ll : Int} (h : lowI P t m L lu ll) : lowR P t m L lu ll := by
  obtain ⟨a1, a2, a3, a4⟩ := h
  refine ⟨by omega, by omega, a4, ?_⟩
  rcases a2 with ⟨c1, c2⟩ | ⟨j, j1, j2, j3, j4⟩
  · exact Or.inl (by rw [c1, c2, Int.mul_one])
  · exact Or.inr ⟨j, j1, j2, by rw [j3, j4]⟩
theorem lowR_le {P : Nat → Prop} {t m : Nat → Int} {L u l u' l' : Int} (h : lowR P t m L u l) (h' : lowR P t m L u' l') : u' * l ≤ u * l' := by
  obtain ⟨a1, a2, a3, a4⟩ := h
  obtain ⟨b1, b2, b3, b4⟩ := h'
  rcases b4 with c | ⟨j, j1, j2, j3⟩
  · rw [c]
    have q := Int.mul_le_mul_of_nonneg_right a2 (Int.le_of_lt b1)
    have e : L * l' * l = L * l * l' := by grind
    rw [e]; exact q
  · have q := Int.mul_le_mul_of_nonneg_right (a3 j j1 j2) (Int.le_of_lt b1)
    refine Int.le_of_mul_le_mul_right (a := t j) ?_ j2
    have e1 : u' * l * t j = u' * t j * l := by grind
    have e2 : u * l' * t j = u * t j * l' := by grind
    have e3 : m j * l' * l = m j * l * l' := by grind
    rw [e1, e2, j3, e3]; exact q
theorem lowR_uq {P : Nat → Prop} {t m : Nat → Int} {L u l u' l' : Int} (h : lowR P t m L u l) (h' : lowR P t m L u' l') : u * l' = u' * l := Int.le_antisymm (lowR_le h' h) (lowR_le h h')
theorem lowR_sh {P : Nat → Prop} {t m : Nat → Int} {L u l : Int} : lowR P t (fun j => m j + t j * L) L (u + L * l) l ↔ lowR P t m 0 u l := by
  have e4 : ∀ j : Nat, ((m j + t j * L) * l ≤ (u + L * l) * t j ↔ m j * l ≤ u * t j) := fun j => by
    have q1 : (m j + t j * L) * l = m j * l + t j * L * l := Int.add_mul _ _ _
    have q2 : (u + L * l) * t j = u * t j + t j * L * l := by grind
    rw [q1, q2]; omega
  have e5 : ∀ j : Nat, ((u + L * l) * t j = (m j + t j * L) * l ↔ u * t j = m j * l) := fun j => by
    have q1 : (m j + t j * L) * l = m j * l + t j * L * l := Int.add_mul _ _ _
    have q2 : (u + L * l) * t j = u * t j + t j * L * l := by grind
    rw [q1, q2]; omega
  unfold lowR
  constructor
  · rintro ⟨a1, a2, a3, a4⟩
    refine ⟨a1, by omega, fun j hj ht => (e4 j).mp (a3 j hj ht), ?_⟩
    rcases a4 with c | ⟨j, j1, j2, j3⟩
    · exact Or.inl (by omega)
    · exact Or.inr ⟨j, j1, j2, (e5 j).mp j3⟩
  · rintro ⟨a1, a2, a3, a4⟩
    refine ⟨a1, by omega, fun j hj ht => (e4 j).mpr (a3 j hj ht), ?_⟩
    rcases a4 with c | ⟨j, j1, j2, j3⟩
    · exact Or.inl (by omega)
    · exact Or.inr ⟨j, j1, j2, (e5 j).mpr j3⟩
theorem lowR_sc {P P' : Nat → Prop} {t m t' m' c : Nat → Int} {L u l : Int} (hP : ∀ j : Nat, P j ↔ P' j) (hc : ∀ j : Nat, P j → 0 < c j ∧ t' j = c j * t j ∧ m' j = c j * m j) : lowR P t m L u l ↔ lowR P' t' m' L u l := by
  have p1 : ∀ j : Nat, P j → (0 < t' j ↔ 0 < t j) := fun j hj => by
    obtain ⟨c0, c1, _⟩ := hc j hj
    rw [c1]; exact ⟨fun z => Int.pos_of_mul_pos_right z c0, fun z => Int.mul_pos c0 z⟩
  have p2 : ∀ j : Nat, P j → (m' j * l ≤ u * t' j ↔ m j * l ≤ u * t j) := fun j hj => by
    obtain ⟨c0, c1, c2⟩ := hc j hj
    have q1 : c j * m j * l = c j * (m j * l) := Int.mul_assoc _ _ _
    have q2 : u * (c j * t j) = c j * (u * t j) := by grind
    rw [c1, c2, q1, q2]
    exact ⟨fun z => Int.le_of_mul_le_mul_left z c0, fun z => Int.mul_le_mul_of_nonneg_left z (Int.le_of_lt c0)⟩
  have p3 : ∀ j : Nat, P j → (u * t' j = m' j * l ↔ u * t j = m j * l) := fun j hj => by
    obtain ⟨c0, c1, c2⟩ := hc j hj
    have q1 : c j * m j * l = c j * (m j * l) := Int.mul_assoc _ _ _
    have q2 : u * (c j * t j) = c j * (u * t j) := by grind
    rw [c1, c2, q1, q2]
    exact ⟨fun z => Int.eq_of_mul_eq_mul_left (Int.ne_of_gt c0) z, fun z => by rw [z]⟩
  unfold lowR
  constructor
  · rintro ⟨a1, a2, a3, a4⟩
    refine ⟨a1, a2, fun j hj ht => ?_, ?_⟩
    · have hj2 := (hP j).mpr hj
      exact (p2 j hj2).mpr (a3 j hj2 ((p1 j hj2).mp ht))
    · rcases a4 with c | ⟨j, j1, j2, j3⟩
      · exact Or.inl c
      · exact Or.inr ⟨j, (hP j).mp j1, (p1 j j1).mpr j2, (p3 j j1).mpr j3⟩
  · rintro ⟨a1, a2, a3, a4⟩
    refine ⟨a1, a2, fun j hj ht => (p2 j hj).mp (a3 j ((hP j).mp hj) ((p1 j hj).mpr ht)), ?_⟩
    rcases a4 with c | ⟨j, j1, j2, j3⟩
    · exact Or.inl c
    · have hj := (hP j).mpr j1
      exact Or.inr ⟨j, hj, (p1 j hj).mp j2, (p3 j hj).mp j3⟩
theorem sc_lt {c a : Int} (h : 0 < c) : (c * a < 0 ↔ a < 0) ∧ (0 < c * a ↔ 0 < a) ∧ (c * a = 0 ↔ a = 0) ∧ (c * a ≤ 0 ↔ a ≤ 0) := by
  have h2 : 0 < c * a ↔ 0 < a := ⟨fun z => Int.pos_of_mul_pos_right z h, fun z => Int.mul_pos h z⟩
  have h3 : c * a = 0 ↔ a = 0 := ⟨fun z => (Int.mul_eq_zero.mp z).resolve_left (by omega), fun z => by rw [z, Int.mul_zero]⟩
  omega
theorem fea_sc {P P' : Nat → Prop} {t m t' m' c : Nat → Int} {L : Int} (hP : ∀ j : Nat, P j ↔ P' j) (hc : ∀ j : Nat, P j → 0 < c j ∧ t' j = c j * t j ∧ m' j = c j * m j) : Fea P t m L ↔ Fea P' t' m' L := by
  have e2 : ∀ j : Nat, P j → (L * (- t' j) ≤ (- m' j) * 1 ↔ L * (- t j) ≤ (- m j) * 1) := fun j hj => by
    obtain ⟨c0, c1, c2⟩ := hc j hj
    have q1 : L * (-(c j * t j)) = c j * (L * (- t j)) := by grind
    have q2 : (-(c j * m j)) * 1 = c j * ((- m j) * 1) := by grind
    rw [c1, c2, q1, q2]
    exact ⟨fun z => Int.le_of_mul_le_mul_left z c0, fun z => Int.mul_le_mul_of_nonneg_left z (Int.le_of_lt c0)⟩
  have e3 : ∀ i j : Nat, P i → P j → (m' i * (- t' j) ≤ (- m' j) * t' i ↔ m i * (- t j) ≤ (- m j) * t i) := fun i j hi hj => by
    obtain ⟨c0, c1, c2⟩ := hc i hi
    obtain ⟨d0, d1, d2⟩ := hc j hj
    have q1 : c i * m i * (-(c j * t j)) = c i * c j * (m i * (- t j)) := by grind
    have q2 : (-(c j * m j)) * (c i * t i) = c i * c j * ((- m j) * t i) := by grind
    rw [c1, c2, d1, d2, q1, q2]
    have k := Int.mul_pos c0 d0
    exact ⟨fun z => Int.le_of_mul_le_mul_left z k, fun z => Int.mul_le_mul_of_nonneg_left z (Int.le_of_lt k)⟩
  unfold Fea
  constructor
  · intro ⟨f1, f2, f3⟩
    refine ⟨fun j hj z => ?_, fun j hj z => ?_, fun i j hi hj x y => ?_⟩
    · have k := (hP j).mpr hj; obtain ⟨c0, c1, c2⟩ := hc j k
      rw [c1] at z; rw [c2]
      exact (sc_lt c0).2.2.2.mpr (f1 j k ((sc_lt c0).2.2.1.mp z))
    · have k := (hP j).mpr hj; obtain ⟨c0, c1, c2⟩ := hc j k
      have z' := z; rw [c1] at z'
      exact (e2 j k).mpr (f2 j k ((sc_lt c0).1.mp z'))
    · have ki := (hP i).mpr hi; have kj := (hP j).mpr hj
      obtain ⟨c0, c1, c2⟩ := hc i ki; obtain ⟨d0, d1, d2⟩ := hc j kj
      have x' := x; have y' := y; rw [c1] at x'; rw [d1] at y'
      exact (e3 i j ki kj).mpr (f3 i j ki kj ((sc_lt c0).2.1.mp x') ((sc_lt d0).1.mp y'))
  · intro ⟨f1, f2, f3⟩
    refine ⟨fun j hj z => ?_, fun j hj z => ?_, fun i j hi hj x y => ?_⟩
    · obtain ⟨c0, c1, c2⟩ := hc j hj
      have w := f1 j ((hP j).mp hj) (by rw [c1]; exact (sc_lt c0).2.2.1.mpr z)
      rw [c2] at w; exact (sc_lt c0).2.2.2.mp w
    · obtain ⟨c0, c1, c2⟩ := hc j hj
      exact (e2 j hj).mp (f2 j ((hP j).mp hj) (by rw [c1]; exact (sc_lt c0).1.mpr z))
    · obtain ⟨c0, c1, c2⟩ := hc i hi; obtain ⟨d0, d1, d2⟩ := hc j hj
      exact (e3 i j hi hj).mp (f3 i j ((hP i).mp hi) ((hP j).mp hj) (by rw [c1]; exact (sc_lt c0).2.1.mpr x) (by rw [d1]; exact (sc_lt d0).1.mpr y))
/-- the wage wu / wl whose FEELING is u / l: by the step i -/
def wfr (mk : Nat → Int) (i : Nat) : Int := if i = 0 then 0 else mk (i - 1)
def wgA (ra mk fl : Nat → Int) (u l wu wl : Int) (i : Nat) : Prop := 0 < wl ∧ wu * (l * ra i) = (wfr mk i * l * ra i + u - wfr fl i * l) * wl
def wgR (rt : Nat) (ra mk fl : Nat → Int) (u l wu wl : Int) : Prop := ∃ i : Nat, i < rt ∧ (i = 0 ∨ l * fl (i - 1) < u) ∧ (i + 1 = rt ∨ u ≤ l * fl i) ∧ wgA ra mk fl u l wu wl i
theorem wgA_uq {ra mk fl : Nat → Int} {u l wu wl u' l' wu' wl' : Int} {i : Nat} (hr : 0 < ra i) (h0 : 0 < l) (h0' : 0 < l') (hq : u * l' = u' * l) (h : wgA ra mk fl u l wu wl i) (h' : wgA ra mk fl u' l' wu' wl' i) : wu * wl' = wu' * wl := by
  obtain ⟨_, e⟩ := h
  obtain ⟨_, e'⟩ := h'
  have hp : 0 < l * l' * ra i := Int.mul_pos (Int.mul_pos h0 h0') hr
  refine Int.eq_of_mul_eq_mul_right (Int.ne_of_gt hp) ?_
  have x1 : wu * wl' * (l * l' * ra i) = wu * (l * ra i) * (wl' * l') := by grind
  have x2 : wu' * wl * (l * l' * ra i) = wu' * (l' * ra i) * (wl * l) := by grind
  rw [x1, x2, e, e']
  generalize wfr mk i = A at *
  generalize wfr fl i = B at *
  generalize ra i = C at *
  have y1 : (A * l * C + u - B * l) * wl * (wl' * l') = (A * C * l * l' - B * l * l' + u * l') * (wl * wl') := by grind
  have y2 : (A * l' * C + u' - B * l') * wl' * (wl * l) = (A * C * l * l' - B * l * l' + u' * l) * (wl * wl') := by grind
  rw [y1, y2, hq]
theorem wgR_uq {rt : Nat} {ra mk fl : Nat → Int} {u l wu wl u' l' wu' wl' : Int} (hr : ∀ i : Nat, i < rt → 0 < ra i) (hm : ∀ i j : Nat, i ≤ j → j + 1 < rt → fl i ≤ fl j) (h0 : 0 < l) (h0' : 0 < l') (hq : u * l' = u' * l) (h : wgR rt ra mk fl u l wu wl) (h' : wgR rt ra mk fl u' l' wu' wl') : wu * wl' = wu' * wl := by
  obtain ⟨i, i1, i2, i3, i4⟩ := h
  obtain ⟨j, j1, j2, j3, j4⟩ := h'
  have key : ∀ {x y p q : Int} {a b : Nat}, 0 < y → 0 < q → x * q = p * y → a < b → b < rt → (a + 1 = rt ∨ x ≤ y * fl a) → (b = 0 ∨ q * fl (b - 1) < p) → False := by
    intro x y p q a b hy hq0 he hab hb c1 c2
    have c1' := c1.resolve_left (by omega)
    have c2' := c2.resolve_left (by omega)
    have d1 : fl a ≤ fl (b - 1) := hm a (b - 1) (by omega) (by omega)
    have d2 : x * q ≤ y * fl a * q := Int.mul_le_mul_of_nonneg_right c1' (by omega)
    have d3 : q * fl (b - 1) * y < p * y := Int.mul_lt_mul_of_pos_right c2' hy
    have d4 : y * fl a * q = q * y * fl a := by grind
    have d5 : q * fl (b - 1) * y = q * y * fl (b - 1) := by grind
    have d6 : q * y * fl a ≤ q * y * fl (b - 1) := Int.mul_le_mul_of_nonneg_left d1 (Int.mul_nonneg (by omega) (by omega))
    rw [d4] at d2; rw [d5] at d3
    omega
  have hij : i = j := by
    rcases Nat.lt_trichotomy i j with z | z | z
    · exact (key h0 h0' hq z j1 i3 j2).elim
    · exact z
    · exact (key h0' h0 hq.symm z i1 j3 i2).elim
  subst hij
  exact wgA_uq (hr i i1) h0 h0' hq i4 j4
theorem wgR_two {rt : Nat} {ra ra' mk mk' fl fl' : Nat → Int} {u l wu wl : Int} (hr : ∀ i : Nat, i < rt → ra i = ra' i) (hm : ∀ i : Nat, i + 1 < rt → mk i = mk' i) (hf : ∀ i : Nat, i + 1 < rt → fl i = fl' i) (h : wgR rt ra mk fl u l wu wl) : wgR rt ra' mk' fl' u l wu wl := by
  obtain ⟨i, i1, i2, i3, i4, i5⟩ := h
  have e1 : wfr mk i = wfr mk' i := by
    unfold wfr; split
    · rfl
    · exact hm _ (by omega)
  have e2 : wfr fl i = wfr fl' i := by
    unfold wfr; split
    · rfl
    · exact hf _ (by omega)
  refine ⟨i, i1, ?_, ?_, i4, by rw [← e1, ← e2, ← hr i i1]; exact i5⟩
  · rcases i2 with z | z
    · exact Or.inl z
    · by_cases z0 : i = 0
      · exact Or.inl z0
      · exact Or.inr (by rw [← hf _ (by omega)]; exact z)
  · rcases i3 with z | z
    · exact Or.inl z
    · by_cases z0 : i + 1 = rt
      · exact Or.inl z0
      · exact Or.inr (by rw [← hf _ (by omega)]; exact z)
/-- u / l is the cost: p ways of W are paid that wage, r more in all -/
def cstQ (X : Int → Int → Prop) (Y : Int → Int → Int → Int → Prop) (W p r u l : Int) : Prop := 0 < l ∧ ∃ fu fl wu wl : Int, X fu fl ∧ 0 < fl ∧ Y fu fl wu wl ∧ 0 < wl ∧ u * (W * wl) = (p * wu + r * wl) * l
theorem cstQ_uq {X : Int → Int → Prop} {Y : Int → Int → Int → Int → Prop} {W p r u l u' l' : Int} (hW : 0 < W) (hX : ∀ a b a' b' : Int, X a b → X a' b' → a * b' = a' * b) (hY : ∀ a b a' b' c d c' d' : Int, 0 < b → 0 < b' → a * b' = a' * b → Y a b c d → Y a' b' c' d' → c * d' = c' * d) (h : cstQ X Y W p r u l) (h' : cstQ X Y W p r u' l') : u * l' = u' * l := by
  obtain ⟨_, fu, fl, wu, wl, x1, x2, x3, x4, x5⟩ := h
  obtain ⟨_, fu', fl', wu', wl', y1, y2, y3, y4, y5⟩ := h'
  have e := hY _ _ _ _ _ _ _ _ x2 y2 (hX _ _ _ _ x1 y1) x3 y3
  have hp : 0 < W * wl * wl' := Int.mul_pos (Int.mul_pos hW x4) y4
  refine Int.eq_of_mul_eq_mul_right (Int.ne_of_gt hp) ?_
  have z1 : u * l' * (W * wl * wl') = u * (W * wl) * (l' * wl') := by grind
  have z2 : u' * l * (W * wl * wl') = u' * (W * wl') * (l * wl) := by grind
  rw [z1, z2, x5, y5]
  have z3 : (p * wu + r * wl) * l * (l' * wl') = (p * (wu * wl') + r * wl * wl') * (l * l') := by grind
  have z4 : (p * wu' + r * wl') * l' * (l * wl) = (p * (wu' * wl) + r * wl * wl') * (l * l') := by grind
  rw [z3, z4, e]
theorem cstQ_imp {X X' : Int → Int → Prop} {Y Y' : Int → Int → Int → Int → Prop} {W p r u l : Int} (hX : ∀ a b : Int, X a b → X' a b) (hY : ∀ a b c d : Int, Y a b c d → Y' a b c d) (h : cstQ X Y W p r u l) : cstQ X' Y' W p r u l := by
  obtain ⟨x0, fu, fl, wu, wl, x1, x2, x3, x4, x5⟩ := h
  exact ⟨x0, fu, fl, wu, wl, hX _ _ x1, x2, hY _ _ _ _ x3, x4, x5⟩
/-- which one is picked of the first n: the first of the cheapest -/
def pickI (F : Nat → Prop) (Q : Nat → Int → Int → Prop) (n : Nat) (k u l : Int) : Prop := (k = -1 ∧ ∀ s : Nat, s < n → ¬ F s) ∨ (∃ j : Nat, j < n ∧ k = (j : Int) ∧ F j ∧ Q j u l ∧ (∀ s : Nat, s < j → F s → ∀ u' l' : Int, Q s u' l' → u * l' < u' * l) ∧ (∀ s : Nat, j < s → s < n → F s → ∀ u' l' : Int, Q s u' l' → u * l' ≤ u' * l))
theorem fr_lt {a b c d e f : Int} (h1 : a * d < c * b) (h2 : c * f ≤ e * d) (hb : 0 < b) (hd : 0 < d) (hf : 0 < f) : a * f < e * b := by
  have q1 : a * d * f < c * b * f := Int.mul_lt_mul_of_pos_right h1 hf
  have q2 : c * f * b ≤ e * d * b := Int.mul_le_mul_of_nonneg_right h2 (by omega)
  have q3 : c * b * f = c * f * b := by grind
  have q4 : a * d * f = a * f * d := by grind
  have q5 : e * d * b = e * b * d := by grind
  rw [q4, q3] at q1; rw [q5] at q2
  exact Int.lt_of_mul_lt_mul_right (Int.lt_of_lt_of_le q1 q2) (by omega)
section PICK
variable {F F' : Nat → Prop} {Q Q' : Nat → Int → Int → Prop} {n : Nat} {k u l u' l' : Int}
theorem pick_0 : pickI F Q 0 (-1) u l := Or.inl ⟨rfl, fun s h => absurd h (Nat.not_lt_zero s)⟩
theorem pick_n (h : pickI F Q n k u l) (hn : ¬ F n) : pickI F Q (n + 1) k u l := by
  rcases h with ⟨a1, a2⟩ | ⟨j, a1, a2, a3, a4, a5, a6⟩
  · refine Or.inl ⟨a1, fun s hs => ?_⟩
    by_cases q : s = n
    · subst q; exact hn
    · exact a2 s (by omega)
  · refine Or.inr ⟨j, by omega, a2, a3, a4, a5, fun s h1 h2 h3 => ?_⟩
    by_cases q : s = n
    · subst q; exact absurd h3 hn
    · exact a6 s h1 (by omega) h3
theorem pick_t (hQ : ∀ (s : Nat) (a b : Int), Q s a b → 0 < b) (hU : ∀ (s : Nat) (a b c d : Int), s ≤ n → Q s a b → Q s c d → a * d = c * b) (h : pickI F Q n k u l) (hF : F n) (hq : Q n u' l') (hk : k = -1 ∨ u' * l < u * l') : pickI F Q (n + 1) (n : Int) u' l' := by
  refine Or.inr ⟨n, by omega, rfl, hF, hq, fun s hs hFs a b hab => ?_, fun s h1 h2 => absurd h2 (by omega)⟩
  rcases h with ⟨a1, a2⟩ | ⟨j, a1, a2, a3, a4, a5, a6⟩
  · exact absurd hFs (a2 s hs)
  · have hlt := hk.resolve_left (by omega)
    have hle : u * b ≤ a * l := by
      rcases Nat.lt_trichotomy s j with z | z | z
      · exact Int.le_of_lt (a5 s z hFs a b hab)
      · subst z; exact Int.le_of_eq (hU s u l a b (by omega) a4 hab)
      · exact a6 s z hs hFs a b hab
    exact fr_lt hlt hle (hQ _ _ _ hq) (hQ _ _ _ a4) (hQ _ _ _ hab)
theorem pick_s (hQ : ∀ (s : Nat) (a b : Int), Q s a b → 0 < b) (hU : ∀ (s : Nat) (a b c d : Int), s ≤ n → Q s a b → Q s c d → a * d = c * b) (h : pickI F Q n k u l) (hk : ¬ k = -1) (hq : Q n u' l') (hle : u * l' ≤ u' * l) : pickI F Q (n + 1) k u l := by
  rcases h with ⟨a1, a2⟩ | ⟨j, a1, a2, a3, a4, a5, a6⟩
  · exact absurd a1 hk
  · refine Or.inr ⟨j, by omega, a2, a3, a4, a5, fun s h1 h2 h3 a b hab => ?_⟩
    by_cases q : s = n
    · subst q
      exact fr_tr hle (Int.le_of_eq (hU s u' l' a b (Nat.le_refl _) hq hab)) (hQ _ _ _ a4) (hQ _ _ _ hq) (hQ _ _ _ hab)
    · exact a6 s h1 (by omega) h3 a b hab
theorem pick_uq {k' : Int} (hF : ∀ s : Nat, s < n → (F s ↔ F' s)) (hQ : ∀ s : Nat, s < n → ∀ a b : Int, Q s a b ↔ Q' s a b) (h : pickI F Q n k u l) (h' : pickI F' Q' n k' u' l') : k = k' := by
  rcases h with ⟨a1, a2⟩ | ⟨j, a1, a2, a3, a4, a5, a6⟩ <;> rcases h' with ⟨b1, b2⟩ | ⟨i, b1, b2, b3, b4, b5, b6⟩
  · rw [a1, b1]
  · exact absurd ((hF i b1).mpr b3) (a2 i b1)
  · exact absurd ((hF j a1).mp a3) (b2 j a1)
  · rcases Nat.lt_trichotomy j i with z | z | z
    · have x1 := b5 j z ((hF j a1).mp a3) u l ((hQ j a1 u l).mp a4)
      have x2 := a6 i z b1 ((hF i b1).mpr b3) u' l' ((hQ i b1 u' l').mpr b4)
      omega
    · rw [a2, b2, z]
    · have x1 := a5 i z ((hF i b1).mpr b3) u' l' ((hQ i b1 u' l').mpr b4)
      have x2 := b6 j z a1 ((hF j a1).mp a3) u l ((hQ j a1 u l).mp a4)
      omega
end PICK
