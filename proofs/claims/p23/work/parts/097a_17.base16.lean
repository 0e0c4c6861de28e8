/-! one sum that does: the needs told one by one, in any order -/
theorem fr_tr {a b c d e f : Int} (h1 : a * d ≤ c * b) (h2 : c * f ≤ e * d) (hb : 0 < b) (hd : 0 < d) (hf : 0 < f) : a * f ≤ e * b := by
  have q1 : a * d * f ≤ c * b * f := Int.mul_le_mul_of_nonneg_right h1 (by omega)
  have q2 : c * f * b ≤ e * d * b := Int.mul_le_mul_of_nonneg_right h2 (by omega)
  have q3 : c * b * f = c * f * b := by rw [Int.mul_assoc, Int.mul_comm b f, ← Int.mul_assoc]
  have q4 : a * d * f = a * f * d := by rw [Int.mul_assoc, Int.mul_comm d f, ← Int.mul_assoc]
  have q5 : e * d * b = e * b * d := by rw [Int.mul_assoc, Int.mul_comm d b, ← Int.mul_assoc]
  rw [q4, q3] at q1; rw [q5] at q2
  exact Int.le_of_mul_le_mul_right (Int.le_trans q1 q2) hd
def lowI (P : Nat → Prop) (t m : Nat → Int) (L lu ll : Int) : Prop := 1 ≤ ll ∧ ((lu = L ∧ ll = 1) ∨ ∃ j : Nat, P j ∧ 0 < t j ∧ lu = m j ∧ ll = t j) ∧ L * ll ≤ lu * 1 ∧ ∀ j : Nat, P j → 0 < t j → m j * ll ≤ lu * t j
def capI (P : Nat → Prop) (t m : Nat → Int) (cu cl : Int) : Prop := (cl = 0 ∧ ∀ j : Nat, P j → ¬ t j < 0) ∨ (0 < cl ∧ (∃ j : Nat, P j ∧ t j < 0 ∧ cu = - m j ∧ cl = - t j) ∧ ∀ j : Nat, P j → t j < 0 → cu * (- t j) ≤ (- m j) * cl)
def brI (P : Nat → Prop) (t m : Nat → Int) (B : Prop) : Prop := B ↔ ∃ j : Nat, P j ∧ t j = 0 ∧ 0 < m j
def Fea (P : Nat → Prop) (t m : Nat → Int) (L : Int) : Prop := (∀ j : Nat, P j → t j = 0 → m j ≤ 0) ∧ (∀ j : Nat, P j → t j < 0 → L * (- t j) ≤ (- m j) * 1) ∧ ∀ i j : Nat, P i → P j → 0 < t i → t j < 0 → m i * (- t j) ≤ (- m j) * t i
theorem fea_iff {P : Nat → Prop} {t m : Nat → Int} {L lu ll cu cl : Int} {B : Prop} (h1 : lowI P t m L lu ll) (h2 : capI P t m cu cl) (h3 : brI P t m B) : (¬ B ∧ (cl = 0 ∨ lu * cl ≤ cu * ll)) ↔ Fea P t m L := by
  obtain ⟨a1, a2, a3, a4⟩ := h1
  constructor
  · intro ⟨hB, hc⟩
    refine ⟨fun j hj ht => Int.not_lt.mp (fun z => hB (h3.mpr ⟨j, hj, ht, z⟩)), fun j hj ht => ?_, fun i j hi hj hti htj => ?_⟩
    · rcases h2 with ⟨_, b⟩ | ⟨b1, _, b3⟩
      · exact absurd ht (b j hj)
      · have c1 : lu * cl ≤ cu * ll := hc.resolve_left (by omega)
        exact fr_tr (fr_tr a3 c1 (by decide) (by omega) b1) (b3 j hj ht) (by decide) b1 (by omega)
    · rcases h2 with ⟨_, b⟩ | ⟨b1, _, b3⟩
      · exact absurd htj (b j hj)
      · have c1 : lu * cl ≤ cu * ll := hc.resolve_left (by omega)
        exact fr_tr (fr_tr (a4 i hi hti) c1 hti (by omega) b1) (b3 j hj htj) hti b1 (by omega)
  · intro ⟨f1, f2, f3⟩
    refine ⟨fun z => ?_, ?_⟩
    · obtain ⟨j, j1, j2, j3⟩ := h3.mp z
      have := f1 j j1 j2; omega
    · rcases h2 with ⟨b, _⟩ | ⟨b1, ⟨j, j1, j2, j3, j4⟩, _⟩
      · exact Or.inl b
      · refine Or.inr ?_
        rw [j3, j4]
        rcases a2 with ⟨c1, c2⟩ | ⟨i, i1, i2, i3, i4⟩
        · rw [c1, c2]; exact f2 j j1 j2
        · rw [i3, i4]; exact f3 i j i1 j1 i2 j2
/-- a need: what it makes of the low end, of the cap -/
def ndL (t m lu ll lu' ll' : Int) : Prop := (0 < t ∧ lu * t < m * ll ∧ lu' = m ∧ ll' = t) ∨ (¬ (0 < t ∧ lu * t < m * ll) ∧ lu' = lu ∧ ll' = ll)
def ndC (t m cu cl cu' cl' : Int) : Prop := (t < 0 ∧ (cl = 0 ∨ cu * t < m * cl) ∧ cu' = - m ∧ cl' = - t) ∨ (¬ (t < 0 ∧ (cl = 0 ∨ cu * t < m * cl)) ∧ cu' = cu ∧ cl' = cl)
section NDS
variable {P Q : Nat → Prop} {t m : Nat → Int} {L lu ll cu cl lu' ll' cu' cl' : Int} {k : Nat} {B B' : Prop}
theorem lowI_0 (h : ∀ j : Nat, ¬ P j) : lowI P t m L L 1 := ⟨by decide, Or.inl ⟨rfl, rfl⟩, Int.le_refl _, fun j hj => absurd hj (h j)⟩
theorem capI_0 (h : ∀ j : Nat, ¬ P j) : capI P t m cu 0 := Or.inl ⟨rfl, fun j hj => absurd hj (h j)⟩
theorem brI_0 (h : ∀ j : Nat, ¬ P j) (hB : ¬ B) : brI P t m B := ⟨fun z => absurd z hB, fun ⟨j, hj, _⟩ => absurd hj (h j)⟩
theorem lowI_st (h : lowI P t m L lu ll) (n : ndL (t k) (m k) lu ll lu' ll') (hQ : ∀ j : Nat, Q j ↔ P j ∨ j = k) : lowI Q t m L lu' ll' := by
  obtain ⟨a1, a2, a3, a4⟩ := h
  rcases n with ⟨n1, n2, n3, n4⟩ | ⟨n1, n2, n3⟩
  · subst n3; subst n4
    refine ⟨by omega, Or.inr ⟨k, (hQ k).mpr (Or.inr rfl), n1, rfl, rfl⟩, fr_tr a3 (Int.le_of_lt n2) (by decide) (by omega) n1, fun j hj ht => ?_⟩
    rcases (hQ j).mp hj with q | q
    · exact fr_tr (a4 j q ht) (Int.le_of_lt n2) ht (by omega) n1
    · subst q; exact Int.le_refl _
  · subst n2; subst n3
    refine ⟨a1, ?_, a3, fun j hj ht => ?_⟩
    · rcases a2 with c | ⟨j, j1, j2⟩
      · exact Or.inl c
      · exact Or.inr ⟨j, (hQ j).mpr (Or.inl j1), j2⟩
    · rcases (hQ j).mp hj with q | q
      · exact a4 j q ht
      · subst q; exact Int.not_lt.mp (fun z => n1 ⟨ht, z⟩)
theorem ng_a {a b c d : Int} (h : c * a ≤ d * b) : b * (-d) ≤ a * (-c) := by
  have e1 : b * (-d) = -(d * b) := by rw [Int.mul_neg, Int.mul_comm]
  have e2 : a * (-c) = -(c * a) := by rw [Int.mul_neg, Int.mul_comm]
  rw [e1, e2]; omega
theorem capI_st (h : capI P t m cu cl) (n : ndC (t k) (m k) cu cl cu' cl') (hQ : ∀ j : Nat, Q j ↔ P j ∨ j = k) : capI Q t m cu' cl' := by
  rcases n with ⟨n1, n2, n3, n4⟩ | ⟨n1, n2, n3⟩
  · subst n3; subst n4
    refine Or.inr ⟨by omega, ⟨k, (hQ k).mpr (Or.inr rfl), n1, rfl, rfl⟩, fun j hj ht => ?_⟩
    rcases (hQ j).mp hj with q | q
    · rcases h with ⟨_, b⟩ | ⟨b1, _, b3⟩
      · exact absurd ht (b j q)
      · have c1 : cu * t k < m k * cl := n2.resolve_left (by omega)
        have c2 : (- m k) * cl ≤ cu * (- t k) := by rw [Int.neg_mul, Int.mul_neg]; omega
        exact fr_tr c2 (b3 j q ht) (by omega) b1 (by omega)
    · subst q; exact Int.le_refl _
  · subst n2; subst n3
    rcases h with ⟨b, b2⟩ | ⟨b1, ⟨j, j1, j2⟩, b3⟩
    · refine Or.inl ⟨b, fun j hj => ?_⟩
      rcases (hQ j).mp hj with q | q
      · exact b2 j q
      · subst q; exact fun z => n1 ⟨z, Or.inl b⟩
    · refine Or.inr ⟨b1, ⟨j, (hQ j).mpr (Or.inl j1), j2⟩, fun i hi ht => ?_⟩
      rcases (hQ i).mp hi with q | q
      · exact b3 i q ht
      · subst q
        have c1 : ¬ cu' * t i < m i * cl' := fun z => n1 ⟨ht, Or.inr z⟩
        rw [Int.neg_mul, Int.mul_neg]; omega
theorem brI_st (h : brI P t m B) (n : B' ↔ B ∨ (t k = 0 ∧ 0 < m k)) (hQ : ∀ j : Nat, Q j ↔ P j ∨ j = k) : brI Q t m B' := by
  constructor
  · intro z
    rcases n.mp z with q | q
    · obtain ⟨j, j1, j2⟩ := h.mp q; exact ⟨j, (hQ j).mpr (Or.inl j1), j2⟩
    · exact ⟨k, (hQ k).mpr (Or.inr rfl), q⟩
  · rintro ⟨j, j1, j2⟩
    rcases (hQ j).mp j1 with q | q
    · exact n.mpr (Or.inl (h.mpr ⟨j, q, j2⟩))
    · subst q; exact n.mpr (Or.inr j2)
end NDS
/-- all wages moved by L -/
theorem fea_sh {P : Nat → Prop} {t m : Nat → Int} (L : Int) : Fea P t (fun j => m j + t j * L) L ↔ Fea P t m 0 := by
  have e2 : ∀ j : Nat, (L * (- t j) ≤ (-(m j + t j * L)) * 1 ↔ 0 * (- t j) ≤ (- m j) * 1) := fun j => by
    have q : L * (- t j) = -(t j * L) := by rw [Int.mul_neg, Int.mul_comm]
    rw [q]; omega
  have e3 : ∀ i j : Nat, ((m i + t i * L) * (- t j) ≤ (-(m j + t j * L)) * t i ↔ m i * (- t j) ≤ (- m j) * t i) := fun i j => by
    have q1 : (m i + t i * L) * (- t j) = m i * (- t j) - t i * L * t j := by grind
    have q2 : (-(m j + t j * L)) * t i = (- m j) * t i - t i * L * t j := by grind
    rw [q1, q2]; omega
  unfold Fea
  constructor
  · intro ⟨f1, f2, f3⟩
    exact ⟨fun j hj ht => by have z := f1 j hj ht; simp only [ht, Int.zero_mul, Int.add_zero] at z; exact z, fun j hj ht => (e2 j).mp (f2 j hj ht), fun i j hi hj h1 h2 => (e3 i j).mp (f3 i j hi hj h1 h2)⟩
  · intro ⟨f1, f2, f3⟩
    exact ⟨fun j hj ht => by have z := f1 j hj ht; simp only [ht, Int.zero_mul, Int.add_zero]; exact z, fun j hj ht => (e2 j).mpr (f2 j hj ht), fun i j hi hj h1 h2 => (e3 i j).mpr (f3 i j hi hj h1 h2)⟩
theorem fea_two {P Q : Nat → Prop} {t t' m m' : Nat → Int} {L : Int} (hP : ∀ j : Nat, P j ↔ Q j) (ht : ∀ j : Nat, Q j → t j = t' j) (hm : ∀ j : Nat, Q j → m j = m' j) : Fea P t m L ↔ Fea Q t' m' L := by
  unfold Fea
  constructor
  · intro ⟨f1, f2, f3⟩
    exact ⟨fun j hj z => by rw [← hm j hj]; exact f1 j ((hP j).mpr hj) ((ht j hj).trans z), fun j hj z => by rw [← hm j hj, ← ht j hj]; exact f2 j ((hP j).mpr hj) (by rw [ht j hj]; exact z), fun i j hi hj z y => by rw [← hm j hj, ← hm i hi, ← ht i hi, ← ht j hj]; exact f3 i j ((hP i).mpr hi) ((hP j).mpr hj) (by rw [ht i hi]; exact z) (by rw [ht j hj]; exact y)⟩
  · intro ⟨f1, f2, f3⟩
    exact ⟨fun j hj z => by have q := (hP j).mp hj; rw [hm j q]; exact f1 j q ((ht j q).symm.trans z), fun j hj z => by have q := (hP j).mp hj; rw [hm j q, ht j q]; exact f2 j q (by rw [← ht j q]; exact z), fun i j hi hj z y => by have q := (hP i).mp hi; have p := (hP j).mp hj; rw [hm j p, hm i q, ht i q, ht j p]; exact f3 i j q p (by rw [← ht i q]; exact z) (by rw [← ht j p]; exact y)⟩
/-- the chance of SIGNS that bring as much or more -/
def cfr (br c : Nat → Int32) (k : Nat) : Nat → Int
  | 0 => 0
  | s + 1 => cfr br c k s + (if (br k).toInt ≤ (br s).toInt then (c s).toInt else 0)
theorem cfr_two {br br' c c' : Nat → Int32} {k : Nat} (hk : br k = br' k) : ∀ {n : Nat}, (∀ i : Nat, i < n → br i = br' i) → (∀ i : Nat, i < n → c i = c' i) → cfr br c k n = cfr br' c' k n
  | 0, _, _ => rfl
  | n + 1, h1, h2 => by rw [cfr, cfr, cfr_two hk (fun i hi => h1 i (by omega)) (fun i hi => h2 i (by omega)), hk, h1 n (by omega), h2 n (by omega)]
section CFR
variable {br c : Nat → Int32} {k : Nat} {u u' x s s' bs bb : Int32}
theorem cfr_0 : (0 : Int32).toInt = cfr br c k (Int32.toNatClampNeg 0) := by rw [show Int32.toNatClampNeg 0 = 0 from by decide]; rfl
theorem cfr_up (h : u.toInt = cfr br c k s.toNatClampNeg) (e1 : bs = br s.toNatClampNeg) (e2 : bb = br k) (hl : bb.toInt ≤ bs.toInt) (ex : x = c s.toNatClampNeg) (tu : u'.toInt = u.toInt + x.toInt) (es : s'.toInt = s.toInt + 1) (s0 : 0 ≤ s.toInt) : u'.toInt = cfr br c k s'.toNatClampNeg := by
  rw [nn_s es s0, cfr, ← e1, ← e2, if_pos hl, ← ex, ← h]; exact tu
theorem cfr_st (h : u.toInt = cfr br c k s.toNatClampNeg) (e1 : bs = br s.toNatClampNeg) (e2 : bb = br k) (hl : bs.toInt < bb.toInt) (es : s'.toInt = s.toInt + 1) (s0 : 0 ≤ s.toInt) : u.toInt = cfr br c k s'.toNatClampNeg := by
  rw [nn_s es s0, cfr, ← e1, ← e2, if_neg (by omega), ← h]; omega
theorem cfr_end {g : Int32} (h : u.toInt = cfr br c k s.toNatClampNeg) (h1 : g.toInt ≤ s.toInt) (h2 : s.toInt ≤ g.toInt) : u.toInt = cfr br c k g.toNatClampNeg := by
  have e1 := nn_eq s; have e2 := nn_eq g
  rw [h, show s.toNatClampNeg = g.toNatClampNeg by omega]
end CFR
