def kdv (c : Int32) : Int := if 97 ≤ c.toInt ∧ c.toInt ≤ 122 then 1 else if 48 ≤ c.toInt ∧ c.toInt ≤ 57 then 2 else if c.toInt = 32 ∨ c.toInt = 10 then 5 else if c.toInt = 59 then 3 else 4
theorem kdv_r (c : Int32) : 1 ≤ kdv c ∧ kdv c ≤ 5 := by
  unfold kdv; (repeat' split) <;> omega
theorem kdv_1 {c : Int32} (h : kdv c = 1) : 97 ≤ c.toInt ∧ c.toInt ≤ 122 := by
  unfold kdv at h; (repeat' split at h) <;> omega
theorem kdv_2 {c : Int32} (h : kdv c = 2) : 48 ≤ c.toInt ∧ c.toInt ≤ 57 := by
  unfold kdv at h; (repeat' split at h) <;> omega
/-- the end of the run of kind k that begins at p -/
def skF (f : Nat → Int32) (n : Nat) (k : Int) : Nat → Nat → Nat
  | 0, p => p
  | d + 1, p => if p < n ∧ kdv (f p) = k then skF f n k d (p + 1) else p
def skv (f : Nat → Int32) (n : Nat) (k : Int) (p : Nat) : Nat := skF f n k (n - p) p
theorem skv_step {f : Nat → Int32} {n p : Nat} {k : Int} (h : p < n) (hk : kdv (f p) = k) : skv f n k p = skv f n k (p + 1) := by
  unfold skv
  obtain ⟨d, hd⟩ : ∃ d, n - p = d + 1 := ⟨n - p - 1, by omega⟩
  have hd2 : n - (p + 1) = d := by omega
  rw [hd, hd2, skF, if_pos ⟨h, hk⟩]
theorem skv_stop {f : Nat → Int32} {n p : Nat} {k : Int} (h : ¬ (p < n ∧ kdv (f p) = k)) : skv f n k p = p := by
  unfold skv
  cases n - p with
  | zero => rfl
  | succ d => rw [skF, if_neg h]
theorem skF_le (f : Nat → Int32) (n : Nat) (k : Int) : ∀ d p : Nat, p ≤ skF f n k d p
  | 0, p => Nat.le_refl p
  | d + 1, p => by
    unfold skF
    split
    · exact Nat.le_trans (Nat.le_succ p) (skF_le f n k d (p + 1))
    · exact Nat.le_refl p
theorem skv_le (f : Nat → Int32) (n : Nat) (k : Int) (p : Nat) : p ≤ skv f n k p := skF_le f n k _ p
theorem skF_ub (f : Nat → Int32) (n : Nat) (k : Int) : ∀ d p : Nat, p ≤ n → skF f n k d p ≤ n
  | 0, p, h => h
  | d + 1, p, h => by
    unfold skF
    split
    · next h2 => exact skF_ub f n k d (p + 1) h2.1
    · exact h
theorem skv_ub {f : Nat → Int32} {n : Nat} {k : Int} {p : Nat} (h : p ≤ n) : skv f n k p ≤ n := skF_ub f n k _ p h
theorem skF_all (f : Nat → Int32) (n : Nat) (k : Int) : ∀ d p i : Nat, p ≤ i → i < skF f n k d p → i < n ∧ kdv (f i) = k
  | 0, p, i, h, h2 => absurd h2 (Nat.not_lt.mpr h)
  | d + 1, p, i, h, h2 => by
    unfold skF at h2
    split at h2
    · next h3 =>
      by_cases hp : p = i
      · subst hp; exact h3
      · exact skF_all f n k d (p + 1) i (by omega) h2
    · omega
theorem skv_all {f : Nat → Int32} {n : Nat} {k : Int} {p i : Nat} (h : p ≤ i) (h2 : i < skv f n k p) : i < n ∧ kdv (f i) = k := skF_all f n k _ p i h h2
/-- the TOKEN that is found from p on: where it begins, its kind, its end -/
def tkA (f : Nat → Int32) (n p : Nat) : Nat := skv f n 5 p
def tkS (f : Nat → Int32) (n p : Nat) : Int := if n ≤ tkA f n p then 0 else if kdv (f (tkA f n p)) = 1 then (if 8 < skv f n 1 (tkA f n p) - tkA f n p then 4 else 1) else if kdv (f (tkA f n p)) = 2 then (if 4 < skv f n 2 (tkA f n p) - tkA f n p then 4 else 2) else if kdv (f (tkA f n p)) = 3 then 3 else 4
def tkE (f : Nat → Int32) (n p : Nat) : Nat := if n ≤ tkA f n p then tkA f n p else if kdv (f (tkA f n p)) = 1 then skv f n 1 (tkA f n p) else if kdv (f (tkA f n p)) = 2 then skv f n 2 (tkA f n p) else tkA f n p + 1
theorem tkA_ub {f : Nat → Int32} {n p : Nat} (h : p ≤ n) : tkA f n p ≤ n := skv_ub h
theorem tkA_le (f : Nat → Int32) (n p : Nat) : p ≤ tkA f n p := skv_le f n 5 p
theorem tkE_ub {f : Nat → Int32} {n p : Nat} (h : p ≤ n) : tkE f n p ≤ n := by
  have h1 := tkA_ub (f := f) h
  have h2 := skv_ub (f := f) (k := 1) h1
  have h3 := skv_ub (f := f) (k := 2) h1
  unfold tkE; (repeat' split) <;> omega
theorem tkE_le (f : Nat → Int32) (n p : Nat) : tkA f n p ≤ tkE f n p := by
  have h2 := skv_le f n 1 (tkA f n p)
  have h3 := skv_le f n 2 (tkA f n p)
  unfold tkE; (repeat' split) <;> omega
theorem tkS_r (f : Nat → Int32) (n p : Nat) : 0 ≤ tkS f n p ∧ tkS f n p ≤ 4 := by
  unfold tkS; (repeat' split) <;> omega
/-- a TOKEN that is a word or a number: its signs, its length -/
theorem tk_word {f : Nat → Int32} {n p : Nat} (h : tkS f n p = 1) : tkA f n p < n ∧ tkE f n p = skv f n 1 (tkA f n p) ∧ kdv (f (tkA f n p)) = 1 ∧ tkE f n p - tkA f n p ≤ 8 ∧ tkA f n p < tkE f n p := by
  unfold tkS at h
  split at h; omega
  next ha =>
  split at h
  · next hk =>
    split at h; omega
    next h8 =>
    have he : tkE f n p = skv f n 1 (tkA f n p) := by unfold tkE; rw [if_neg ha, if_pos hk]
    have hs := skv_step (k := 1) (Nat.lt_of_not_le ha) hk
    have hl := skv_le f n 1 (tkA f n p + 1)
    exact ⟨Nat.lt_of_not_le ha, he, hk, by omega, by omega⟩
  · (repeat' split at h) <;> omega
theorem tk_num {f : Nat → Int32} {n p : Nat} (h : tkS f n p = 2) : tkA f n p < n ∧ tkE f n p = skv f n 2 (tkA f n p) ∧ kdv (f (tkA f n p)) = 2 ∧ tkE f n p - tkA f n p ≤ 4 ∧ tkA f n p < tkE f n p := by
  unfold tkS at h
  split at h; omega
  next ha =>
  split at h
  · (repeat' split at h) <;> omega
  · next h1 =>
    split at h
    · next hk =>
      split at h; omega
      next h8 =>
      have he : tkE f n p = skv f n 2 (tkA f n p) := by unfold tkE; rw [if_neg ha, if_neg h1, if_pos hk]
      have hs := skv_step (k := 2) (Nat.lt_of_not_le ha) hk
      have hl := skv_le f n 2 (tkA f n p + 1)
      exact ⟨Nat.lt_of_not_le ha, he, hk, by omega, by omega⟩
    · (repeat' split at h) <;> omega
theorem tk_dig {f : Nat → Int32} {n p i : Nat} (h : tkS f n p = 2) (h1 : tkA f n p ≤ i) (h2 : i < tkE f n p) : 48 ≤ (f i).toInt ∧ (f i).toInt ≤ 57 := by
  have q := tk_num h
  rw [q.2.1] at h2
  exact kdv_2 (skv_all h1 h2).2
theorem tk_let {f : Nat → Int32} {n p i : Nat} (h : tkS f n p = 1) (h1 : tkA f n p ≤ i) (h2 : i < tkE f n p) : 97 ≤ (f i).toInt ∧ (f i).toInt ≤ 122 := by
  have q := tk_word h
  rw [q.2.1] at h2
  exact kdv_1 (skv_all h1 h2).2
/-- the number of d digits from a on -/
def nvd (f : Nat → Int32) (a : Nat) : Nat → Int
  | 0 => 0
  | d + 1 => 10 * nvd f a d + ((f (a + d)).toInt - 48)
theorem nvd_r {f : Nat → Int32} {a : Nat} : ∀ d : Nat, (∀ i, a ≤ i → i < a + d → 48 ≤ (f i).toInt ∧ (f i).toInt ≤ 57) → 0 ≤ nvd f a d ∧ nvd f a d < 10 ^ d
  | 0, _ => ⟨by unfold nvd; decide, by unfold nvd; decide⟩
  | d + 1, h => by
    have q := nvd_r d (fun i h1 h2 => h i h1 (by omega))
    have z := h (a + d) (by omega) (by omega)
    unfold nvd
    have hp : (10 : Int) ^ (d + 1) = 10 * 10 ^ d := by rw [Int.pow_succ]; omega
    omega
/-- the code of d letters from a on, as the reference counts it -/
def wcd (f : Nat → Int32) (a : Nat) : Nat → Int
  | 0 => 0
  | d + 1 => 32 * wcd f a d + ((f (a + d)).toInt - 96)
theorem wcd_r {f : Nat → Int32} {a : Nat} : ∀ d : Nat, (∀ i, a ≤ i → i < a + d → 97 ≤ (f i).toInt ∧ (f i).toInt ≤ 122) → 0 ≤ wcd f a d ∧ wcd f a d < 32 ^ d ∧ (1 ≤ d → 1 ≤ wcd f a d)
  | 0, _ => ⟨by unfold wcd; decide, by unfold wcd; decide, fun h => absurd h (by decide)⟩
  | d + 1, h => by
    have q := wcd_r d (fun i h1 h2 => h i h1 (by omega))
    have z := h (a + d) (by omega) (by omega)
    unfold wcd
    have hp : (32 : Int) ^ (d + 1) = 32 * 32 ^ d := by rw [Int.pow_succ]; omega
    omega
/-- codes tell words apart -/
theorem wcd_inj {f g : Nat → Int32} {a b : Nat} : ∀ d e : Nat, (∀ i, a ≤ i → i < a + d → 97 ≤ (f i).toInt ∧ (f i).toInt ≤ 122) → (∀ i, b ≤ i → i < b + e → 97 ≤ (g i).toInt ∧ (g i).toInt ≤ 122) → wcd f a d = wcd g b e → d = e ∧ ∀ i, i < d → f (a + i) = g (b + i)
  | 0, 0, _, _, _ => ⟨rfl, fun i h => absurd h (Nat.not_lt_zero i)⟩
  | 0, e + 1, _, hb, h => by
    have q := wcd_r (e + 1) hb
    have z : wcd f a 0 = 0 := rfl
    omega
  | d + 1, 0, ha, _, h => by
    have q := wcd_r (d + 1) ha
    have z : wcd g b 0 = 0 := rfl
    omega
  | d + 1, e + 1, ha, hb, h => by
    have za := ha (a + d) (by omega) (by omega)
    have zb := hb (b + e) (by omega) (by omega)
    unfold wcd at h
    have q := wcd_inj (f := f) (g := g) (a := a) (b := b) d e (fun i h1 h2 => ha i h1 (by omega)) (fun i h1 h2 => hb i h1 (by omega)) (by omega)
    have hz := q.2
    have hde := q.1
    subst hde
    refine ⟨rfl, fun i hi => ?_⟩
    by_cases hd : i = d
    · subst hd
      exact Int32.toInt_inj.mp (by omega)
    · exact hz i (by omega)
theorem wcd_eq {f g : Nat → Int32} {a b : Nat} : ∀ d : Nat, (∀ i, i < d → f (a + i) = g (b + i)) → wcd f a d = wcd g b d
  | 0, _ => rfl
  | d + 1, h => by
    unfold wcd
    rw [wcd_eq d (fun i hi => h i (by omega)), h d (by omega)]
