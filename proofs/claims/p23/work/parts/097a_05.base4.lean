/-- the reference stands at the TOKEN that is found from c on -/
def sct (t : Int) : Int := if t = 0 then 4 else if t = 4 then 0 else t
def kyv (w : Int) : Int := if w = 24395141 then 0 else if w = 632046 then 1 else if w = 86292723 then 2 else if w = 769611 then 3 else if w = 3657363 then 4 else if w = 3491171507 then 5 else if w = 176741 then 6 else if w = 12748404 then 7 else if w = 201900 then 8 else -1
def KC (i : Nat) : Int := ([24395141, 632046, 86292723, 769611, 3657363, 3491171507, 176741, 12748404, 201900] : List Int).getD i 0
theorem kyv_r (w : Int) : -1 ≤ kyv w ∧ kyv w ≤ 8 := by
  unfold kyv; (repeat' split) <;> omega
theorem kyv_KC {w : Int} (h : 0 ≤ kyv w) : w = KC (kyv w).toNat := by
  by_cases h0 : w = 24395141
  · subst h0; decide
  by_cases h1 : w = 632046
  · subst h1; decide
  by_cases h2 : w = 86292723
  · subst h2; decide
  by_cases h3 : w = 769611
  · subst h3; decide
  by_cases h4 : w = 3657363
  · subst h4; decide
  by_cases h5 : w = 3491171507
  · subst h5; decide
  by_cases h6 : w = 176741
  · subst h6; decide
  by_cases h7 : w = 12748404
  · subst h7; decide
  by_cases h8 : w = 201900
  · subst h8; decide
  exfalso
  unfold kyv at h
  rw [if_neg h0, if_neg h1, if_neg h2, if_neg h3, if_neg h4, if_neg h5, if_neg h6, if_neg h7, if_neg h8] at h
  omega
theorem KC_kyv : ∀ i : Nat, i < 9 → kyv (KC i) = i := by decide
theorem kyv_at {w : Int} {i : Nat} (hi : i < 9) (h : KC i = w) : kyv w = (i : Int) := by rw [← h]; exact KC_kyv i hi
theorem kyv_no {w : Int} (h : ∀ i : Nat, i < 9 → ¬ KC i = w) : kyv w = -1 := by
  have r := kyv_r w
  by_cases h0 : 0 ≤ kyv w
  · exact absurd (kyv_KC h0).symm (h _ (by omega))
  · omega
def cuM (f : Nat → Int32) (n c : Nat) (en so aa nu ke : Int32) (wo : Int64) : Prop := en.toInt = (tkE f n c : Int) ∧ so.toInt = sct (tkS f n c) ∧ aa.toInt = (tkA f n c : Int) ∧ (tkS f n c = 2 → nu.toInt = tnum f n c) ∧ (tkS f n c = 1 → wo.toInt = twrd f n c ∧ ke.toInt = kyv (twrd f n c))
theorem cm_next {f : Nat → Int32} {n c : Nat} {en so aa nu ke en' so' aa' nu' ke' : Int32} {wo wo' : Int64} (h : cuM f n c en so aa nu ke wo) (w : cuM f n en.toNatClampNeg en' so' aa' nu' ke' wo') : cuM f n (tkE f n c) en' so' aa' nu' ke' wo' := by
  have e := nn_eq en; have h1 := h.1
  rw [show en.toNatClampNeg = tkE f n c by omega] at w; exact w
theorem cm_s {f : Nat → Int32} {n c : Nat} {en so aa nu ke : Int32} {wo : Int64} {t : Int} (h : cuM f n c en so aa nu ke wo) (t1 : 1 ≤ t) (t3 : t ≤ 3) : so.toInt = t ↔ tkS f n c = t := by
  have r := tkS_r f n c
  rw [h.2.1]; unfold sct
  constructor
  · intro z; (repeat' split at z) <;> omega
  · intro z; rw [if_neg (by omega), if_neg (by omega)]; exact z
theorem cm_s0 {f : Nat → Int32} {n c : Nat} {en so aa nu ke : Int32} {wo : Int64} (h : cuM f n c en so aa nu ke wo) : so.toInt = 4 ↔ tkS f n c = 0 := by
  have r := tkS_r f n c
  rw [h.2.1]; unfold sct
  constructor
  · intro z; (repeat' split at z) <;> omega
  · intro z; rw [if_pos z]
/-- a byte of the reference's tape -/
theorem rb_let {f : Nat → Int32} {n p r : Int32} (hf : ivf f (-128) 127) (er : r = rb_at f n p) (h : 0 ≤ r.toInt) (h2 : r.toInt ≤ 127) : p.toInt < n.toInt ∧ r.toInt = (f p.toNatClampNeg).toInt := by
  unfold rb_at at er
  by_cases hp : p < n
  · rw [if_pos hp] at er
    refine ⟨i32_lt hp rfl rfl, ?_⟩
    have b := hf p.toNatClampNeg
    rw [er] at h h2 ⊢
    generalize f p.toNatClampNeg = x at b h h2 ⊢
    by_cases hx : 0 ≤ x.toInt
    · rw [and_let hx b.2]
    · exfalso
      have q : (x &&& 255).toInt = x.toInt + 256 := by
        have e1 : (x &&& 255).toInt = ((x.toBitVec.toNat % 256 : Nat) : Int) := by
          have hn : (x &&& 255).toBitVec.toNat = x.toBitVec.toNat % 256 := by
            rw [Int32.toBitVec_and, BitVec.toNat_and, show (255 : Int32).toBitVec.toNat = 2 ^ 8 - 1 by decide, Nat.and_two_pow_sub_one_eq_mod]
          have h3 : (x &&& 255).toInt = (x &&& 255).toBitVec.toInt := rfl
          rw [h3, BitVec.toInt_eq_toNat_cond, hn]
          rw [if_pos (by omega)]
        have e2 : x.toInt = (x.toBitVec.toNat : Int) - 4294967296 := by
          have h2 : x.toInt = x.toBitVec.toInt := rfl
          have h4 := x.toBitVec.isLt
          rw [h2, BitVec.toInt_eq_toNat_cond]
          rw [h2, BitVec.toInt_eq_toNat_cond] at hx
          split at hx
          · omega
          · next hc => rw [if_neg hc]; omega
        have b1 := b.1
        omega
      have b1 := b.1
      omega
  · rw [if_neg hp] at er
    rw [er] at h
    exact absurd h (by decide)
theorem rb_in {f : Nat → Int32} {n p r : Int32} (hf : ivf f (-128) 127) (er : r = rb_at f n p) (hp : p.toInt < n.toInt) (h : 0 ≤ (f p.toNatClampNeg).toInt) : r.toInt = (f p.toNatClampNeg).toInt := by
  unfold rb_at at er
  rw [if_pos (show p < n from Int32.lt_iff_toInt_lt.mpr hp), and_let h (hf p.toNatClampNeg).2] at er
  rw [er]
theorem rb_no {f : Nat → Int32} {n p r : Int32} (er : r = rb_at f n p) (h : r.toInt = -1) : n.toInt ≤ p.toInt := by
  unfold rb_at at er
  by_cases hp : p < n
  · rw [if_pos hp] at er
    have z := i32_and255 er
    have z1 := z.1
    omega
  · exact i32_nlt hp rfl rfl
theorem rb_yes {f : Nat → Int32} {n p r : Int32} (er : r = rb_at f n p) (h : ¬ r.toInt = -1) : p.toInt < n.toInt := by
  unfold rb_at at er
  by_cases hp : p < n
  · exact i32_lt hp rfl rfl
  · rw [if_neg hp] at er
    exact absurd (by rw [er]; decide) h
theorem rb_k {f : Nat → Int32} {n p r : Int32} {k : Int} (hf : ivf f (-128) 127) (er : r = rb_at f n p) (hk : kdv (f p.toNatClampNeg) = k) (k4 : ¬ k = 4) (hp : p.toInt < n.toInt) : 0 ≤ (f p.toNatClampNeg).toInt ∧ r.toInt = (f p.toNatClampNeg).toInt := by
  have h0 : 0 ≤ (f p.toNatClampNeg).toInt := by
    unfold kdv at hk; (repeat' split at hk) <;> omega
  exact ⟨h0, rb_in hf er hp h0⟩
theorem skM_step {f : Nat → Int32} {len x x' r : Int32} {k : Int} {G : Nat} (hi : skv f len.toNatClampNeg k x.toNatClampNeg = G) (hf : ivf f (-128) 127) (er : r = rb_at f len x) (hr : 0 ≤ r.toInt ∧ r.toInt ≤ 127) (hk : ∀ y : Int32, y.toInt = r.toInt → kdv y = k) (e : x'.toInt = x.toInt + 1) (x0 : 0 ≤ x.toInt) : skv f len.toNatClampNeg k x'.toNatClampNeg = G := by
  have e1 := nn_eq x; have e2 := nn_eq x'; have e3 := nn_eq len
  have z := rb_let hf er hr.1 hr.2
  rw [skv_step (by omega) (hk _ z.2.symm)] at hi
  rw [show x'.toNatClampNeg = x.toNatClampNeg + 1 by omega]; exact hi
theorem kd_5 {r : Int32} (h : r.toInt = 32 ∨ r.toInt = 10) : ∀ y : Int32, y.toInt = r.toInt → kdv y = 5 := by
  intro y hy; unfold kdv; rw [if_neg (by omega), if_neg (by omega), if_pos (by omega)]
theorem kd_1 {r : Int32} (h : 97 ≤ r.toInt ∧ r.toInt ≤ 122) : ∀ y : Int32, y.toInt = r.toInt → kdv y = 1 := by
  intro y hy; unfold kdv; rw [if_pos (by omega)]
theorem kd_2 {r : Int32} (h : 48 ≤ r.toInt ∧ r.toInt ≤ 57) : ∀ y : Int32, y.toInt = r.toInt → kdv y = 2 := by
  intro y hy; unfold kdv; rw [if_neg (by omega), if_pos (by omega)]
theorem skM_stop {f : Nat → Int32} {len x r : Int32} {k : Int} {G : Nat} (hi : skv f len.toNatClampNeg k x.toNatClampNeg = G) (hf : ivf f (-128) 127) (er : r = rb_at f len x) (x0 : 0 ≤ x.toInt) (k4 : ¬ k = 4) (hk : x.toInt < len.toInt → 0 ≤ r.toInt → ∀ y : Int32, y.toInt = r.toInt → ¬ kdv y = k) : x.toInt = (G : Int) := by
  have e1 := nn_eq x; have e3 := nn_eq len
  rw [skv_stop (fun h => by
    have hp : x.toInt < len.toInt := by omega
    have z := rb_k hf er h.2 k4 hp
    exact hk hp (by omega) _ z.2.symm h.2)] at hi
  omega
theorem kn_5 {r : Int32} (h : ¬ r.toInt = 32) (h2 : ¬ r.toInt = 10) : ∀ y : Int32, y.toInt = r.toInt → ¬ kdv y = 5 := by
  intro y hy; unfold kdv; (repeat' split) <;> omega
theorem kn_1 {r : Int32} (h : r.toInt < 97 ∨ 122 < r.toInt) : ∀ y : Int32, y.toInt = r.toInt → ¬ kdv y = 1 := by
  intro y hy; unfold kdv; (repeat' split) <;> omega
theorem kn_2 {r : Int32} (h : r.toInt < 48 ∨ 57 < r.toInt) : ∀ y : Int32, y.toInt = r.toInt → ¬ kdv y = 2 := by
  intro y hy; unfold kdv; (repeat' split) <;> omega
/-- the word's code as it is counted: of the first eight letters alone -/
def mnk (k : Nat) (d : Int) : Nat := if d ≤ k then d.toNat else k
theorem wdM_0 {f : Nat → Int32} {p : Int32} : (0 : Int64).toInt = wcd f p.toNatClampNeg (mnk 8 (p.toInt - p.toInt)) := by
  rw [Int.sub_self]; rfl
theorem wdM_up {f : Nat → Int32} {len p e e' r : Int32} {w y1 y2 y3 y4 : Int64} (hf : ivf f (-128) 127) (hw : w.toInt = wcd f p.toNatClampNeg (mnk 8 (e.toInt - p.toInt))) (hr : ∀ j : Nat, p.toNatClampNeg ≤ j → j < e.toNatClampNeg → 97 ≤ (f j).toInt ∧ (f j).toInt ≤ 122) (er : r = rb_at f len e) (h97 : 97 ≤ r.toInt) (h122 : r.toInt ≤ 122) (p0 : 0 ≤ p.toInt) (pe : p.toInt ≤ e.toInt) (h8 : e.toInt - p.toInt < 8) (ee : e'.toInt = e.toInt + 1) (e1 : y1 = 32 * w) (e2 : y2 = y1 + r.toInt64) (e3 : y3 = y2 - 97) (e4 : y4 = y3 + 1) : y4.toInt = wcd f p.toNatClampNeg (mnk 8 (e'.toInt - p.toInt)) := by
  have n1 := nn_eq p; have n2 := nn_eq e
  have z := rb_let hf er (by omega) (by omega)
  have m1 : mnk 8 (e.toInt - p.toInt) = (e.toInt - p.toInt).toNat := by unfold mnk; rw [if_pos (by omega)]
  have m2 : mnk 8 (e'.toInt - p.toInt) = (e.toInt - p.toInt).toNat + 1 := by unfold mnk; rw [if_pos (by omega)]; omega
  rw [m1] at hw
  rw [m2]
  have b := wcd_r (f := f) (a := p.toNatClampNeg) (e.toInt - p.toInt).toNat (fun i h1 h2 => hr i h1 (by omega))
  have hb : wcd f p.toNatClampNeg (e.toInt - p.toInt).toNat < 34359738368 := by
    have h7 : (e.toInt - p.toInt).toNat ≤ 7 := by omega
    have b2 := b.2.1
    generalize (e.toInt - p.toInt).toNat = d at h7 b2
    match d, h7, b2 with
    | 0, _, b2 => have : (32 : Int) ^ 0 = 1 := rfl; omega
    | 1, _, b2 => have : (32 : Int) ^ 1 = 32 := rfl; omega
    | 2, _, b2 => have : (32 : Int) ^ 2 = 1024 := rfl; omega
    | 3, _, b2 => have : (32 : Int) ^ 3 = 32768 := rfl; omega
    | 4, _, b2 => have : (32 : Int) ^ 4 = 1048576 := rfl; omega
    | 5, _, b2 => have : (32 : Int) ^ 5 = 33554432 := rfl; omega
    | 6, _, b2 => have : (32 : Int) ^ 6 = 1073741824 := rfl; omega
    | 7, _, b2 => have : (32 : Int) ^ 7 = 34359738368 := rfl; omega
    | d + 8, h7, _ => omega
  have b0 := b.1
  unfold wcd
  rw [show p.toNatClampNeg + (e.toInt - p.toInt).toNat = e.toNatClampNeg by omega, ← z.2]
  rw [← hw] at b0 hb ⊢
  have q1 : y1.toInt = 32 * w.toInt := by
    have t : (32 : Int64).toInt = 32 := by decide
    rw [e1, Int64.toInt_mul, t]
    exact i64_bm (by omega) (by omega)
  have q2 : jv y2 (y1.toInt + r.toInt) (y1.toInt + r.toInt) := jv.add e2 ⟨Int.le_refl _, Int.le_refl _⟩ (jv.i ⟨Int.le_refl _, Int.le_refl _⟩) rfl rfl (by omega) (by omega)
  have q3 : jv y3 (y1.toInt + r.toInt - 97) (y1.toInt + r.toInt - 97) := jv.sub e3 q2 (jv.m (show (97 : Int) ≤ (97 : Int64).toInt ∧ (97 : Int64).toInt ≤ 97 by decide)) rfl rfl (by omega) (by omega)
  have q4 : jv y4 (y1.toInt + r.toInt - 97 + 1) (y1.toInt + r.toInt - 97 + 1) := jv.add e4 q3 (jv.m (show (1 : Int) ≤ (1 : Int64).toInt ∧ (1 : Int64).toInt ≤ 1 by decide)) rfl rfl (by omega) (by omega)
  have q5 := q4.1; have q6 := q4.2
  omega
/-- the first letter, from 0 -/
theorem wdM_1 {f : Nat → Int32} {len p e' r : Int32} {y2 y3 y4 : Int64} (hf : ivf f (-128) 127) (er : r = rb_at f len p) (h97 : 97 ≤ r.toInt) (h122 : r.toInt ≤ 122) (p0 : 0 ≤ p.toInt) (ee : e'.toInt = p.toInt + 1) (e2 : y2 = 0 + r.toInt64) (e3 : y3 = y2 - 97) (e4 : y4 = y3 + 1) : y4.toInt = wcd f p.toNatClampNeg (mnk 8 (e'.toInt - p.toInt)) :=
  wdM_up (w := 0) (y1 := 0) hf wdM_0 (fun j h1 h2 => absurd h2 (by omega)) er h97 h122 p0 (Int.le_refl _) (by omega) ee (by decide) e2 e3 e4
theorem wdM_st {f : Nat → Int32} {p e e' : Int32} {w : Int64} (hw : w.toInt = wcd f p.toNatClampNeg (mnk 8 (e.toInt - p.toInt))) (h8 : 8 ≤ e.toInt - p.toInt) (ee : e'.toInt = e.toInt + 1) : w.toInt = wcd f p.toNatClampNeg (mnk 8 (e'.toInt - p.toInt)) := by
  have m1 : mnk 8 (e.toInt - p.toInt) = 8 := by unfold mnk; split <;> omega
  have m2 : mnk 8 (e'.toInt - p.toInt) = 8 := by unfold mnk; rw [if_neg (by omega)]
  rw [m2, ← m1]; exact hw
theorem run_in {f : Nat → Int32} {n : Nat} {k : Int} {p e : Int32} (hi : skv f n k e.toNatClampNeg = skv f n k p.toNatClampNeg) {j : Nat} (h1 : p.toNatClampNeg ≤ j) (h2 : j < e.toNatClampNeg) : j < n ∧ kdv (f j) = k := by
  have z := skv_le f n k e.toNatClampNeg
  exact skv_all h1 (by omega)
theorem run_let {f : Nat → Int32} {n : Nat} {p e : Int32} (hi : skv f n 1 e.toNatClampNeg = skv f n 1 p.toNatClampNeg) : ∀ j : Nat, p.toNatClampNeg ≤ j → j < e.toNatClampNeg → 97 ≤ (f j).toInt ∧ (f j).toInt ≤ 122 := fun _ h1 h2 => kdv_1 (run_in hi h1 h2).2
/-- the number -/
theorem nuM_1 {f : Nat → Int32} {len p e' r x : Int32} (hf : ivf f (-128) 127) (er : r = rb_at f len p) (h97 : 48 ≤ r.toInt) (h122 : r.toInt ≤ 57) (ee : e'.toInt = p.toInt + 1) (ex : x.toInt = r.toInt - 48) : x.toInt = nvd f p.toNatClampNeg (mnk 4 (e'.toInt - p.toInt)) := by
  have z := rb_let hf er (by omega) (by omega)
  have m2 : mnk 4 (e'.toInt - p.toInt) = 0 + 1 := by unfold mnk; rw [if_pos (by omega)]; omega
  rw [m2]; unfold nvd; unfold nvd
  rw [ex, z.2, Nat.add_zero]; omega
theorem nuM_b {f : Nat → Int32} {n : Nat} {p e v : Int32} (hi : skv f n 2 e.toNatClampNeg = skv f n 2 p.toNatClampNeg) (hv : v.toInt = nvd f p.toNatClampNeg (mnk 4 (e.toInt - p.toInt))) (p0 : 0 ≤ p.toInt) (pe : p.toInt ≤ e.toInt) (h4 : e.toInt - p.toInt < 4) : 0 ≤ v.toInt ∧ v.toInt ≤ 999 := by
  have n1 := nn_eq p; have n2 := nn_eq e
  have m1 : mnk 4 (e.toInt - p.toInt) = (e.toInt - p.toInt).toNat := by unfold mnk; rw [if_pos (by omega)]
  rw [m1] at hv
  have z := nvd_r (f := f) (a := p.toNatClampNeg) (e.toInt - p.toInt).toNat (fun j h1 h2 => kdv_2 (run_in hi h1 (by omega)).2)
  have h3 : (e.toInt - p.toInt).toNat ≤ 3 := by omega
  rw [← hv] at z
  generalize (e.toInt - p.toInt).toNat = d at z h3
  match d, h3, z with
  | 0, _, z => have : (10 : Int) ^ 0 = 1 := rfl; omega
  | 1, _, z => have : (10 : Int) ^ 1 = 10 := rfl; omega
  | 2, _, z => have : (10 : Int) ^ 2 = 100 := rfl; omega
  | 3, _, z => have : (10 : Int) ^ 3 = 1000 := rfl; omega
  | d + 4, h4, _ => omega
theorem nuM_up {f : Nat → Int32} {len p e e' r v v' : Int32} (hf : ivf f (-128) 127) (hv : v.toInt = nvd f p.toNatClampNeg (mnk 4 (e.toInt - p.toInt))) (er : r = rb_at f len e) (h97 : 48 ≤ r.toInt) (h122 : r.toInt ≤ 57) (p0 : 0 ≤ p.toInt) (pe : p.toInt ≤ e.toInt) (h8 : e.toInt - p.toInt < 4) (ee : e'.toInt = e.toInt + 1) (ev : v'.toInt = 10 * v.toInt + r.toInt - 48) : v'.toInt = nvd f p.toNatClampNeg (mnk 4 (e'.toInt - p.toInt)) := by
  have n1 := nn_eq p; have n2 := nn_eq e
  have z := rb_let hf er (by omega) (by omega)
  have m1 : mnk 4 (e.toInt - p.toInt) = (e.toInt - p.toInt).toNat := by unfold mnk; rw [if_pos (by omega)]
  have m2 : mnk 4 (e'.toInt - p.toInt) = (e.toInt - p.toInt).toNat + 1 := by unfold mnk; rw [if_pos (by omega)]; omega
  rw [m1] at hv
  rw [m2]; unfold nvd
  rw [show p.toNatClampNeg + (e.toInt - p.toInt).toNat = e.toNatClampNeg by omega, ← z.2, ← hv]
  omega
theorem nuM_st {f : Nat → Int32} {p e e' v : Int32} (hv : v.toInt = nvd f p.toNatClampNeg (mnk 4 (e.toInt - p.toInt))) (h8 : 4 ≤ e.toInt - p.toInt) (ee : e'.toInt = e.toInt + 1) : v.toInt = nvd f p.toNatClampNeg (mnk 4 (e'.toInt - p.toInt)) := by
  have m1 : mnk 4 (e.toInt - p.toInt) = 4 := by unfold mnk; split <;> omega
  have m2 : mnk 4 (e'.toInt - p.toInt) = 4 := by unfold mnk; rw [if_neg (by omega)]
  rw [m2, ← m1]; exact hv
/-- what scan() finds -/
theorem scM_A {f : Nat → Int32} {n : Nat} {x e0 : Int32} (hx : x.toInt = (skv f n 5 e0.toNatClampNeg : Int)) : tkA f n e0.toNatClampNeg = x.toNatClampNeg := by
  have e := nn_eq x
  unfold tkA; omega
theorem scM_end {f : Nat → Int32} {len x e0 r nu ke : Int32} {wo : Int64} (hx : x.toInt = (skv f len.toNatClampNeg 5 e0.toNatClampNeg : Int)) (er : r = rb_at f len x) (hr : r.toInt = -1) : cuM f len.toNatClampNeg e0.toNatClampNeg x 4 x nu ke wo := by
  have ha := scM_A hx; have e := nn_eq x; have e2 := nn_eq len
  have hn := rb_no er hr
  have h0 : len.toNatClampNeg ≤ tkA f len.toNatClampNeg e0.toNatClampNeg := by omega
  have hs : tkS f len.toNatClampNeg e0.toNatClampNeg = 0 := by unfold tkS; rw [if_pos h0]
  refine ⟨?_, ?_, by rw [ha]; omega, fun h => by omega, fun h => by omega⟩
  · unfold tkE; rw [if_pos h0]; omega
  · rw [hs]; decide
theorem scM_one {f : Nat → Int32} {len x x' e0 r so nu ke : Int32} {wo : Int64} (hf : ivf f (-128) 127) (hx : x.toInt = (skv f len.toNatClampNeg 5 e0.toNatClampNeg : Int)) (er : r = rb_at f len x) (hr : ¬ r.toInt = -1) (b32 : ¬ r.toInt = 32) (b10 : ¬ r.toInt = 10) (h1 : r.toInt < 97 ∨ 122 < r.toInt) (h2 : r.toInt < 48 ∨ 57 < r.toInt) (ex : x'.toInt = x.toInt + 1) (hs : (r.toInt = 59 ∧ so.toInt = 3) ∨ (¬ r.toInt = 59 ∧ so.toInt = 0)) : cuM f len.toNatClampNeg e0.toNatClampNeg x' so x nu ke wo := by
  have ha := scM_A hx; have e := nn_eq x; have e2 := nn_eq len
  have hn := rb_yes er hr
  have h0 : ¬ len.toNatClampNeg ≤ x.toNatClampNeg := by omega
  have k1 : ¬ kdv (f x.toNatClampNeg) = 1 := fun h => by
    have z := rb_k hf er h (by decide) hn; exact kn_1 h1 _ z.2.symm h
  have k2 : ¬ kdv (f x.toNatClampNeg) = 2 := fun h => by
    have z := rb_k hf er h (by decide) hn; exact kn_2 h2 _ z.2.symm h
  have k3 : kdv (f x.toNatClampNeg) = 3 ↔ r.toInt = 59 := by
    constructor
    · intro h
      have z := rb_k hf er h (by decide) hn
      unfold kdv at h; (repeat' split at h) <;> omega
    · intro h
      have z := rb_let hf er (by omega) (by omega)
      unfold kdv; (repeat' split) <;> omega
  refine ⟨?_, ?_, by rw [ha]; omega, fun h => ?_, fun h => ?_⟩
  · unfold tkE; rw [ha, if_neg h0, if_neg k1, if_neg k2]; omega
  · unfold tkS; rw [ha, if_neg h0, if_neg k1, if_neg k2]
    rcases hs with hs | hs
    · rw [if_pos (k3.mpr hs.1), hs.2]; decide
    · rw [if_neg (fun z => hs.1 (k3.mp z)), hs.2]; decide
  · exfalso; unfold tkS at h; rw [ha, if_neg h0, if_neg k1, if_neg k2] at h; split at h <;> omega
  · exfalso; unfold tkS at h; rw [ha, if_neg h0, if_neg k1, if_neg k2] at h; split at h <;> omega
theorem scM_word {f : Nat → Int32} {len x e e0 r so nu ke : Int32} {wo : Int64} (hf : ivf f (-128) 127) (hx : x.toInt = (skv f len.toNatClampNeg 5 e0.toNatClampNeg : Int)) (er : r = rb_at f len x) (h1 : 97 ≤ r.toInt) (h2 : r.toInt ≤ 122) (he : e.toInt = (skv f len.toNatClampNeg 1 x.toNatClampNeg : Int)) (hw : wo.toInt = wcd f x.toNatClampNeg (mnk 8 (e.toInt - x.toInt))) (hs : (so.toInt = 0 ∧ 8 < e.toInt - x.toInt) ∨ (so.toInt = 1 ∧ e.toInt - x.toInt ≤ 8 ∧ ke.toInt = kyv (wcd f x.toNatClampNeg (e.toInt - x.toInt).toNat))) : cuM f len.toNatClampNeg e0.toNatClampNeg e so x nu ke wo := by
  have ha := scM_A hx; have n1 := nn_eq x; have e2 := nn_eq len; have n3 := nn_eq e
  have z := rb_let hf er (by omega) (by omega)
  have h0 : ¬ len.toNatClampNeg ≤ x.toNatClampNeg := by omega
  have k1 : kdv (f x.toNatClampNeg) = 1 := kd_1 ⟨h1, h2⟩ _ z.2.symm
  have hE : tkE f len.toNatClampNeg e0.toNatClampNeg = skv f len.toNatClampNeg 1 x.toNatClampNeg := by unfold tkE; rw [ha, if_neg h0, if_pos k1]
  have hl := skv_le f len.toNatClampNeg 1 x.toNatClampNeg
  refine ⟨by rw [hE]; exact he, ?_, by rw [ha]; omega, fun h => ?_, fun h => ?_⟩
  · unfold tkS; rw [ha, if_neg h0, if_pos k1]
    rcases hs with hs | hs
    · rw [if_pos (by omega), hs.1]; decide
    · rw [if_neg (by omega), hs.1]; decide
  · exfalso; unfold tkS at h; rw [ha, if_neg h0, if_pos k1] at h; split at h <;> omega
  · unfold tkS at h; rw [ha, if_neg h0, if_pos k1] at h
    have h8 : e.toInt - x.toInt ≤ 8 := by split at h <;> omega
    have m : mnk 8 (e.toInt - x.toInt) = (e.toInt - x.toInt).toNat := by unfold mnk; rw [if_pos (by omega)]
    have m2 : (e.toInt - x.toInt).toNat = tkE f len.toNatClampNeg e0.toNatClampNeg - x.toNatClampNeg := by rw [hE]; omega
    rw [m, m2] at hw
    unfold twrd; rw [ha]
    refine ⟨hw, ?_⟩
    rcases hs with hs | hs
    · exfalso; omega
    · rw [hs.2.2, m2]
theorem scM_num {f : Nat → Int32} {len x e e0 r so nu ke : Int32} {wo : Int64} (hf : ivf f (-128) 127) (hx : x.toInt = (skv f len.toNatClampNeg 5 e0.toNatClampNeg : Int)) (er : r = rb_at f len x) (h1 : 48 ≤ r.toInt) (h2 : r.toInt ≤ 57) (he : e.toInt = (skv f len.toNatClampNeg 2 x.toNatClampNeg : Int)) (hw : nu.toInt = nvd f x.toNatClampNeg (mnk 4 (e.toInt - x.toInt))) (hs : (so.toInt = 0 ∧ 4 < e.toInt - x.toInt) ∨ (so.toInt = 2 ∧ e.toInt - x.toInt ≤ 4)) : cuM f len.toNatClampNeg e0.toNatClampNeg e so x nu ke wo := by
  have ha := scM_A hx; have n1 := nn_eq x; have e2 := nn_eq len; have n3 := nn_eq e
  have z := rb_let hf er (by omega) (by omega)
  have h0 : ¬ len.toNatClampNeg ≤ x.toNatClampNeg := by omega
  have k2 : kdv (f x.toNatClampNeg) = 2 := kd_2 ⟨h1, h2⟩ _ z.2.symm
  have k1 : ¬ kdv (f x.toNatClampNeg) = 1 := by omega
  have hE : tkE f len.toNatClampNeg e0.toNatClampNeg = skv f len.toNatClampNeg 2 x.toNatClampNeg := by unfold tkE; rw [ha, if_neg h0, if_neg k1, if_pos k2]
  have hl := skv_le f len.toNatClampNeg 2 x.toNatClampNeg
  refine ⟨by rw [hE]; exact he, ?_, by rw [ha]; omega, fun h => ?_, fun h => ?_⟩
  · unfold tkS; rw [ha, if_neg h0, if_neg k1, if_pos k2]
    rcases hs with hs | hs
    · rw [if_pos (by omega), hs.1]; decide
    · rw [if_neg (by omega), hs.1]; decide
  · unfold tkS at h; rw [ha, if_neg h0, if_neg k1, if_pos k2] at h
    have h8 : e.toInt - x.toInt ≤ 4 := by split at h <;> omega
    have m : mnk 4 (e.toInt - x.toInt) = (e.toInt - x.toInt).toNat := by unfold mnk; rw [if_pos (by omega)]
    have m2 : (e.toInt - x.toInt).toNat = tkE f len.toNatClampNeg e0.toNatClampNeg - x.toNatClampNeg := by rw [hE]; omega
    rw [m, m2] at hw
    unfold tnum; rw [ha]; exact hw
  · exfalso; unfold tkS at h; rw [ha, if_neg h0, if_neg k1, if_pos k2] at h; split at h <;> omega
