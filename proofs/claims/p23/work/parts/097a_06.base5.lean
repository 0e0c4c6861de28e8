/-- the reference's words, as they stand in one text -/
def kst : Nat → Nat × Nat
  | 0 => (0, 0)
  | k + 1 => if st_fX10_118 k = 32 then ((kst k).1 + 1, k + 1) else kst k
theorem kst_sp : ∀ k : Nat, k < 53 → st_fX10_118 k = 32 → wcd st_fX10_118 (kst k).2 (k - (kst k).2) = KC (kst k).1 ∧ (kst k).1 < 9 ∧ (kst k).2 ≤ k := by decide +kernel
theorem kst_let : ∀ k : Nat, k < 53 → st_fX10_118 k = 32 → ∀ j : Nat, j < k → (kst k).2 ≤ j → 97 ≤ (st_fX10_118 j).toInt ∧ (st_fX10_118 j).toInt ≤ 122 := by decide +kernel
theorem kst_and : ∀ k : Nat, k < 53 → st_fX10_118 k &&& 255 = st_fX10_118 k := by decide +kernel
theorem kst_53 : (kst 53).1 = 9 := by decide +kernel
theorem kst_le : ∀ k : Nat, k ≤ 53 → (kst k).1 ≤ 9 := by
  have h : ∀ k : Nat, k < 54 → (kst k).1 ≤ 9 := by decide +kernel
  exact fun k hk => h k (by omega)
/-- which word, from where, at the place k: none of those ahead is the one looked for -/
def kyI (w : Int) (wh fr k : Int32) : Prop := wh.toInt = ((kst k.toNatClampNeg).1 : Int) ∧ fr.toInt = ((kst k.toNatClampNeg).2 : Int) ∧ ∀ i : Nat, i < (kst k.toNatClampNeg).1 → ¬ KC i = w
theorem kyI_0 {w : Int} : kyI w 0 0 0 := ⟨by decide, by decide, fun i h => absurd h (by rw [show (kst (Int32.toNatClampNeg 0)).1 = 0 by decide]; omega)⟩
theorem kyI_go {w : Int} {wh fr k k' r : Int32} (h : kyI w wh fr k) (hr : r = st_fX10_118 k.toNatClampNeg &&& 255) (h32 : ¬ r.toInt = 32) (k0 : 0 ≤ k.toInt) (k53 : k.toInt < 53) (e : k'.toInt = k.toInt + 1) : kyI w wh fr k' := by
  have n1 := nn_eq k; have n2 := nn_s e k0
  rw [kst_and _ (by omega)] at hr
  have z : kst k'.toNatClampNeg = kst k.toNatClampNeg := by
    rw [n2, kst, if_neg (fun q => h32 (by rw [hr, q]; decide))]
  unfold kyI; rw [z]; exact h
theorem ky_sp {wh fr k r : Int32} {w : Int} (h : kyI w wh fr k) (hr : r = st_fX10_118 k.toNatClampNeg &&& 255) (h32 : r.toInt = 32) (k0 : 0 ≤ k.toInt) (k53 : k.toInt < 53) : st_fX10_118 k.toNatClampNeg = 32 := by
  have n1 := nn_eq k
  rw [kst_and _ (by omega)] at hr
  rw [← hr]; exact Int32.toInt_inj.mp (by rw [h32]; decide)
theorem kyI_no {w : Int} {wh wh' fr fr' k k' r : Int32} (h : kyI w wh fr k) (hr : r = st_fX10_118 k.toNatClampNeg &&& 255) (h32 : r.toInt = 32) (k0 : 0 ≤ k.toInt) (k53 : k.toInt < 53) (e : k'.toInt = k.toInt + 1) (ew : wh'.toInt = wh.toInt + 1) (ef : fr'.toInt = k.toInt + 1) (hn : ¬ wcd st_fX10_118 fr.toNatClampNeg (k.toNatClampNeg - fr.toNatClampNeg) = w) : kyI w wh' fr' k' := by
  have n1 := nn_eq k; have n2 := nn_s e k0; have n3 := nn_eq fr
  have sp := ky_sp h hr h32 k0 k53
  have q := kst_sp _ (by omega) sp
  have h1 := h.1; have h2 := h.2.1
  have z : kst k'.toNatClampNeg = ((kst k.toNatClampNeg).1 + 1, k.toNatClampNeg + 1) := by rw [n2, kst, if_pos sp]
  unfold kyI; rw [z]
  refine ⟨by simp only; omega, by simp only; omega, fun i hi => ?_⟩
  simp only at hi
  by_cases c : i = (kst k.toNatClampNeg).1
  · subst c
    rw [← q.1, show (kst k.toNatClampNeg).2 = fr.toNatClampNeg by omega]; exact hn
  · exact h.2.2 i (by omega)
theorem kyI_t {w : Int} {wh fr k r : Int32} (h : kyI w wh fr k) (hr : r = st_fX10_118 k.toNatClampNeg &&& 255) (h32 : r.toInt = 32) (k0 : 0 ≤ k.toInt) (k53 : k.toInt < 53) (hn : wcd st_fX10_118 fr.toNatClampNeg (k.toNatClampNeg - fr.toNatClampNeg) = w) : wh.toInt = kyv w := by
  have n1 := nn_eq k; have n3 := nn_eq fr
  have sp := ky_sp h hr h32 k0 k53
  have q := kst_sp _ (by omega) sp
  have h2 := h.2.1
  rw [h.1, kyv_at q.2.1 (by rw [← q.1, show (kst k.toNatClampNeg).2 = fr.toNatClampNeg by omega]; exact hn)]
theorem kyI_end {w : Int} {wh fr k : Int32} (h : kyI w wh fr k) (k53 : k.toInt = 53) : (-1 : Int32).toInt = kyv w := by
  have n1 := nn_eq k
  rw [kyv_no (fun i hi => h.2.2 i (by rw [show k.toNatClampNeg = 53 by omega, kst_53]; exact hi))]; decide
/-- the comparison of one word -/
def kyJ (f : Nat → Int32) (p n fr k sm i : Int32) : Prop := (sm.toInt = 1 → n.toInt = k.toInt - fr.toInt ∧ ∀ j : Nat, j < i.toNatClampNeg → st_fX10_118 (fr.toNatClampNeg + j) = f (p.toNatClampNeg + j)) ∧ (sm.toInt = 0 → ¬ wcd st_fX10_118 fr.toNatClampNeg (k.toNatClampNeg - fr.toNatClampNeg) = wcd f p.toNatClampNeg n.toNatClampNeg)
theorem ky_inj {f : Nat → Int32} {w : Int} {p n wh fr k r : Int32} (hl : ∀ j : Nat, p.toNatClampNeg ≤ j → j < p.toNatClampNeg + n.toNatClampNeg → 97 ≤ (f j).toInt ∧ (f j).toInt ≤ 122) (h : kyI w wh fr k) (hr : r = st_fX10_118 k.toNatClampNeg &&& 255) (h32 : r.toInt = 32) (k0 : 0 ≤ k.toInt) (k53 : k.toInt < 53) (z : wcd st_fX10_118 fr.toNatClampNeg (k.toNatClampNeg - fr.toNatClampNeg) = wcd f p.toNatClampNeg n.toNatClampNeg) : k.toNatClampNeg - fr.toNatClampNeg = n.toNatClampNeg ∧ ∀ j : Nat, j < k.toNatClampNeg - fr.toNatClampNeg → st_fX10_118 (fr.toNatClampNeg + j) = f (p.toNatClampNeg + j) := by
  have n1 := nn_eq k; have n3 := nn_eq fr
  have sp := ky_sp h hr h32 k0 k53
  have h2 := h.2.1
  have l := kst_let _ (by omega) sp
  exact wcd_inj _ _ (fun i hi hj => l i (by omega) (by omega)) (fun i hi hj => hl i hi hj) z
theorem kyJ_1 {f : Nat → Int32} {p n fr k : Int32} (h : n.toInt = k.toInt - fr.toInt) : kyJ f p n fr k 1 0 := ⟨fun _ => ⟨h, fun j hj => absurd hj (Nat.not_lt_zero j)⟩, fun z => absurd z (by decide)⟩
theorem kyJ_0 {f : Nat → Int32} {w : Int} {p n wh fr k r i : Int32} (hl : ∀ j : Nat, p.toNatClampNeg ≤ j → j < p.toNatClampNeg + n.toNatClampNeg → 97 ≤ (f j).toInt ∧ (f j).toInt ≤ 122) (h : kyI w wh fr k) (hr : r = st_fX10_118 k.toNatClampNeg &&& 255) (h32 : r.toInt = 32) (k0 : 0 ≤ k.toInt) (k53 : k.toInt < 53) (n0 : 0 ≤ n.toInt) (hn : ¬ k.toInt - fr.toInt = n.toInt) : kyJ f p n fr k 0 i := by
  have n1 := nn_eq k; have n3 := nn_eq fr; have n4 := nn_eq n
  have sp := ky_sp h hr h32 k0 k53
  have q := kst_sp _ (by omega) sp
  have h2 := h.2.1
  exact ⟨fun z => absurd z (by decide), fun _ z => hn (by have v := (ky_inj hl h hr h32 k0 k53 z).1; omega)⟩
theorem kyJ_up {f : Nat → Int32} {p n fr k sm i i' x y b d len : Int32} (hf : ivf f (-128) 127) (hj : kyJ f p n fr k sm i) (hs : ¬ sm.toInt = 0) (s1 : sm.toInt ≤ 1) (s0 : 0 ≤ sm.toInt) (hi : i.toInt < n.toInt) (i0 : 0 ≤ i.toInt) (f0 : 0 ≤ fr.toInt) (p0 : 0 ≤ p.toInt) (k53 : k.toInt < 53) (hb : b = st_fX10_118 x.toNatClampNeg &&& 255) (hd : d = rb_at f len y) (ex : x.toInt = fr.toInt + i.toInt) (ey : y.toInt = p.toInt + i.toInt) (e : i'.toInt = i.toInt + 1) (hc : b.toInt = d.toInt) (hl : ∀ j : Nat, p.toNatClampNeg ≤ j → j < p.toNatClampNeg + n.toNatClampNeg → 97 ≤ (f j).toInt ∧ (f j).toInt ≤ 122) (hsz : p.toInt + n.toInt ≤ len.toInt) : kyJ f p n fr k 1 i' := by
  have n1 := nn_eq fr; have n2 := nn_eq i; have n3 := nn_eq p; have n4 := nn_eq x; have n5 := nn_eq y; have n6 := nn_eq n; have n7 := nn_s e i0
  have q := hj.1 (by omega)
  refine ⟨fun _ => ⟨q.1, fun j hjj => ?_⟩, fun z => absurd z (by decide)⟩
  by_cases c : j = i.toNatClampNeg
  · subst c
    rw [kst_and _ (by omega)] at hb
    have l := hl y.toNatClampNeg (by omega) (by omega)
    have z := rb_in hf hd (by omega) (by omega)
    rw [show fr.toNatClampNeg + i.toNatClampNeg = x.toNatClampNeg by omega, show p.toNatClampNeg + i.toNatClampNeg = y.toNatClampNeg by omega, ← hb]
    exact Int32.toInt_inj.mp (by omega)
  · exact q.2 j (by omega)
theorem kyJ_no {f : Nat → Int32} {w : Int} {p n wh fr k r sm i i' x y b d len : Int32} (hf : ivf f (-128) 127) (hj : kyJ f p n fr k sm i) (hs : ¬ sm.toInt = 0) (s1 : sm.toInt ≤ 1) (s0 : 0 ≤ sm.toInt) (hi : i.toInt < n.toInt) (i0 : 0 ≤ i.toInt) (f0 : 0 ≤ fr.toInt) (p0 : 0 ≤ p.toInt) (k0 : 0 ≤ k.toInt) (k53 : k.toInt < 53) (hb : b = st_fX10_118 x.toNatClampNeg &&& 255) (hd : d = rb_at f len y) (ex : x.toInt = fr.toInt + i.toInt) (ey : y.toInt = p.toInt + i.toInt) (hc : ¬ b.toInt = d.toInt) (hl : ∀ j : Nat, p.toNatClampNeg ≤ j → j < p.toNatClampNeg + n.toNatClampNeg → 97 ≤ (f j).toInt ∧ (f j).toInt ≤ 122) (hsz : p.toInt + n.toInt ≤ len.toInt) (h : kyI w wh fr k) (hr : r = st_fX10_118 k.toNatClampNeg &&& 255) (h32 : r.toInt = 32) : kyJ f p n fr k 0 i' := by
  have n1 := nn_eq fr; have n2 := nn_eq i; have n3 := nn_eq p; have n4 := nn_eq x; have n5 := nn_eq y; have n6 := nn_eq n; have n7 := nn_eq k
  have q := hj.1 (by omega)
  refine ⟨fun z => absurd z (by decide), fun _ z => hc ?_⟩
  have v := (ky_inj hl h hr h32 k0 k53 z).2 i.toNatClampNeg (by omega)
  rw [kst_and _ (by omega)] at hb
  have l := hl y.toNatClampNeg (by omega) (by omega)
  have u := rb_in hf hd (by omega) (by omega)
  rw [u, hb, show x.toNatClampNeg = fr.toNatClampNeg + i.toNatClampNeg by omega, v, show p.toNatClampNeg + i.toNatClampNeg = y.toNatClampNeg by omega]
theorem kyJ_t {f : Nat → Int32} {p n fr k sm i : Int32} (hj : kyJ f p n fr k sm i) (hs : ¬ sm.toInt = 0) (s1 : sm.toInt ≤ 1) (s0 : 0 ≤ sm.toInt) (hi : n.toInt ≤ i.toInt) (f0 : 0 ≤ fr.toInt) (fk : fr.toInt ≤ k.toInt) : wcd st_fX10_118 fr.toNatClampNeg (k.toNatClampNeg - fr.toNatClampNeg) = wcd f p.toNatClampNeg n.toNatClampNeg := by
  have n1 := nn_eq fr; have n2 := nn_eq i; have n6 := nn_eq n; have n7 := nn_eq k
  have q := hj.1 (by omega)
  have q1 := q.1
  rw [show k.toNatClampNeg - fr.toNatClampNeg = n.toNatClampNeg by omega]
  exact wcd_eq _ (fun j hjj => q.2 j (by omega))
