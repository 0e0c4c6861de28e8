theorem in_no {a b c : Int64} {x lo hi : Int} (h : a < b ∨ c < a) (ha : a.toInt = x) (hb : b.toInt = lo) (hc : c.toInt = hi) : x < lo ∨ hi < x := by
  rcases h with h | h
  · exact Or.inl (by rw [← ha, ← hb]; exact Int64.lt_iff_toInt_lt.mp h)
  · exact Or.inr (by rw [← ha, ← hc]; exact Int64.lt_iff_toInt_lt.mp h)
theorem run_let3 {f : Nat → Int32} {n : Nat} {p e x : Int32} (hi : skv f n 1 e.toNatClampNeg = skv f n 1 p.toNatClampNeg) (ex : x.toInt = e.toInt - p.toInt) (p0 : 0 ≤ p.toInt) (pe : p.toInt ≤ e.toInt) : ∀ j : Nat, p.toNatClampNeg ≤ j → j < p.toNatClampNeg + x.toNatClampNeg → 97 ≤ (f j).toInt ∧ (f j).toInt ≤ 122 := by
  have n1 := nn_eq p; have n2 := nn_eq e; have n3 := nn_eq x
  exact fun j h1 h2 => run_let hi j h1 (by omega)
theorem run_sz {f : Nat → Int32} {len : Int32} {k : Int} {p e : Int32} (hi : skv f len.toNatClampNeg k e.toNatClampNeg = skv f len.toNatClampNeg k p.toNatClampNeg) (l0 : 0 ≤ len.toInt) (p0 : 0 ≤ p.toInt) (pe : p.toInt < e.toInt) : e.toInt ≤ len.toInt := by
  have n1 := nn_eq p; have n2 := nn_eq e; have n3 := nn_eq len
  have z := (run_in hi (j := e.toNatClampNeg - 1) (by omega) (by omega)).1
  omega
theorem key_c {f : Nat → Int32} {p e x k : Int32} (h : k.toInt = kyv (wcd f p.toNatClampNeg x.toNatClampNeg)) (ex : x.toInt = e.toInt - p.toInt) : k.toInt = kyv (wcd f p.toNatClampNeg (e.toInt - p.toInt).toNat) := by
  have n := nn_eq x
  rw [show (e.toInt - p.toInt).toNat = x.toNatClampNeg by omega]; exact h
section MN
variable {f : Nat → Int32} {n c : Nat} {en so aa nu ke : Int32} {wo : Int64}
theorem mn_e1 {lo hi : Int} (h : cuM f n c en so aa nu ke wo) (hs : ¬ so.toInt = 2) : pnum f n lo hi c = .error ((1 : Int32).toInt, aa.toInt) := by
  unfold pnum
  rw [if_neg (fun z => hs ((cm_s h (by decide) (by decide)).mpr z)), h.2.2.1]; rfl
theorem mn_e2 {lo hi : Int} (h : cuM f n c en so aa nu ke wo) (hs : so.toInt = 2) (hr : nu.toInt < lo ∨ hi < nu.toInt) : pnum f n lo hi c = .error ((2 : Int32).toInt, aa.toInt) := by
  have t := (cm_s h (by decide) (by decide)).mp hs
  have q := h.2.2.2.1 t
  unfold pnum
  rw [if_pos t, if_neg (by omega), h.2.2.1]; rfl
theorem mn_ok {lo hi : Int} (h : cuM f n c en so aa nu ke wo) (hs : so.toInt = 2) (h1 : lo ≤ nu.toInt) (h2 : nu.toInt ≤ hi) : pnum f n lo hi c = .ok (nu.toInt, tkE f n c) := by
  have t := (cm_s h (by decide) (by decide)).mp hs
  have q := h.2.2.2.1 t
  unfold pnum
  rw [if_pos t, if_pos (by omega), q]
theorem ms_e (h : cuM f n c en so aa nu ke wo) (hs : ¬ so.toInt = 3) : psem f n c = .error ((1 : Int32).toInt, aa.toInt) := by
  unfold psem
  rw [if_neg (fun z => hs ((cm_s h (by decide) (by decide)).mpr z)), h.2.2.1]; rfl
theorem ms_ok (h : cuM f n c en so aa nu ke wo) (hs : so.toInt = 3) : psem f n c = .ok (tkE f n c) := by
  unfold psem
  rw [if_pos ((cm_s h (by decide) (by decide)).mp hs)]
theorem ik_t {k : Int32} (h : cuM f n c en so aa nu ke wo) (hs : so.toInt = 1) (hk : ke.toInt = k.toInt) (k0 : 0 ≤ k.toInt) : tkS f n c = 1 ∧ twrd f n c = KC k.toInt.toNat := by
  have t := (cm_s h (by decide) (by decide)).mp hs
  have q := (h.2.2.2.2 t).2
  refine ⟨t, ?_⟩
  have z := kyv_KC (w := twrd f n c) (by omega)
  rw [← q, hk] at z; exact z
theorem ik_f1 {w : Int} (h : cuM f n c en so aa nu ke wo) (hs : ¬ so.toInt = 1) : ¬ (tkS f n c = 1 ∧ twrd f n c = w) := fun z => hs ((cm_s h (by decide) (by decide)).mpr z.1)
theorem ik_f2 {k : Int32} (h : cuM f n c en so aa nu ke wo) (hk : ¬ ke.toInt = k.toInt) (k0 : 0 ≤ k.toInt) (k8 : k.toInt ≤ 8) : ¬ (tkS f n c = 1 ∧ twrd f n c = KC k.toInt.toNat) := fun z => hk (by
  have q := (h.2.2.2.2 z.1).2
  rw [q, z.2, KC_kyv _ (by omega)]; omega)
theorem mw_e {k : Int} (h : cuM f n c en so aa nu ke wo) (hw : ¬ (tkS f n c = 1 ∧ twrd f n c = k)) : pwrd f n k c = .error ((1 : Int32).toInt, aa.toInt) := by
  unfold pwrd; rw [if_neg hw, h.2.2.1]; rfl
theorem mm_e1 {m : Nat} {nm : Nat → Int} (h : cuM f n c en so aa nu ke wo) (hs : ¬ so.toInt = 1) : pnam f n m nm c = .error ((1 : Int32).toInt, aa.toInt) := by
  unfold pnam; rw [if_neg (fun z => hs ((cm_s h (by decide) (by decide)).mpr z)), h.2.2.1]; rfl
theorem mm_e3 {m : Nat} {nm : Nat → Int} (h : cuM f n c en so aa nu ke wo) (hs : so.toInt = 1) (hi : inn nm wo.toInt m = true) : pnam f n m nm c = .error ((3 : Int32).toInt, aa.toInt) := by
  have t := (cm_s h (by decide) (by decide)).mp hs
  rw [(h.2.2.2.2 t).1] at hi
  unfold pnam; rw [if_pos t, if_pos hi, h.2.2.1]; rfl
theorem mm_ok {m : Nat} {nm : Nat → Int} (h : cuM f n c en so aa nu ke wo) (hs : so.toInt = 1) (hi : inn nm wo.toInt m = false) : pnam f n m nm c = .ok (wo.toInt, tkE f n c) := by
  have t := (cm_s h (by decide) (by decide)).mp hs
  have q := (h.2.2.2.2 t).1
  rw [q] at hi
  unfold pnam; rw [if_pos t, if_neg (by rw [hi]; decide), q]
end MN
def jrK (k : Nat) (fl : Nat → Int64) (nm : Nat → Int) : Prop := ∀ i : Nat, i < k → (fl i).toInt = nm i
theorem jrK_0 {fl : Nat → Int64} {nm : Nat → Int} : jrK 0 fl nm := fun i h => absurd h (Nat.not_lt_zero i)
theorem jrK_z {x : Int32} {fl : Nat → Int64} {nm : Nat → Int} (h : x.toInt = 0) : jrK x.toNatClampNeg fl nm := by rw [nn_z h]; exact jrK_0
theorem jrK_up {k : Nat} {fl fl' : Nat → Int64} {nm : Nat → Int} {v : Int64} (h : jrK k fl nm) (w : fl' k = v) (o : ∀ j : Nat, ¬ j = k → fl' j = fl j) : jrK (k + 1) fl' (upz nm k v.toInt) := by
  intro i hi
  unfold upz
  by_cases e : i = k
  · subst e; rw [w, if_pos rfl]
  · rw [o i e, if_neg e]; exact h i (by omega)
theorem jrK_s {x y : Int32} {fl : Nat → Int64} {nm : Nat → Int} (h : jrK (x.toNatClampNeg + 1) fl nm) (e : y.toInt = x.toInt + 1) (x0 : 0 ≤ x.toInt) : jrK y.toNatClampNeg fl nm := by rw [nn_s e x0]; exact h
theorem jr_t {k i : Int32} {fl : Nat → Int64} {nm : Nat → Int} {y w : Int64} (h : jrK k.toNatClampNeg fl nm) (ey : y = fl i.toNatClampNeg) (i0 : 0 ≤ i.toInt) (ik : i.toInt < k.toInt) (he : y = w) : inn nm w.toInt k.toNatClampNeg = true := by
  have n1 := nn_eq i; have n2 := nn_eq k
  exact inn_t (i := i.toNatClampNeg) (by omega) (by rw [← h _ (by omega), ← ey, he])
theorem jr_ne {k i : Int32} {fl : Nat → Int64} {nm : Nat → Int} {y w : Int64} (h : jrK k.toNatClampNeg fl nm) (ey : y = fl i.toNatClampNeg) (i0 : 0 ≤ i.toInt) (ik : i.toInt < k.toInt) (he : ¬ y = w) : ¬ nm i.toNatClampNeg = w.toInt := by
  have n1 := nn_eq i; have n2 := nn_eq k
  exact fun z => he (by rw [← h _ (by omega), ← ey] at z; exact Int64.toInt_inj.mp z)
/-- rows that begin behind a place -/
def brM (b k : Nat) (f : Nat → Int32) (g : Nat → Int) : Prop := ∀ i : Nat, i < k → (f (b + i)).toInt = g i
theorem brM_0 {b : Nat} {f : Nat → Int32} {g : Nat → Int} : brM b 0 f g := fun i h => absurd h (Nat.not_lt_zero i)
theorem brM_z {b : Nat} {x : Int32} {f : Nat → Int32} {g : Nat → Int} (h : x.toInt = 0) : brM b x.toNatClampNeg f g := by rw [nn_z h]; exact brM_0
theorem brM_up {b : Nat} {x k : Int32} {f f' : Nat → Int32} {g : Nat → Int} {v : Int32} (h : brM b k.toNatClampNeg f g) (ex : x.toInt = b + k.toInt) (k0 : 0 ≤ k.toInt) (w : f' x.toNatClampNeg = v) (o : ∀ j : Nat, ¬ j = x.toNatClampNeg → f' j = f j) : brM b (k.toNatClampNeg + 1) f' (upz g k.toNatClampNeg v.toInt) := by
  have n1 := nn_eq x; have n2 := nn_eq k
  have z : x.toNatClampNeg = b + k.toNatClampNeg := by omega
  rw [z] at w o
  intro i hi
  unfold upz
  by_cases e : i = k.toNatClampNeg
  · subst e; rw [w, if_pos rfl]
  · rw [o _ (by omega), if_neg e]; exact h i (by omega)
theorem brM_s {b : Nat} {x y : Int32} {f : Nat → Int32} {g : Nat → Int} (h : brM b (x.toNatClampNeg + 1) f g) (e : y.toInt = x.toInt + 1) (x0 : 0 ≤ x.toInt) : brM b y.toNatClampNeg f g := by rw [nn_s e x0]; exact h
/-- a SIGN, with the place for it -/
def psg4 (f : Nat → Int32) (n m : Nat) (nm : Nat → Int) (c : Nat) : Except (Int × Int) (Int × Int × Nat) :=
  if m = 4 then .error (4, (tkA f n c : Int)) else psgn f n m nm (tkE f n c)
theorem psg4_r {f : Nat → Int32} {n c : Nat} {nm : Nat → Int} {k aa : Int32} (hk : k.toInt = 4) (ha : aa.toInt = (tkA f n c : Int)) : psg4 f n k.toNatClampNeg nm c = .error ((4 : Int32).toInt, aa.toInt) := by
  have e := nn_eq k
  unfold psg4; rw [if_pos (by omega), ha]; rfl
theorem psg4_n {f : Nat → Int32} {n c : Nat} {nm : Nat → Int} {k : Int32} (k0 : 0 ≤ k.toInt) (hk : ¬ k.toInt = 4) : psg4 f n k.toNatClampNeg nm c = psgn f n k.toNatClampNeg nm (tkE f n c) := by
  have e := nn_eq k
  unfold psg4; rw [if_neg (by omega)]
theorem psgs_E {f : Nat → Int32} {n c : Nat} {s : Int32} {nm br : Nat → Int} {e : Int × Int} (h1 : tkS f n c = 1 ∧ twrd f n c = 632046) (h2 : psg4 f n s.toNatClampNeg nm c = .error e) (s0 : 0 ≤ s.toInt) (s4 : s.toInt ≤ 4) : psgs f n (5 - s.toNatClampNeg) s.toNatClampNeg nm br c = .error e := by
  have e1 := nn_eq s
  by_cases hs : s.toInt = 4
  · unfold psg4 at h2; rw [if_pos (by omega)] at h2
    rw [show 5 - s.toNatClampNeg = 0 + 1 by omega, psgs, if_pos h1, if_pos (by omega)]; rw [Except.error.injEq] at h2; rw [h2]
  · rw [psg4_n s0 hs] at h2
    exact psgs_e h1 h2 s0 (by omega)
def pwk5 (f : Nat → Int32) (n : Nat) (wh : Int) (sg m : Nat) (nm ch : Nat → Int) (c : Nat) : Except (Int × Int) (Int × Int × (Nat → Int) × Nat) :=
  if m = 5 then .error (4, (tkA f n c : Int)) else pwrk f n wh sg m nm ch (tkE f n c)
theorem pwk5_r {f : Nat → Int32} {n c sg : Nat} {wh : Int} {nm ch : Nat → Int} {k aa : Int32} (hk : k.toInt = 5) (ha : aa.toInt = (tkA f n c : Int)) : pwk5 f n wh sg k.toNatClampNeg nm ch c = .error ((4 : Int32).toInt, aa.toInt) := by
  have e := nn_eq k
  unfold pwk5; rw [if_pos (by omega), ha]; rfl
theorem pwk5_n {f : Nat → Int32} {n c sg : Nat} {wh : Int} {nm ch : Nat → Int} {k : Int32} (k0 : 0 ≤ k.toInt) (hk : ¬ k.toInt = 5) : pwk5 f n wh sg k.toNatClampNeg nm ch c = pwrk f n wh sg k.toNatClampNeg nm ch (tkE f n c) := by
  have e := nn_eq k
  unfold pwk5; rw [if_neg (by omega)]
theorem pwks_E {f : Nat → Int32} {n c sg : Nat} {wh : Int} {s : Int32} {nm co ch : Nat → Int} {e : Int × Int} (h1 : tkS f n c = 1 ∧ twrd f n c = 769611) (h2 : pwk5 f n wh sg s.toNatClampNeg nm ch c = .error e) (s0 : 0 ≤ s.toInt) (s4 : s.toInt ≤ 5) : pwks f n wh sg (6 - s.toNatClampNeg) s.toNatClampNeg nm co ch c = .error e := by
  have e1 := nn_eq s
  by_cases hs : s.toInt = 5
  · unfold pwk5 at h2; rw [if_pos (by omega)] at h2
    rw [show 6 - s.toNatClampNeg = 0 + 1 by omega, pwks, if_pos h1, if_pos (by omega)]; rw [Except.error.injEq] at h2; rw [h2]
  · rw [pwk5_n s0 hs] at h2
    exact pwks_e h1 h2 s0 (by omega)
/-- feel without its ; -/
def pfl1 (f : Nat → Int32) (n c : Nat) : Except (Int × Int) (Nat × (Nat → Int) × (Nat → Int) × Nat) :=
  match pnum f n 1 5 c with
  | .error e => .error e
  | .ok (v, c1) => psts f n 3 1 (upz z0 0 v) z0 c1
theorem pfel_1 {f : Nat → Int32} {n c : Nat} : pfel f n c = pfe2 f n (pfl1 f n c) := by
  unfold pfel pfl1
  cases pnum f n 1 5 c with
  | error e => rfl
  | ok x => rfl
theorem psts_g {f : Nat → Int32} {n c c4 d m : Nat} {ra mr : Nat → Int} {v r : Int} (h1 : tkS f n c = 2) (h2 : pstp f n m ra mr c = .ok (v, r, c4)) : psts f n (d + 1) m ra mr c = psts f n d (m + 1) (upz ra m r) (upz mr (m - 1) v) c4 := by
  rw [psts, if_pos h1, h2]
theorem psts_x {f : Nat → Int32} {n c d m : Nat} {ra mr : Nat → Int} {e : Int × Int} (h1 : tkS f n c = 2) (h2 : pstp f n m ra mr c = .error e) : psts f n (d + 1) m ra mr c = .error e := by
  rw [psts, if_pos h1, h2]
theorem psts_o {f : Nat → Int32} {n c d m : Nat} {ra mr : Nat → Int} (h1 : ¬ tkS f n c = 2) : psts f n (d + 1) m ra mr c = .ok (m, ra, mr, c) := by
  rw [psts, if_neg h1]
/-- the RATES as they stand in a list -/
def rtM (m : Nat) (a b c : Int32) (ra : Nat → Int) : Prop := a.toInt = ra 0 ∧ (2 ≤ m → b.toInt = ra 1) ∧ (3 ≤ m → c.toInt = ra 2)
/-- which RESTS stand -/
def sbK (s : Int32) (he hl hf : Int) : Prop := (he = 0 ∨ he = 1) ∧ (hl = 0 ∨ hl = 1) ∧ (hf = 0 ∨ hf = 1) ∧ s.toInt = 64 * he + 128 * hl + 256 * hf
theorem sbK_all {s : Int32} {he hl hf : Int} (h : sbK s he hl hf) : ∃ k : Fin 8, s = ([0, 64, 128, 192, 256, 320, 384, 448] : List Int32).getD k.val 0 ∧ he = (k.val % 2 : Nat) ∧ hl = (k.val / 2 % 2 : Nat) ∧ hf = (k.val / 4 : Nat) := by
  obtain ⟨h1, h2, h3, h4⟩ := h
  rcases h1 with h1 | h1 <;> rcases h2 with h2 | h2 <;> rcases h3 with h3 | h3 <;> subst h1 <;> subst h2 <;> subst h3
  · exact ⟨0, Int32.toInt_inj.mp (by rw [h4]; decide), by decide, by decide, by decide⟩
  · exact ⟨4, Int32.toInt_inj.mp (by rw [h4]; decide), by decide, by decide, by decide⟩
  · exact ⟨2, Int32.toInt_inj.mp (by rw [h4]; decide), by decide, by decide, by decide⟩
  · exact ⟨6, Int32.toInt_inj.mp (by rw [h4]; decide), by decide, by decide, by decide⟩
  · exact ⟨1, Int32.toInt_inj.mp (by rw [h4]; decide), by decide, by decide, by decide⟩
  · exact ⟨5, Int32.toInt_inj.mp (by rw [h4]; decide), by decide, by decide, by decide⟩
  · exact ⟨3, Int32.toInt_inj.mp (by rw [h4]; decide), by decide, by decide, by decide⟩
  · exact ⟨7, Int32.toInt_inj.mp (by rw [h4]; decide), by decide, by decide, by decide⟩
theorem sb_tab : ∀ k : Fin 8, (((([0, 64, 128, 192, 256, 320, 384, 448] : List Int32).getD k.val 0) >>> (6 : Int32)) &&& 1).toInt = ((k.val % 2 : Nat) : Int) ∧ (((([0, 64, 128, 192, 256, 320, 384, 448] : List Int32).getD k.val 0) >>> (7 : Int32)) &&& 1).toInt = ((k.val / 2 % 2 : Nat) : Int) ∧ (((([0, 64, 128, 192, 256, 320, 384, 448] : List Int32).getD k.val 0) >>> (8 : Int32)) &&& 1).toInt = ((k.val / 4 : Nat) : Int) := by decide
theorem sb_or : ∀ k : Fin 8, ((([0, 64, 128, 192, 256, 320, 384, 448] : List Int32).getD k.val 0) ||| (64 : Int32)).toInt = 64 * 1 + 128 * ((k.val / 2 % 2 : Nat) : Int) + 256 * ((k.val / 4 : Nat) : Int) ∧ ((([0, 64, 128, 192, 256, 320, 384, 448] : List Int32).getD k.val 0) ||| (128 : Int32)).toInt = 64 * ((k.val % 2 : Nat) : Int) + 128 * 1 + 256 * ((k.val / 4 : Nat) : Int) ∧ ((([0, 64, 128, 192, 256, 320, 384, 448] : List Int32).getD k.val 0) ||| (256 : Int32)).toInt = 64 * ((k.val % 2 : Nat) : Int) + 128 * ((k.val / 2 % 2 : Nat) : Int) + 256 * 1 := by decide
section SB
variable {s x y z : Int32} {he hl hf : Int}
theorem sb_b6 (h : sbK s he hl hf) (ex : x = s >>> (6 : Int32)) (ey : y = x &&& 1) : y.toInt = he := by
  obtain ⟨k, rfl, rfl, rfl, rfl⟩ := sbK_all h; rw [ey, ex]; exact (sb_tab k).1
theorem sb_b7 (h : sbK s he hl hf) (ex : x = s >>> (7 : Int32)) (ey : y = x &&& 1) : y.toInt = hl := by
  obtain ⟨k, rfl, rfl, rfl, rfl⟩ := sbK_all h; rw [ey, ex]; exact (sb_tab k).2.1
theorem sb_b8 (h : sbK s he hl hf) (ex : x = s >>> (8 : Int32)) (ey : y = x &&& 1) : y.toInt = hf := by
  obtain ⟨k, rfl, rfl, rfl, rfl⟩ := sbK_all h; rw [ey, ex]; exact (sb_tab k).2.2
theorem sb_o6 (h : sbK s he hl hf) (ez : z = s ||| 64) : sbK z 1 hl hf := by
  have q := h
  obtain ⟨k, rfl, rfl, rfl, rfl⟩ := sbK_all h; rw [ez]; exact ⟨Or.inr rfl, q.2.1, q.2.2.1, (sb_or k).1⟩
theorem sb_o7 (h : sbK s he hl hf) (ez : z = s ||| 128) : sbK z he 1 hf := by
  have q := h
  obtain ⟨k, rfl, rfl, rfl, rfl⟩ := sbK_all h; rw [ez]; exact ⟨q.1, Or.inr rfl, q.2.2.1, (sb_or k).2.1⟩
theorem sb_o8 (h : sbK s he hl hf) (ez : z = s ||| 256) : sbK z he hl 1 := by
  have q := h
  obtain ⟨k, rfl, rfl, rfl, rfl⟩ := sbK_all h; rw [ez]; exact ⟨q.1, q.2.1, Or.inr rfl, (sb_or k).2.2⟩
end SB
/-- one REST -/
def prs1 (f : Nat → Int32) (n : Nat) (he hl hf el le : Int) (m : Nat) (ra mr : Nat → Int) (c : Nat) : Except (Int × Int) (Int × Int × Int × Int × Int × Nat × (Nat → Int) × (Nat → Int) × Nat) :=
  if tkS f n c = 1 ∧ twrd f n c = 176741 then
    match ponc f n he c with
    | .error e => .error e
    | .ok (v, c1) => .ok (1, hl, hf, v, le, m, ra, mr, c1)
  else if tkS f n c = 1 ∧ twrd f n c = 12748404 then
    match ponc f n hl c with
    | .error e => .error e
    | .ok (v, c1) => .ok (he, 1, hf, el, v, m, ra, mr, c1)
  else if tkS f n c = 1 ∧ twrd f n c = 201900 then
    match pfe1 f n hf c with
    | .error e => .error e
    | .ok (m', ra', mr', c1) => .ok (he, hl, 1, el, le, m', ra', mr', c1)
  else .error (1, (tkA f n c : Int))
theorem prst_1 {f : Nat → Int32} {n c d : Nat} {he hl hf el le : Int} {m : Nat} {ra mr : Nat → Int} (h0 : ¬ tkS f n c = 0) : prst f n (d + 1) he hl hf el le m ra mr c = match prs1 f n he hl hf el le m ra mr c with
    | .error e => .error e
    | .ok (he', hl', hf', el', le', m', ra', mr', c') => prst f n d he' hl' hf' el' le' m' ra' mr' c' := by
  rw [prst, if_neg h0]
  unfold prs1
  by_cases h1 : tkS f n c = 1 ∧ twrd f n c = 176741
  · rw [if_pos h1, if_pos h1]
    cases ponc f n he c with
    | error e => rfl
    | ok x => rfl
  rw [if_neg h1, if_neg h1]
  by_cases h2 : tkS f n c = 1 ∧ twrd f n c = 12748404
  · rw [if_pos h2, if_pos h2]
    cases ponc f n hl c with
    | error e => rfl
    | ok x => rfl
  rw [if_neg h2, if_neg h2]
  by_cases h3 : tkS f n c = 1 ∧ twrd f n c = 201900
  · rw [if_pos h3, if_pos h3]
    cases pfe1 f n hf c with
    | error e => rfl
    | ok x => rfl
  rw [if_neg h3, if_neg h3]
