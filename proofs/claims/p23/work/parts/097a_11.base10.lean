/-- rows below a place stay -/
def lwK (b : Nat) (f f' : Nat → Int32) : Prop := ∀ j : Nat, j < b → f' j = f j
theorem lw_r {b : Nat} {f : Nat → Int32} : lwK b f f := fun _ _ => rfl
theorem lw_tr {b : Nat} {f g h : Nat → Int32} (a : lwK b f g) (c : lwK b g h) : lwK b f h := fun j hj => (c j hj).trans (a j hj)
theorem lw_up {b : Nat} {x : Int32} {f f' : Nat → Int32} (hx : (b : Int) ≤ x.toInt) (o : ∀ j : Nat, ¬ j = x.toNatClampNeg → f' j = f j) : lwK b f f' := by
  have e := nn_eq x
  exact fun j hj => o j (by omega)
/-- what told() answers -/
def tolv (w sg wk wh el le rt : Int32) (fb fc fr fm : Nat → Int32) : Int32 :=
  if w.toInt = 0 then sg else if w.toInt = 1 then wk else if w.toInt = 2 then wh else if w.toInt = 3 then el else if w.toInt = 4 then le else if w.toInt = 5 then rt
  else if 10 ≤ w.toInt ∧ w.toInt < 10 + sg.toInt then fb (w.toInt - 10).toNat else if 20 ≤ w.toInt ∧ w.toInt < 20 + wk.toInt then fc (w.toInt - 20).toNat
  else if 30 ≤ w.toInt ∧ w.toInt < 30 + rt.toInt then fr (w.toInt - 30).toNat else if 40 ≤ w.toInt ∧ w.toInt < 39 + rt.toInt then fm (w.toInt - 40).toNat else -1
section TOL
variable {w sg wk wh el le rt i x : Int32} {fb fc fr fm : Nat → Int32}
theorem tol_0 (h : w.toInt = 0) : sg = tolv w sg wk wh el le rt fb fc fr fm := by unfold tolv; rw [if_pos h]
theorem tol_1 (h : w.toInt = 1) : wk = tolv w sg wk wh el le rt fb fc fr fm := by unfold tolv; rw [if_neg (by omega), if_pos h]
theorem tol_2 (h : w.toInt = 2) : wh = tolv w sg wk wh el le rt fb fc fr fm := by unfold tolv; rw [if_neg (by omega), if_neg (by omega), if_pos h]
theorem tol_3 (h : w.toInt = 3) : el = tolv w sg wk wh el le rt fb fc fr fm := by unfold tolv; rw [if_neg (by omega), if_neg (by omega), if_neg (by omega), if_pos h]
theorem tol_4 (h : w.toInt = 4) : le = tolv w sg wk wh el le rt fb fc fr fm := by unfold tolv; rw [if_neg (by omega), if_neg (by omega), if_neg (by omega), if_neg (by omega), if_pos h]
theorem tol_5 (h : w.toInt = 5) : rt = tolv w sg wk wh el le rt fb fc fr fm := by unfold tolv; rw [if_neg (by omega), if_neg (by omega), if_neg (by omega), if_neg (by omega), if_neg (by omega), if_pos h]
theorem tol_n (h : ¬ (0 ≤ w.toInt ∧ w.toInt ≤ 5)) : tolv w sg wk wh el le rt fb fc fr fm = if 10 ≤ w.toInt ∧ w.toInt < 10 + sg.toInt then fb (w.toInt - 10).toNat else if 20 ≤ w.toInt ∧ w.toInt < 20 + wk.toInt then fc (w.toInt - 20).toNat else if 30 ≤ w.toInt ∧ w.toInt < 30 + rt.toInt then fr (w.toInt - 30).toNat else if 40 ≤ w.toInt ∧ w.toInt < 39 + rt.toInt then fm (w.toInt - 40).toNat else -1 := by
  unfold tolv; rw [if_neg (by omega), if_neg (by omega), if_neg (by omega), if_neg (by omega), if_neg (by omega), if_neg (by omega)]
theorem tol_i {k : Int} (ei : i.toInt = w.toInt - k) : i.toNatClampNeg = (w.toInt - k).toNat := by rw [← ei]; rfl
theorem tol_b (h1 : 10 ≤ w.toInt) (h2 : w.toInt < 10 + sg.toInt) (ei : i.toInt = w.toInt - 10) (ex : x = fb i.toNatClampNeg) : x = tolv w sg wk wh el le rt fb fc fr fm := by
  rw [tol_n (by omega), if_pos ⟨h1, h2⟩, ex, tol_i ei]
theorem tol_c (n1 : ¬ (10 ≤ w.toInt ∧ w.toInt < 10 + sg.toInt)) (h1 : 20 ≤ w.toInt) (h2 : w.toInt < 20 + wk.toInt) (ei : i.toInt = w.toInt - 20) (ex : x = fc i.toNatClampNeg) : x = tolv w sg wk wh el le rt fb fc fr fm := by
  rw [tol_n (by omega), if_neg n1, if_pos ⟨h1, h2⟩, ex, tol_i ei]
theorem tol_r (n1 : ¬ (10 ≤ w.toInt ∧ w.toInt < 10 + sg.toInt)) (n2 : ¬ (20 ≤ w.toInt ∧ w.toInt < 20 + wk.toInt)) (h1 : 30 ≤ w.toInt) (h2 : w.toInt < 30 + rt.toInt) (ei : i.toInt = w.toInt - 30) (ex : x = fr i.toNatClampNeg) : x = tolv w sg wk wh el le rt fb fc fr fm := by
  rw [tol_n (by omega), if_neg n1, if_neg n2, if_pos ⟨h1, h2⟩, ex, tol_i ei]
theorem tol_m (n1 : ¬ (10 ≤ w.toInt ∧ w.toInt < 10 + sg.toInt)) (n2 : ¬ (20 ≤ w.toInt ∧ w.toInt < 20 + wk.toInt)) (n3 : ¬ (30 ≤ w.toInt ∧ w.toInt < 30 + rt.toInt)) (h1 : 40 ≤ w.toInt) (h2 : w.toInt < 39 + rt.toInt) (ei : i.toInt = w.toInt - 40) (ex : x = fm i.toNatClampNeg) : x = tolv w sg wk wh el le rt fb fc fr fm := by
  rw [tol_n (by omega), if_neg n1, if_neg n2, if_neg n3, if_pos ⟨h1, h2⟩, ex, tol_i ei]
theorem tol_x (n0 : ¬ (0 ≤ w.toInt ∧ w.toInt ≤ 5)) (n1 : ¬ (10 ≤ w.toInt ∧ w.toInt < 10 + sg.toInt)) (n2 : ¬ (20 ≤ w.toInt ∧ w.toInt < 20 + wk.toInt)) (n3 : ¬ (30 ≤ w.toInt ∧ w.toInt < 30 + rt.toInt)) (n4 : ¬ (40 ≤ w.toInt ∧ w.toInt < 39 + rt.toInt)) : -1 = tolv w sg wk wh el le rt fb fc fr fm := by
  rw [tol_n n0, if_neg n1, if_neg n2, if_neg n3, if_neg n4]
theorem tol_two {gb gc gr gm : Nat → Int32} (hb : ∀ i : Nat, i < sg.toNatClampNeg → fb i = gb i) (hc : ∀ i : Nat, i < wk.toNatClampNeg → fc i = gc i) (hr : ∀ i : Nat, i < rt.toNatClampNeg → fr i = gr i) (hm : ∀ i : Nat, i < rt.toNatClampNeg - 1 → fm i = gm i) : tolv w sg wk wh el le rt fb fc fr fm = tolv w sg wk wh el le rt gb gc gr gm := by
  have e1 := nn_eq sg; have e2 := nn_eq wk; have e3 := nn_eq rt
  by_cases h0 : 0 ≤ w.toInt ∧ w.toInt ≤ 5
  · have q : w.toInt = 0 ∨ w.toInt = 1 ∨ w.toInt = 2 ∨ w.toInt = 3 ∨ w.toInt = 4 ∨ w.toInt = 5 := by omega
    rcases q with q | q | q | q | q | q
    · rw [← tol_0 q, ← tol_0 q]
    · rw [← tol_1 q, ← tol_1 q]
    · rw [← tol_2 q, ← tol_2 q]
    · rw [← tol_3 q, ← tol_3 q]
    · rw [← tol_4 q, ← tol_4 q]
    · rw [← tol_5 q, ← tol_5 q]
  rw [tol_n h0, tol_n h0]
  by_cases n1 : 10 ≤ w.toInt ∧ w.toInt < 10 + sg.toInt
  · rw [if_pos n1, if_pos n1]; exact hb _ (by omega)
  rw [if_neg n1, if_neg n1]
  by_cases n2 : 20 ≤ w.toInt ∧ w.toInt < 20 + wk.toInt
  · rw [if_pos n2, if_pos n2]; exact hc _ (by omega)
  rw [if_neg n2, if_neg n2]
  by_cases n3 : 30 ≤ w.toInt ∧ w.toInt < 30 + rt.toInt
  · rw [if_pos n3, if_pos n3]; exact hr _ (by omega)
  rw [if_neg n3, if_neg n3]
  by_cases n4 : 40 ≤ w.toInt ∧ w.toInt < 39 + rt.toInt
  · rw [if_pos n4, if_pos n4]; exact hm _ (by omega)
  rw [if_neg n4, if_neg n4]
end TOL
/-- the two HIRES alike: the RATES stand in a list on one side -/
def rtE (rt : Int32) (fr : Nat → Int32) (a b c : Int32) : Prop := (1 ≤ rt.toInt → fr 0 = a) ∧ (2 ≤ rt.toInt → fr 1 = b) ∧ (3 ≤ rt.toInt → fr 2 = c)
theorem rtE_of {rt a b c : Int32} {fr : Nat → Int32} {ra : Nat → Int} (h : brK rt.toNatClampNeg fr ra) (h' : rtM rt.toNatClampNeg a b c ra) : rtE rt fr a b c := by
  have e := nn_eq rt
  refine ⟨fun q => Int32.toInt_inj.mp ?_, fun q => Int32.toInt_inj.mp ?_, fun q => Int32.toInt_inj.mp ?_⟩
  · rw [h 0 (by omega), h'.1]
  · rw [h 1 (by omega), h'.2.1 (by omega)]
  · rw [h 2 (by omega), h'.2.2 (by omega)]
theorem br_two {k : Nat} {f g : Nat → Int32} {br : Nat → Int} (h : brK k f br) (h' : brK k g br) : ∀ i : Nat, i < k → f i = g i := fun i hi => Int32.toInt_inj.mp (by rw [h i hi, h' i hi])
/-- hire() of both: all of it -/
theorem hire_all {f g : Nat → Int32} {n m : Nat} {r u k k' p p' wh sg wk el le rt wh' sg' wk' el' le' rt' a b c : Int32} {fb fc fr fm fb' fc' fm' : Nat → Int32}  (hxy : phr f n 0 = phr g m 0) (t0 : 0 ≤ rt.toInt) (t1 : 0 ≤ rt'.toInt)
    (h : (r.toInt = -1 ∧ phr f n 0 = .error (k.toInt, p.toInt)) ∨ (∃ (br co ch ra mr : Nat → Int), phr f n 0 = .ok (wh.toInt, sg.toNatClampNeg, br, wk.toNatClampNeg, co, ch, el.toInt, le.toInt, rt.toNatClampNeg, ra, mr) ∧ brK sg.toNatClampNeg fb br ∧ brK wk.toNatClampNeg fc co ∧ brK rt.toNatClampNeg fr ra ∧ brK (rt.toNatClampNeg - 1) fm mr ∧ r = wk ∧ k.toInt = 0 ∧ p.toInt = -1 ∧ 2 ≤ sg.toInt ∧ 2 ≤ wk.toInt))
    (h' : (u.toInt = -1 ∧ phr g m 0 = .error (k'.toInt, p'.toInt)) ∨ (∃ (br co ch ra mr : Nat → Int), phr g m 0 = .ok (wh'.toInt, sg'.toNatClampNeg, br, wk'.toNatClampNeg, co, ch, el'.toInt, le'.toInt, rt'.toNatClampNeg, ra, mr) ∧ brK sg'.toNatClampNeg fb' br ∧ brK wk'.toNatClampNeg fc' co ∧ rtM rt'.toNatClampNeg a b c ra ∧ brK (rt'.toNatClampNeg - 1) fm' mr ∧ u = wk' ∧ k'.toInt = 0 ∧ p'.toInt = -1 ∧ 2 ≤ sg'.toInt ∧ 2 ≤ wk'.toInt)) :
    (r.toInt = -1 ∧ u.toInt = -1) ∨ (¬ r.toInt = -1 ∧ ¬ u.toInt = -1 ∧ wh = wh' ∧ sg = sg' ∧ wk = wk' ∧ el = el' ∧ le = le' ∧ rt = rt' ∧ (∀ i : Nat, i < sg.toNatClampNeg → fb i = fb' i) ∧ (∀ i : Nat, i < wk.toNatClampNeg → fc i = fc' i) ∧ rtE rt fr a b c ∧ (∀ i : Nat, i < rt.toNatClampNeg - 1 → fm i = fm' i)) := by
  rcases h with ⟨h1, h2⟩ | ⟨br, co, ch, ra, mr, h1, h2, h3, h4, h5, h6, h7, h8, h9, h10⟩ <;> rcases h' with ⟨g1, g2⟩ | ⟨br', co', ch', ra', mr', g1, g2, g3, g4, g5, g6, g7, g8, g9, g10⟩
  · exact Or.inl ⟨h1, g1⟩
  · rw [h2, g1] at hxy; cases hxy
  · rw [h1, g2] at hxy; cases hxy
  · rw [h1, g1] at hxy
    have q := Except.ok.inj hxy
    have q1 : wh = wh' := Int32.toInt_inj.mp (congrArg (fun z => z.1) q)
    have q2 : sg = sg' := i32_nn2 (congrArg (fun z => z.2.1) q) (by omega) (by omega)
    have q3 : br = br' := congrArg (fun z => z.2.2.1) q
    have q4 : wk = wk' := i32_nn2 (congrArg (fun z => z.2.2.2.1) q) (by omega) (by omega)
    have q5 : co = co' := congrArg (fun z => z.2.2.2.2.1) q
    have q6 : el = el' := Int32.toInt_inj.mp (congrArg (fun z => z.2.2.2.2.2.2.1) q)
    have q7 : le = le' := Int32.toInt_inj.mp (congrArg (fun z => z.2.2.2.2.2.2.2.1) q)
    have q8 : rt = rt' := i32_nn2 (congrArg (fun z => z.2.2.2.2.2.2.2.2.1) q) t0 t1
    have q9 : ra = ra' := congrArg (fun z => z.2.2.2.2.2.2.2.2.2.1) q
    have q10 : mr = mr' := congrArg (fun z => z.2.2.2.2.2.2.2.2.2.2) q
    subst q1; subst q2; subst q3; subst q4; subst q5; subst q6; subst q7; subst q8; subst q9; subst q10
    refine Or.inr ⟨by rw [h6]; omega, by rw [g6]; omega, rfl, rfl, rfl, rfl, rfl, rfl, br_two h2 g2, br_two h3 g3, rtE_of h4 g4, br_two h5 g5⟩
