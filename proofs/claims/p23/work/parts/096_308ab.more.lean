theorem rac_upN {n3 n k s s' gs ix : Int32} {grp : Nat → Int32} {cb rb : Nat → Int} {f f' : Nat → Int64} {d v old : Int64} (h : rac n3 n grp cb rb f k s) (hs : smk n rb) (w : f' ix.toNatClampNeg = v) (o : ∀ j : Nat, ¬ j = ix.toNatClampNeg → f' j = f j) (ev : v = old + d) (eo : old = f ix.toNatClampNeg) (eg : gs = grp s.toNatClampNeg) (e : s + Int32.ofInt 1 = s') (hd : jv d (-(cb s.toNatClampNeg)) (cb s.toNatClampNeg)) (g0 : 0 ≤ gs.toInt) (g3 : gs.toInt ≤ 3) (hix : ix.toInt = 4 * k.toInt + gs.toInt) (k0 : 0 ≤ k.toInt) (s0 : 0 ≤ s.toInt) (hs3 : s.toInt < n3.toInt) (h3 : n3.toInt ≤ 4) (hgn : gs.toInt < n.toInt) (hn : n.toInt ≤ 4) (hc20 : cb s.toNatClampNeg ≤ 20) : rac n3 n grp cb rb f' k s' :=
  rac_up h hs eg g0 g3 hix k0 eo ev hd w o e s0 hs3 h3 hgn hn hc20
theorem rwk_stN {rb : Nat → Int} {n k ix : Int32} {f f' : Nat → Int64} (h : rwk rb n k f) (o : ∀ j : Nat, ¬ j = ix.toNatClampNeg → f' j = f j) (hix : 4 * k.toInt ≤ ix.toInt) (k0 : 0 ≤ k.toInt) (hn : n.toInt ≤ 4) : rwk rb n k f' := by
  have e1 := nn_eq n; have e3 := nn_eq ix; have e4 := nn_eq k
  intro j g hj hg
  rw [o _ (by omega)]; exact h j g hj hg
theorem rwk_oneN {rb : Nat → Int} {n k ix bd' : Int32} {f f1 f2 : Nat → Int64} (h : rwk rb n k f) (hs : smk n rb) (ha : adk n k f f1) (w : f2 ix.toNatClampNeg = 1) (o : ∀ j : Nat, ¬ j = ix.toNatClampNeg → f2 j = f1 j) (k0 : 0 ≤ k.toInt) (hn : n.toInt ≤ 4) (hb : bd'.toInt = k.toInt + 1) : rwk rb n bd' f2 := by
  have e1 := nn_eq n; have e4 := nn_eq k; have e5 := nn_eq bd'
  intro j g hj hg
  have r1 := (hs.1 g).1
  by_cases z : 4 * j + g = ix.toNatClampNeg
  · rw [z, w]; unfold jv; rw [show (1 : Int64).toInt = 1 by decide]; omega
  · rw [o _ z]
    by_cases q : j = k.toNatClampNeg
    · rw [q, ha.1 g hg]; unfold jv; rw [show (0 : Int64).toInt = 0 by decide]; omega
    · rw [ha.2 _ (by omega)]; exact h j g (by omega) hg
