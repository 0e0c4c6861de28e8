theorem mtk_upRN {rb : Nat → Int} {n i g g' ix ix2 ch c bd : Int32} {fc : Nat → Int32} {f f' fr : Nat → Int64} {v : Int64} (h : mtk (dbb rb c) n f i g) (w : f' ix.toNatClampNeg = v) (o : ∀ j : Nat, ¬ j = ix.toNatClampNeg → f' j = f j) (ev : v = fr ix2.toNatClampNeg) (ec : ch = fc i.toNatClampNeg) (e : g + Int32.ofInt 1 = g') (hr : rwk rb n bd fr) (hcs : ∀ j : Nat, j < n.toNatClampNeg → (fc j).toInt < bd.toInt) (hix : ix.toInt = 4 * i.toInt + g.toInt) (hc : g.toInt ≠ c.toInt) (c0 : 0 ≤ ch.toInt) (hix2 : ix2.toInt = 4 * ch.toInt + g.toInt) (h0 : 0 ≤ i.toInt) (hi : i.toInt < n.toInt) (g0 : 0 ≤ g.toInt) (hg : g.toInt < n.toInt) (hn : n.toInt ≤ 4) : mtk (dbb rb c) n f' i g' :=
  mtk_upR h w o hix hc hr hcs ec c0 hix2 ev e h0 hi g0 hg hn
theorem jv_pos {x : Int64} {b : Int} (h : jv x 0 b) (h0 : ¬ x = 0) : jv x 1 b := by
  have h1 : ¬ x.toInt = 0 := fun z => h0 (Int64.toInt_inj.mp (by rw [z]; decide))
  have h2 := h.1
  have h3 := h.2
  exact jv.m (by omega)
