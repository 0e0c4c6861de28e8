/-! THE CLAIM OUT OF ONE WALK OF THE LAW'S BODY. Your part is whole_start (and what it stands on); all else here is the same for every law, but numbers. -/
def R_law : String := "PaidBySignsLaw"
def lw_P (b : Addr) (xs : List Int32) (args : Array Value) (s : State) : Prop := args = #[.ref b] ∧ s.IntsAt b xs ∧ xs.length ≤ 3072 ∧ (Jvm.Cond.and given_1 narrow_1).before args s = true
def lw_Q (_ : Array Value) (s : State) (o : Outcome) (t : State) : Prop := o = .returned (some (.int 1)) ∧ Framed s o t [] 600000 7302250
def lw_Z (below : List Frame) (a : Array Value) (s : State) : State → Prop := fun t => ∃ o, t.status = .running ∧ Ended t below o ∧ lw_Q a s o t
/-- the law's own end, with 1 on the stack, nothing written that was there before, its room as the claim has it -/
theorem lw_ret {p : Program} {l : Launch} {e : Env} {s : State} {m : MethodId} {below : List Frame} {meth : Method} {c : Code} {b : Nat} (hx : p.tables.exec = Jvm.exec) (hb : c.code = code) (hr : meth.sig.returnType = ret) (hlocks : meth.locks = false) {pc : Nat} {H : Heap} {ls : Array Slot} (hdg : decode code pc = .ok (.ireturn, 1)) : W p l e room_1 s m #[Value.ref b] below meth c H [] 600000 7302250 (lw_Z below #[Value.ref b] s) (F0 m pc ls [.int 1]) := by
  intro T hT X
  obtain ⟨fs, hret, hrun, hended, hW, hframe⟩ := X.leave (v := some (.int 1)) (hlocks := hlocks) (fun h => by rw [hr] at h; cases h)
  have hmeth' : T.vm.method? m = some meth := X.method'
  refine ⟨T.setFrames fs, ?_, .returned (some (.int 1)), hrun, hended, rfl, ⟨_, rfl⟩, hW, hframe⟩
  jvm_step X.here [X.here.top, hx, hb, hdg, hmeth', hr, ret, narrow_b1]
  (try refine ⟨rfl, ?_⟩); (try refine ⟨rfl, ?_⟩)
  first | (intro acts; rw [hret _ acts rfl rfl rfl]) | rw [hret _ _ rfl rfl rfl]
  exact Steps.refl _
/-- what holds at the law's entry: the machine, the code, the tables' words (any of lw_tbl by 'hts w (by decide +kernel)'), the script of L ints xs at the cell b, what the Statement gives of the start (any of its parts by flat_of_before) -/
def lw_At (p : Program) (s : State) (m : MethodId) (meth : Method) (c : Code) (b L : Nat) (xs : Nat → Int32) : Prop :=
  p.tables.exec = Jvm.exec ∧ c.code = code ∧ meth.sig.returnType = ret ∧ c.maxLocals = 4 ∧ s.vm.findClass R_law = some m.cls ∧ (∀ w ∈ lw_tbl, w.before #[Value.ref b] s = true) ∧ va_X b L xs s s.heap ∧ b < s.heap.size ∧ meth.locks = false ∧ (Jvm.Cond.and given_1 narrow_1).before #[Value.ref b] s = true

theorem kk_L_law_0 : Cond.classLink RL 7 RX9 ∈ wsL_law := by decide +kernel
theorem kk_L_law_1 : Cond.instantiable RX9 14 ∈ wsL_law := by decide +kernel
theorem kk_L_law_2 : Cond.initialized RX9 ∈ wsL_law := by decide +kernel
theorem kk_L_law_3 : Cond.methodLink RL 9 yX9_init ∈ wsL_law := by decide +kernel
theorem kk_L_law_4 : Cond.instanceMethod yX9_init ∈ wsL_law := by decide +kernel
theorem kk_L_law_5 : Cond.classLink RL 10 RX10 ∈ wsL_law := by decide +kernel
theorem kk_L_law_6 : Cond.instantiable RX10 65 ∈ wsL_law := by decide +kernel
theorem kk_L_law_7 : Cond.initialized RX10 ∈ wsL_law := by decide +kernel
theorem kk_L_law_8 : Cond.methodLink RL 12 yX10_init ∈ wsL_law := by decide +kernel
theorem kk_L_law_9 : Cond.instanceMethod yX10_init ∈ wsL_law := by decide +kernel
theorem kk_L_law_10 : Cond.instantiable RX0 11 ∈ wsL_law := by decide +kernel
theorem kk_L_law_11 : Cond.instantiable RX1 9 ∈ wsL_law := by decide +kernel
theorem kk_L_law_12 : Cond.instantiable RX2 2 ∈ wsL_law := by decide +kernel
theorem kk_L_law_13 : Cond.instantiable RX3 11 ∈ wsL_law := by decide +kernel
theorem kk_L_law_14 : Cond.instantiable RX4 12 ∈ wsL_law := by decide +kernel
theorem kk_L_law_15 : Cond.instantiable RX5 5 ∈ wsL_law := by decide +kernel
theorem kk_L_law_16 : Cond.instantiable RX6 4 ∈ wsL_law := by decide +kernel
theorem kk_L_law_17 : Cond.instantiable RX7 14 ∈ wsL_law := by decide +kernel
theorem kk_L_law_18 : Cond.instantiable RX8 7 ∈ wsL_law := by decide +kernel
set_option maxRecDepth 100000 in
theorem law_known {args : Array Value} {s : State} (hts : ∀ w ∈ wsL_law, w.before args s = true) : ∃ (dC : Nat → ClassId) (dI : Nat → Nat → Nat), ∀ (k : Nat) (q : vw_C), vwCl[k]? = some q → u_Kn s q.1 q.2.1 q.2.2 (dC k) (dI k) := by
  obtain ⟨c0, iS0, hKn0⟩ := u_known (C := RX0) (T := TX0) (N := 11) (n := 11) hts inlX0 (hts _ kk_L_law_10)
  obtain ⟨c1, iS1, hKn1⟩ := u_known (C := RX1) (T := TX1) (N := 9) (n := 9) hts inlX1 (hts _ kk_L_law_11)
  obtain ⟨c2, iS2, hKn2⟩ := u_known (C := RX2) (T := TX2) (N := 2) (n := 2) hts inlX2 (hts _ kk_L_law_12)
  obtain ⟨c3, iS3, hKn3⟩ := u_known (C := RX3) (T := TX3) (N := 11) (n := 11) hts inlX3 (hts _ kk_L_law_13)
  obtain ⟨c4, iS4, hKn4⟩ := u_known (C := RX4) (T := TX4) (N := 12) (n := 12) hts inlX4 (hts _ kk_L_law_14)
  obtain ⟨c5, iS5, hKn5⟩ := u_known (C := RX5) (T := TX5) (N := 5) (n := 5) hts inlX5 (hts _ kk_L_law_15)
  obtain ⟨c6, iS6, hKn6⟩ := u_known (C := RX6) (T := TX6) (N := 4) (n := 4) hts inlX6 (hts _ kk_L_law_16)
  obtain ⟨c7, iS7, hKn7⟩ := u_known (C := RX7) (T := TX7) (N := 14) (n := 14) hts inlX7 (hts _ kk_L_law_17)
  obtain ⟨c8, iS8, hKn8⟩ := u_known (C := RX8) (T := TX8) (N := 7) (n := 7) hts inlX8 (hts _ kk_L_law_18)
  obtain ⟨c9, iS9, hKn9⟩ := u_known (C := RX9) (T := TX9) (N := 14) (n := 14) hts inlX9 (hts _ kk_L_law_1)
  obtain ⟨c10, iS10, hKn10⟩ := u_known (C := RX10) (T := TX10) (N := 65) (n := 65) hts inlX10 (hts _ kk_L_law_6)
  refine ⟨fun k => match k with | 0 => c0 | 1 => c1 | 2 => c2 | 3 => c3 | 4 => c4 | 5 => c5 | 6 => c6 | 7 => c7 | 8 => c8 | 9 => c9 | _ => c10, fun k => match k with | 0 => iS0 | 1 => iS1 | 2 => iS2 | 3 => iS3 | 4 => iS4 | 5 => iS5 | 6 => iS6 | 7 => iS7 | 8 => iS8 | 9 => iS9 | _ => iS10, ?_⟩
  intro k q hq
  match k, hq with
  | 0, hq => cases hq; exact hKn0
  | 1, hq => cases hq; exact hKn1
  | 2, hq => cases hq; exact hKn2
  | 3, hq => cases hq; exact hKn3
  | 4, hq => cases hq; exact hKn4
  | 5, hq => cases hq; exact hKn5
  | 6, hq => cases hq; exact hKn6
  | 7, hq => cases hq; exact hKn7
  | 8, hq => cases hq; exact hKn8
  | 9, hq => cases hq; exact hKn9
  | 10, hq => cases hq; exact hKn10
  | k + 11, hq => simp [vwCl] at hq

