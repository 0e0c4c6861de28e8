/-! rows of my own: numbers on the stack, contents of short arrays, arrays of arrays whose rows are let go, spec words -/
section PXA
variable {p : Program} {l : Launch} {e : Env} {R : Room} {s : State} {m : MethodId} {args : Array Value} {below : List Frame} {meth : Method} {c : Code} {H : Heap} {locs : List Loc} {cells slots : Nat} {Q : State → Prop}
variable {cc : ByteArray} {pc : Nat} {ls : Array Slot} {rest : List Value} {D : va_G} {cl : List vw_C} {A : Nat → Prop} {tys : List (ClassId × FieldType)} {ws : va_W} {H0 : Heap}
theorem px_i {x v : Int32} (h : x = v) (k : W p l e R s m args below meth c H locs cells slots Q (F0 m pc ls (.int v :: rest))) : W p l e R s m args below meth c H locs cells slots Q (F0 m pc ls (.int x :: rest)) := h ▸ k
theorem px_l {x v : Int64} (h : x = v) (k : W p l e R s m args below meth c H locs cells slots Q (F0 m pc ls (.long v :: rest))) : W p l e R s m args below meth c H locs cells slots Q (F0 m pc ls (.long x :: rest)) := h ▸ k
def vq_AOA (ty : FieldType) (U : State) : Prop := (Cond.arrayOver (.array ty)).before #[] U = true
theorem vq_AOA.use {ty : FieldType} {V : Array Value} {U : State} (h : vq_AOA ty U) : (Cond.arrayOver (.array ty)).before V U = true := h
theorem vq_AOA.of {ty : FieldType} {V : Array Value} {U : State} (h : (Cond.arrayOver (.array ty)).before V U = true) : vq_AOA ty U := h
theorem vq_AOA.moved {ty : FieldType} {u U : State} (hvm : u.vm.Alike U.vm) (h : vq_AOA ty u) : vq_AOA ty U := by
  obtain ⟨comp, c, k, h1, h2, h3, h4, h5⟩ := arrayOverA_spec h
  obtain ⟨k', hk', he⟩ := hvm.2.2 _ _ h3
  have hi : (U.vm.classes.findIdx? fun (x : Class) => match x.kind with | .array component _ => component == comp | _ => false) = some c := by
    have e : U.vm.bare = u.vm.bare := by first | exact hvm.bare_eq | exact hvm.bare_eq.symm
    have hb := va_idx_bare U.vm comp
    rw [e, va_idx_bare u.vm comp] at hb
    exact hb.symm.trans h2
  have hkind : k'.kind = .array comp (.array ty) := by rw [he]; exact h4
  have f1 : U.vm.findClass (FieldType.array ty).toString = some comp := by rw [hvm.findClass]; exact h1
  have f2 : U.vm.findClass ("[" ++ (FieldType.array ty).toString) = some c := by rw [hvm.findClass]; exact h5
  unfold vq_AOA Cond.before Cond.holds
  simp only [Cond.value]
  rw [f1, Option.bind_some]
  refine (congrArg (fun o : Option Nat => (o.bind (fun c => (U.vm.classes[c]?).map fun (k : Class) => match k.kind with | .array _ t => decide (t = FieldType.array ty) && decide (U.vm.findClass ("[" ++ (FieldType.array ty).toString) = some c) | _ => false) == some true)) hi).trans ?_
  simp [hk', hkind, f2]
/-- new T[n][k]: the outer array's address alone is kept, the world stays -/
theorem vq_mn0 (hexec : p.tables.exec = Jvm.exec) (hb : c.code = cc) {own : String} {index : Nat} {ty : FieldType} (hown : s.vm.findClass own = some m.cls) (hclink : (Cond.classLink own index ("[" ++ (FieldType.array ty).toString)).before args s = true) (hover : vq_AOA ty s) (harr : (Cond.arrayClass ty).before args s = true)
    (hP : va_P D cl ws H) (hS : va_S A H0 H locs) {n k : Int32} {N' K' : Nat} (hn : ¬ n < 0) (hk : ¬ k < 0) (hN : n.toNatClampNeg = N') (hM : k.toNatClampNeg = K')
    (hb1 : N' * 4 ≤ 536870912) (hb2 : K' * componentBytes ty ≤ 536870912) (hb3 : K' ≤ 536870912) (hdf : fits ty (defaultValue ty) = true) (hdd : (defaultValue ty).isDefault = true) (hcells : cells + (1 + N') ≤ R.cells) (hslots : slots + (N' + N' * K') ≤ R.slots) (hdg : decode cc pc = .ok (.multianewarray index 2, 4))
    (kk : ∀ (q : Nat) (H1 : Heap), va_P D cl ws H1 → va_S A H0 H1 locs → W p l e R s m args below meth c H1 locs (cells + 1 + N') (slots + N' + N' * K') Q (F0 m (pc + 4) ls (.ref q :: rest))) : W p l e R s m args below meth c H locs cells slots Q (F0 m pc ls (.int k :: .int n :: rest)) := by
  subst hN
  subst hM
  intro T hT Xs
  obtain ⟨vm₁, cA, comp, -, fA, fC, hO, -, X', step⟩ := Jvm.Stand.multianewarray2F Xs hexec hown hclink (vq_AOA.use hover) harr (g := F0 m pc ls (.int k :: .int n :: rest)) rfl (by rw [hb]; exact hdg) rfl hn hk hb1 hb2 hb3 hdf hdd hcells hslots
  generalize hF : Jvm.Free.Multi.fill (T.setVm vm₁) cA comp n.toNatClampNeg k.toNatClampNeg (defaultValue ty) n.toNatClampNeg = F at X' step
  have hTh : (T.setVm vm₁).heap = H := hT
  obtain ⟨f1, f2, -, -⟩ := Jvm.Free.Multi.fill_facts (T.setVm vm₁) cA comp n.toNatClampNeg k.toNatClampNeg (defaultValue ty) n.toNatClampNeg
  rw [hF, hTh] at f1
  have hold : ∀ x : Nat, x < H.size → F.heap[x]? = H[x]? := fun x hx => by
    have := Jvm.Free.Multi.fill_old (T.setVm vm₁) cA comp n.toNatClampNeg k.toNatClampNeg (defaultValue ty) (a := x) (by rw [hTh]; exact hx) n.toNatClampNeg
    rw [hF, hTh] at this
    exact this
  have hP0 : va_P D cl ws F.heap := hP.kept (fun k9 x hx => hold x.1 ((hP k9 x hx).lt))
  obtain ⟨t, a1, b1⟩ := kk H.size F.heap hP0 ⟨by rw [f1]; have := hS.1; omega, fun x h1 h2 => (hold x (Nat.lt_of_lt_of_le h1 hS.1)).trans (hS.2.1 x h1 h2), hS.2.2⟩ F rfl X'
  refine ⟨t, step t ?_, b1⟩
  have e : T.heap.size = H.size := by rw [hT]
  rw [e]
  exact a1
end PXA
def lf (l : List Int32) : Nat → Int32 := fun k => l.getD k 0
theorem lf_upd (l : List Int32) (k : Nat) (x : Int32) (h : k < l.length) : upd (lf l) k x = lf (l.set k x) := by
  funext j
  unfold upd lf
  by_cases e : j = k
  · subst e
    simp [List.getD, h]
  · have e2 : ¬ k = j := fun q => e q.symm
    simp [List.getD, List.getElem?_set, e, e2]
theorem lf_zero (n : Nat) : (fun _ => (0 : Int32)) = lf (List.replicate n 0) := by
  funext j
  unfold lf
  by_cases h : j < n
  · simp [List.getD, h]
  · simp [List.getD, h]
theorem vq_in (i : Int32) (n : Nat) (h : 0 ≤ i.toInt ∧ i.toInt < n) : vp_in i n := vp_in_iff.mpr h
/-- v between lo and hi, as the reference asks it -/
def sp_in (v lo hi : Int64) : Int32 := if v < lo then 0 else if hi < v then 0 else 1
theorem sp_in_no {v lo hi : Int64} (h : hi < lo) : sp_in v lo hi = 0 := by
  unfold sp_in
  by_cases h1 : v < lo
  · rw [if_pos h1]
  · rw [if_neg h1]
    have h2 : hi < v := by grind
    rw [if_pos h2]
theorem sp_w_lt (a b : Int32) : a.toInt64 < b.toInt64 ↔ a < b := by
  rw [Int64.lt_iff_toInt_lt, Int32.lt_iff_toInt_lt, Int32.toInt_toInt64, Int32.toInt_toInt64]
theorem sp_in_w (v lo hi : Int32) : sp_in v.toInt64 lo.toInt64 hi.toInt64 = if v < lo then 0 else if hi < v then 0 else 1 := by
  unfold sp_in
  simp only [sp_w_lt]
def sp_rng (v lo hi : Int32) : Int32 := if v < lo then 0 else if hi < v then 0 else 1
def sp_felt (w : Int32) : Int32 := if w ≤ 0 then 0 else w
theorem sp_test1 (a : Int32) (h : ¬ a < 0) (h2 : ¬ 0 ≤ a) : False := by grind
theorem sp_test2 (a : Int32) (h : ¬ a < 10) (h2 : a < 11) : a = 10 := by grind
theorem sp_test3 (a : Int64) (h : ¬ a < 0) (h2 : ¬ (-1) < a) : False := by grind
