/-! rows of two-dimensional arrays among the pooled cells (not built yet) -/
def rows_of (N : Nat) (r : Nat → Nat) : Nat → Option Nat := fun i => if i < N then some (r i) else none
theorem vin_lt {i : Int32} {n : Nat} (h : vp_in i n) : i.toNatClampNeg < n := Nat.not_le.mp fun q => h (Or.inr q)
theorem row_sel {N : Nat} {r : Nat → Nat} {i : Int32} (h : vp_in i N) : va_rf (rows_of N r i.toNatClampNeg) = .ref (r i.toNatClampNeg) := by
  unfold rows_of; rw [if_pos (vin_lt h)]; rfl
section PXV
variable {p : Program} {l : Launch} {e : Env} {R : Room} {s : State} {m : MethodId} {args : Array Value} {below : List Frame} {meth : Method} {c : Code} {H : Heap} {locs : List Loc} {cells slots : Nat} {Q : State → Prop}
variable {cc : ByteArray} {pc : Nat} {ls : Array Slot} {rest : List Value} {D : va_G} {cl : List vw_C} {A : Nat → Prop} {a : Nat} {tys : List (ClassId × FieldType)} {ws : va_W} {H0 : Heap}
theorem px_v {x v : Value} (h : x = v) (k : W p l e R s m args below meth c H locs cells slots Q (F0 m pc ls (v :: rest))) : W p l e R s m args below meth c H locs cells slots Q (F0 m pc ls (x :: rest)) := h ▸ k
theorem va_aldA (hexec : p.tables.exec = Jvm.exec) (hb : c.code = cc) (hK : va_K D cl tys s) (hP : va_P D cl ws H) (q0 t0 : Nat) {cA : ClassId} {ty : FieldType} {n : Nat} {f : Nat → Option Nat} (ha : ws[q0]? = some (a, .inl (cA, n, .inr (.inr (.inr (.inr f)))))) (ht : tys[t0]? = some (cA, .array ty)) {i : Int32} (hin : vp_in i n) (hdg : decode cc pc = .ok (.aaload, 1))
    (kk : W p l e R s m args below meth c H locs cells slots Q (F0 m (pc + 1) ls (va_rf (f i.toNatClampNeg) :: rest))) : W p l e R s m args below meth c H locs cells slots Q (F0 m pc ls (.int i :: .ref a :: rest)) := by
  have hlt : i.toNatClampNeg < n := Nat.not_le.mp fun q => hin (Or.inr q)
  exact W.aald (v := va_rf (f i.toNatClampNeg)) (ty := .array ty) hexec hb (hP q0 _ ha) ((hK.2 t0 _ ht).1 n (fun j => va_rf (f j))) rfl (fun q => by cases q) (by show ¬ (i < 0 ∨ (arrV _ _ _).slots.size ≤ _); rw [arrV_size]; exact hin) (by show (arrV _ _ _).slots[_]? = _; rw [arrV_read _ _ hlt]) rfl rfl hdg kk
end PXV
/-- what the pooled rows are: 4 ints, 4 ints within 0 .. 10 (shape 104), 5 ints, 13 longs -/
def upc (C : Nat → Nat → Int32) (a k : Nat) (x : Int32) : Nat → Nat → Int32 := va_up C a (upd (C a) k x)
def pok (cI cJ : ClassId) (LP : List Nat) (sh : Nat → Nat) (CT : Nat → Nat → Int32) (fp : Nat → va_E) : Prop := ∀ a ∈ LP, (sh a = 4 → ∃ g : Nat → Int32, fp a = .inl (cI, 4, .inl g)) ∧ (sh a = 104 → fp a = .inl (cI, 4, .inl (CT a)) ∧ ivf (CT a) 0 10) ∧ (sh a = 5 → ∃ g : Nat → Int32, fp a = .inl (cI, 5, .inl g)) ∧ (sh a = 13 → ∃ g : Nat → Int64, fp a = .inl (cJ, 13, .inr (.inl g)))
theorem pok_4 {cI cJ : ClassId} {LP : List Nat} {sh : Nat → Nat} {CT : Nat → Nat → Int32} {fp : Nat → va_E} (h : pok cI cJ LP sh CT fp) {a : Nat} (m : a ∈ LP ∧ sh a = 4) : ∃ g : Nat → Int32, fp a = .inl (cI, 4, .inl g) := (h a m.1).1 m.2
theorem pok_104 {cI cJ : ClassId} {LP : List Nat} {sh : Nat → Nat} {CT : Nat → Nat → Int32} {fp : Nat → va_E} (h : pok cI cJ LP sh CT fp) {a : Nat} (m : a ∈ LP ∧ sh a = 104) : fp a = .inl (cI, 4, .inl (CT a)) ∧ ivf (CT a) 0 10 := (h a m.1).2.1 m.2
theorem pok_5 {cI cJ : ClassId} {LP : List Nat} {sh : Nat → Nat} {CT : Nat → Nat → Int32} {fp : Nat → va_E} (h : pok cI cJ LP sh CT fp) {a : Nat} (m : a ∈ LP ∧ sh a = 5) : ∃ g : Nat → Int32, fp a = .inl (cI, 5, .inl g) := (h a m.1).2.2.1 m.2
theorem pok_13 {cI cJ : ClassId} {LP : List Nat} {sh : Nat → Nat} {CT : Nat → Nat → Int32} {fp : Nat → va_E} (h : pok cI cJ LP sh CT fp) {a : Nat} (m : a ∈ LP ∧ sh a = 13) : ∃ g : Nat → Int64, fp a = .inl (cJ, 13, .inr (.inl g)) := (h a m.1).2.2.2 m.2
theorem pok_up {cI cJ : ClassId} {LP : List Nat} {sh : Nat → Nat} {CT : Nat → Nat → Int32} {fp : Nat → va_E} (h : pok cI cJ LP sh CT fp) {a : Nat} {e : va_E} (hn : ¬ sh a = 104) (he : (sh a = 4 → ∃ g : Nat → Int32, e = .inl (cI, 4, .inl g)) ∧ (sh a = 5 → ∃ g : Nat → Int32, e = .inl (cI, 5, .inl g)) ∧ (sh a = 13 → ∃ g : Nat → Int64, e = .inl (cJ, 13, .inr (.inl g)))) : pok cI cJ LP sh CT (va_up fp a e) := by
  intro b hb
  by_cases q : b = a
  · subst q
    have e1 : va_up fp b e b = e := va_up_self _ _ _
    rw [e1]; exact ⟨he.1, fun z => absurd z hn, he.2.1, he.2.2⟩
  · have e1 : va_up fp a e b = fp b := va_up_ne _ _ q
    rw [e1]; exact h b hb
theorem pok_up4 {cI cJ : ClassId} {LP : List Nat} {sh : Nat → Nat} {CT : Nat → Nat → Int32} {fp : Nat → va_E} (h : pok cI cJ LP sh CT fp) {a : Nat} (m : a ∈ LP ∧ sh a = 4) (k : Nat) (x : Int32) (g : Nat → Int32) : pok cI cJ LP sh CT (va_up fp a (.inl (cI, 4, .inl (upd g k x)))) := pok_up h (fun z => absurd (m.2.symm.trans z) (by decide)) ⟨fun _ => ⟨_, rfl⟩, fun z => absurd (m.2.symm.trans z) (by decide), fun z => absurd (m.2.symm.trans z) (by decide)⟩
theorem pok_up5 {cI cJ : ClassId} {LP : List Nat} {sh : Nat → Nat} {CT : Nat → Nat → Int32} {fp : Nat → va_E} (h : pok cI cJ LP sh CT fp) {a : Nat} (m : a ∈ LP ∧ sh a = 5) (k : Nat) (x : Int32) (g : Nat → Int32) : pok cI cJ LP sh CT (va_up fp a (.inl (cI, 5, .inl (upd g k x)))) := pok_up h (fun z => absurd (m.2.symm.trans z) (by decide)) ⟨fun z => absurd (m.2.symm.trans z) (by decide), fun _ => ⟨_, rfl⟩, fun z => absurd (m.2.symm.trans z) (by decide)⟩
theorem pok_up104 {cI cJ : ClassId} {LP : List Nat} {sh : Nat → Nat} {CT : Nat → Nat → Int32} {fp : Nat → va_E} (h : pok cI cJ LP sh CT fp) {a : Nat} (m : a ∈ LP ∧ sh a = 104) (k : Nat) (x : Int32) (hg : ivf (CT a) 0 10) (hx : iv x 0 10) : pok cI cJ LP sh (upc CT a k x) (va_up fp a (.inl (cI, 4, .inl (upd (CT a) k x)))) := by
  intro b hb
  unfold upc
  by_cases q : b = a
  · subst q
    rw [va_up_self, va_up_self]
    exact ⟨fun z => absurd (m.2.symm.trans z) (by decide), fun _ => ⟨rfl, hg.up hx k⟩, fun z => absurd (m.2.symm.trans z) (by decide), fun z => absurd (m.2.symm.trans z) (by decide)⟩
  · rw [va_up_ne _ _ q, va_up_ne _ _ q]; exact h b hb
/-- a row of CHANCES behind a store -/
theorem upc_at (C : Nat → Nat → Int32) (a k : Nat) (x : Int32) : upc C a k x a k = x := by unfold upc; rw [va_up_self]; exact if_pos rfl
theorem upc_ne {C : Nat → Nat → Int32} {a k j : Nat} {x : Int32} (h : ¬ j = k) : upc C a k x a j = C a j := by unfold upc; rw [va_up_self]; exact if_neg h
theorem upc_o {C : Nat → Nat → Int32} {a b k : Nat} {x : Int32} (h : ¬ b = a) : upc C a k x b = C b := by unfold upc; exact va_up_ne _ _ h
theorem pok_up13 {cI cJ : ClassId} {LP : List Nat} {sh : Nat → Nat} {CT : Nat → Nat → Int32} {fp : Nat → va_E} (h : pok cI cJ LP sh CT fp) {a : Nat} (m : a ∈ LP ∧ sh a = 13) (k : Nat) (x : Int64) (g : Nat → Int64) : pok cI cJ LP sh CT (va_up fp a (.inl (cJ, 13, .inr (.inl (vp_updL g k x))))) := pok_up h (fun z => absurd (m.2.symm.trans z) (by decide)) ⟨fun z => absurd (m.2.symm.trans z) (by decide), fun z => absurd (m.2.symm.trans z) (by decide), fun _ => ⟨_, rfl⟩⟩
theorem i32_min2 {n x y : Int32} {a b : Int} (e : n = if y < x then y else x) (hx : x.toInt = a) (hy : y.toInt = b) : (n.toInt = a ∨ n.toInt = b) ∧ n.toInt ≤ a ∧ n.toInt ≤ b := by
  by_cases h : y < x
  · rw [if_pos h] at e; have := i32_lt h hy hx; rw [e, hy]; omega
  · rw [if_neg h] at e; have := i32_nlt h hy hx; rw [e, hx]; omega
theorem i32_max2 {n x y : Int32} {a b : Int} (e : n = if x < y then y else x) (hx : x.toInt = a) (hy : y.toInt = b) : (n.toInt = a ∨ n.toInt = b) ∧ a ≤ n.toInt ∧ b ≤ n.toInt := by
  by_cases h : x < y
  · rw [if_pos h] at e; have := i32_lt h hx hy; rw [e, hy]; omega
  · rw [if_neg h] at e; have := i32_nlt h hx hy; rw [e, hx]; omega
theorem i32_nn {x : Int32} (h : 0 ≤ x.toInt) : ¬ x < 0 := by
  intro z; have := i32_lt z rfl (show (0 : Int32).toInt = 0 by decide); omega
theorem i32_cl (x : Int32) {n : Nat} (h : x.toInt ≤ n) : x.toNatClampNeg ≤ n := by
  show x.toInt.toNat ≤ n; omega
