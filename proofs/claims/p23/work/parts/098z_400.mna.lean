/-! ===== BEGIN new T[n][m]: the outer array a place, the inner ones among the pooled ===== -/
/-- f, but v at every address of l -/
def vr_up {α : Type} (f : Nat → α) (l : List Nat) (v : α) : Nat → α := fun a => if a ∈ l then v else f a
theorem vr_up_in {α : Type} {f : Nat → α} {l : List Nat} {v : α} {a : Nat} (h : a ∈ l) : vr_up f l v a = v := if_pos h
theorem vr_up_ne {α : Type} {f : Nat → α} {l : List Nat} {v : α} {a : Nat} (h : a ∉ l) : vr_up f l v a = f a := if_neg h
theorem vr_rows {L l : List Nat} {f : Nat → va_E} {e : va_E} (h : ∀ a, a ∈ l → a ∉ L) : va_pl L f ++ l.map (fun a => (a, e)) = va_pl (L ++ l) (vr_up f l e) := by
  unfold va_pl
  rw [List.map_append]
  congr 1
  · apply List.map_congr_left
    intro a ha
    rw [vr_up_ne (fun q => h a q ha)]
  · apply List.map_congr_left
    intro a ha
    rw [vr_up_in ha]
theorem vr_lay {X rows : va_W} {x : Nat × va_E} {pl : va_W} {D : va_G} {cl : List vw_C} {H : Heap} (hP : va_P D cl (((X ++ pl) ++ [x]) ++ rows) H) : va_P D cl ((X ++ [x]) ++ (pl ++ rows)) H := by
  rw [List.append_assoc (X ++ pl)] at hP
  have h := va_P.swap hP
  rw [← List.append_assoc X] at h
  have h2 := va_P.swap h
  rw [List.append_assoc (X ++ [x])] at h2
  exact h2
theorem vr_layD {X rows : va_W} {x : Nat × va_E} {pl : va_W} {A : Nat → Prop} (hD : va_D A (((X ++ pl) ++ [x]) ++ rows)) : va_D A ((X ++ [x]) ++ (pl ++ rows)) := by
  rw [List.append_assoc (X ++ pl)] at hD
  have h := va_D.swap hD
  rw [← List.append_assoc X] at h
  have h2 := va_D.swap h
  rw [List.append_assoc (X ++ [x])] at h2
  exact h2
theorem vr_outer (c : ClassId) (N h0 : Nat) : ∀ i : Nat, Jvm.Free.Multi.outerC c N h0 i = arrV c N (fun j => va_rf (if j < i then some (h0 + 1 + j) else none))
  | 0 => by
    show ({ cls := c, slots := Array.replicate N .null, vm := .none } : Cell) = _
    rw [arrV_new]
    refine congrArg (arrV c N) (funext fun j => ?_)
    simp [va_rf]
  | i + 1 => by
    show (Jvm.Free.Multi.outerC c N h0 i).setSlot i (.ref (h0 + 1 + i)) = _
    rw [vr_outer c N h0 i, arrV_store]
    refine congrArg (arrV c N) (funext fun j => ?_)
    by_cases e : j = i
    · subst e
      simp [updV, va_rf]
    · by_cases h : j < i
      · simp [updV, e, h, Nat.lt_succ_of_lt h]
      · simp [updV, e, h, show ¬ j < i + 1 by omega]
section VGM
variable {p : Program} {l : Launch} {e : Env} {R : Room} {s : State} {m : MethodId} {args : Array Value} {below : List Frame} {meth : Method} {c : Code} {H : Heap} {locs : List Loc} {cells slots : Nat} {Q : State → Prop}
variable {cc : ByteArray} {pc : Nat} {ls : Array Slot} {rest : List Value} {D : va_G} {cl : List vw_C} {A : Nat → Prop} {a : Nat} {tys : List (ClassId × FieldType)} {ws : va_W} {H0 : Heap}
theorem va_mna {X : va_W} {L : List Nat} {f : Nat → va_E} {cc : ByteArray} (hexec : p.tables.exec = Jvm.exec) (hb : c.code = cc) {own : String} {index : Nat} {ty : FieldType} {cy : ClassId} (hown : s.vm.findClass own = some m.cls) (hclink : (Cond.classLink own index ("[" ++ (FieldType.array ty).toString)).before args s = true) (hover : vq_AOA ty s) (harr : (Cond.arrayClass ty).before args s = true) (hcy : s.vm.findClass (FieldType.array ty).toString = some cy)
    (hK : va_K D cl tys s) (hP : va_P D cl (X ++ va_pl L f) H) (hD : va_D A (X ++ va_pl L f)) (hS : va_S A H0 H locs) (hA : ∀ q, H0.size ≤ q → A q) {n k : Int32} {N' K' : Nat} {z : vp_A} (hn : ¬ n < 0) (hk : ¬ k < 0) (hN : n.toNatClampNeg = N') (hM : k.toNatClampNeg = K')
    (hb1 : N' * 4 ≤ 536870912) (hb2 : K' * componentBytes ty ≤ 536870912) (hb3 : K' ≤ 536870912) (hdf : fits ty (defaultValue ty) = true) (hdd : (defaultValue ty).isDefault = true) (hcells : cells + (1 + N') ≤ R.cells) (hslots : slots + (N' + N' * K') ≤ R.slots) (hz : ∀ c : ClassId, Jvm.Free.Multi.innerC c K' (defaultValue ty) = vp_cell c z) (hdg : decode cc pc = .ok (.multianewarray index 2, 4))
    (kk : ∀ (q : Nat) (r : Nat → Nat) (cA : ClassId) (H1 : Heap), (∀ i j : Nat, i < N' → j < N' → r i = r j → i = j) → (∀ i : Nat, i < N' → r i ∉ L) → va_K D cl (tys ++ [(cA, .array ty)]) s →
      va_P D cl ((X ++ [(q, .inl (cA, N', .inr (.inr (.inr (.inr (fun i => if i < N' then some (r i) else none))))))]) ++ va_pl (L ++ (List.range N').map r) (vr_up f ((List.range N').map r) (.inl (cy, z)))) H1 → va_D A ((X ++ [(q, .inl (cA, N', .inr (.inr (.inr (.inr (fun i => if i < N' then some (r i) else none))))))]) ++ va_pl (L ++ (List.range N').map r) (vr_up f ((List.range N').map r) (.inl (cy, z)))) → va_S A H0 H1 locs →
      W p l e R s m args below meth c H1 locs (cells + 1 + N') (slots + N' + N' * K') Q (F0 m (pc + 4) ls (.ref q :: rest))) : W p l e R s m args below meth c H locs cells slots Q (F0 m pc ls (.int k :: .int n :: rest)) := by
  subst hN
  subst hM
  intro T hT Xs
  obtain ⟨vm₁, cA, comp, -, fA, fC, hO, -, X', step⟩ := Xs.multianewarray2F hexec hown hclink (vq_AOA.use hover) harr (g := F0 m pc ls (.int k :: .int n :: rest)) rfl (by rw [hb]; exact hdg) rfl hn hk hb1 hb2 hb3 hdf hdd hcells hslots
  have ec : some cy = some comp := hcy.symm.trans fC
  cases ec
  generalize hF : Jvm.Free.Multi.fill (T.setVm vm₁) cA cy n.toNatClampNeg k.toNatClampNeg (defaultValue ty) n.toNatClampNeg = F at X' step
  have hTh : (T.setVm vm₁).heap = H := hT
  obtain ⟨f1, f2, -, -⟩ := Jvm.Free.Multi.fill_facts (T.setVm vm₁) cA cy n.toNatClampNeg k.toNatClampNeg (defaultValue ty) n.toNatClampNeg
  rw [hF, hTh] at f1 f2
  have hold : ∀ x : Nat, x < H.size → F.heap[x]? = H[x]? := fun x hx => by
    have := Jvm.Free.Multi.fill_old (T.setVm vm₁) cA cy n.toNatClampNeg k.toNatClampNeg (defaultValue ty) (a := x) (by rw [hTh]; exact hx) n.toNatClampNeg
    rw [hF, hTh] at this
    exact this
  have hrow : ∀ j : Nat, j < n.toNatClampNeg → F.heap[H.size + 1 + j]? = some (vp_cell cy z) := fun j hj => by
    have := Jvm.Free.Multi.fill_inner (T.setVm vm₁) cA cy n.toNatClampNeg k.toNatClampNeg (defaultValue ty) n.toNatClampNeg j hj
    rw [hF, hTh, hz] at this
    exact this
  have hout : Jvm.Free.Multi.outerC cA n.toNatClampNeg H.size n.toNatClampNeg = vp_cell cA (n.toNatClampNeg, .inr (.inr (.inr (.inr (fun i => if i < n.toNatClampNeg then some (H.size + 1 + i) else none))))) := by
    rw [vp_cell_q]
    exact vr_outer cA n.toNatClampNeg H.size n.toNatClampNeg
  rw [hout] at f2
  have hlt : ∀ a, a ∈ L → a < H.size := fun a ha => by
    obtain ⟨k9, hk9⟩ := va_pl_get (X := X) (f := f) ha
    exact (hP k9 _ hk9).lt
  have hnl : ∀ i : Nat, i < n.toNatClampNeg → H.size + 1 + i ∉ L := fun i _ h => by
    have := hlt _ h
    omega
  have hnm : ∀ a, a ∈ (List.range n.toNatClampNeg).map (fun i => H.size + 1 + i) → a ∉ L := fun a ha h => by
    obtain ⟨i, -, rfl⟩ := List.mem_map.mp ha
    have := hlt _ h
    omega
  have hP0 : va_P D cl (X ++ va_pl L f) F.heap := hP.kept (fun k9 x hx => hold x.1 ((hP k9 x hx).lt))
  have hP1 : va_P D cl ((X ++ va_pl L f) ++ [(H.size, .inl (cA, n.toNatClampNeg, .inr (.inr (.inr (.inr (fun i => if i < n.toNatClampNeg then some (H.size + 1 + i) else none))))))]) F.heap := hP0.app (fun k9 x hx => by
    have h0 : k9 < 1 := (List.getElem?_eq_some_iff.mp hx).1
    rw [show k9 = 0 by omega] at hx
    cases hx
    exact f2)
  have hP2 : va_P D cl (((X ++ va_pl L f) ++ [(H.size, .inl (cA, n.toNatClampNeg, .inr (.inr (.inr (.inr (fun i => if i < n.toNatClampNeg then some (H.size + 1 + i) else none))))))]) ++ ((List.range n.toNatClampNeg).map (fun i => H.size + 1 + i)).map (fun a => (a, .inl (cy, z)))) F.heap := hP1.app (fun k9 x hx => by
    obtain ⟨a, ha, rfl⟩ := List.mem_map.mp (List.mem_of_getElem? hx)
    obtain ⟨i, hi, rfl⟩ := List.mem_map.mp ha
    exact hrow i (List.mem_range.mp hi))
  have hD2 : va_D A (((X ++ va_pl L f) ++ [(H.size, .inl (cA, n.toNatClampNeg, .inr (.inr (.inr (.inr (fun i => if i < n.toNatClampNeg then some (H.size + 1 + i) else none))))))]) ++ ((List.range n.toNatClampNeg).map (fun i => H.size + 1 + i)).map (fun a => (a, .inl (cy, z)))) := by
    have hD1 := hD.push (e := .inl (cA, n.toNatClampNeg, .inr (.inr (.inr (.inr (fun i => if i < n.toNatClampNeg then some (H.size + 1 + i) else none)))))) hP rfl (hA _ hS.1)
    generalize hW1 : (X ++ va_pl L f) ++ [(H.size, .inl (cA, n.toNatClampNeg, .inr (.inr (.inr (.inr (fun i => if i < n.toNatClampNeg then some (H.size + 1 + i) else none))))))] = W1 at hD1 hP1 ⊢
    have hle : ∀ (k9 : Nat) (x : Nat × va_E), W1[k9]? = some x → x.1 ≤ H.size := fun k9 x hx => by
      rw [← hW1] at hx
      by_cases hl : k9 < (X ++ va_pl L f).length
      · rw [List.getElem?_append_left hl] at hx
        exact Nat.le_of_lt ((hP k9 x hx).lt)
      · rw [List.getElem?_append_right (by omega)] at hx
        have h0 : k9 - (X ++ va_pl L f).length < 1 := (List.getElem?_eq_some_iff.mp hx).1
        rw [show k9 - (X ++ va_pl L f).length = 0 by omega] at hx
        cases hx
        exact Nat.le_refl _
    have hr : ∀ (k9 : Nat) (x : Nat × va_E), (((List.range n.toNatClampNeg).map (fun i => H.size + 1 + i)).map (fun a => ((a, .inl (cy, z)) : Nat × va_E)))[k9]? = some x → x.1 = H.size + 1 + k9 := fun k9 x hx => by
      rw [List.getElem?_map, List.getElem?_map] at hx
      by_cases h9 : k9 < n.toNatClampNeg
      · rw [List.getElem?_range h9] at hx
        cases hx
        rfl
      · have hn0 : (List.range n.toNatClampNeg)[k9]? = none := List.getElem?_eq_none (by rw [List.length_range]; omega)
        rw [hn0] at hx
        cases hx
    refine ⟨fun i j x y hi hj hxy => ?_, fun k9 x hx => ?_⟩
    · by_cases h1 : i < W1.length <;> by_cases h2 : j < W1.length
      · rw [List.getElem?_append_left h1] at hi
        rw [List.getElem?_append_left h2] at hj
        exact hD1.1 i j x y hi hj hxy
      · rw [List.getElem?_append_left h1] at hi
        rw [List.getElem?_append_right (by omega)] at hj
        have := hle _ _ hi
        have := hr _ _ hj
        omega
      · rw [List.getElem?_append_right (by omega)] at hi
        rw [List.getElem?_append_left h2] at hj
        have := hle _ _ hj
        have := hr _ _ hi
        omega
      · rw [List.getElem?_append_right (by omega)] at hi hj
        have := hr _ _ hi
        have := hr _ _ hj
        omega
    · by_cases h1 : k9 < W1.length
      · rw [List.getElem?_append_left h1] at hx
        exact hD1.2 k9 x hx
      · rw [List.getElem?_append_right (by omega)] at hx
        have := hr _ _ hx
        exact hA _ (by have := hS.1; omega)
  have hAr : ArrOfT s cA (.array ty) := fun N9 z9 => by
    obtain ⟨-, k9, hk9, cm9, hkk9⟩ := (hO 0 0 0).1
    exact ⟨(fun q hq => by cases hq), k9, hk9, cm9, hkk9⟩
  have hK2 : va_K D cl (tys ++ [(cA, .array ty)]) s := ⟨hK.1, fun k9 x hx => by
    by_cases hl : k9 < tys.length
    · rw [List.getElem?_append_left hl] at hx
      exact hK.2 k9 x hx
    · rw [List.getElem?_append_right (by omega)] at hx
      have h0 : k9 - tys.length < 1 := (List.getElem?_eq_some_iff.mp hx).1
      rw [show k9 - tys.length = 0 by omega] at hx
      cases hx
      exact ⟨hAr, fA⟩⟩
  obtain ⟨t, a1, b1⟩ := kk H.size (fun i => H.size + 1 + i) cA F.heap (fun i j _ _ h => by have h9 : H.size + 1 + i = H.size + 1 + j := h; omega) hnl hK2 (by rw [← vr_rows hnm]; exact vr_lay hP2) (by rw [← vr_rows hnm]; exact vr_layD hD2) ⟨by rw [f1]; have := hS.1; omega, fun x h1 h2 => (hold x (Nat.lt_of_lt_of_le h1 hS.1)).trans (hS.2.1 x h1 h2), hS.2.2⟩ F rfl X'
  refine ⟨t, step t ?_, b1⟩
  have e : T.heap.size = H.size := by rw [hT]
  rw [e]
  exact a1
end VGM
/-! ===== END ===== -/

/-! what constructors make: rows among the pooled, contents of noughts -/
theorem ivf_0 {f : Nat → Int32} {lo hi : Int} (e : f = fun _ => 0) (h1 : lo ≤ 0) (h2 : 0 ≤ hi) : ivf f lo hi := by
  intro k; rw [e]; exact iv.m (by rw [show (0 : Int32).toInt = 0 by decide]; exact ⟨h1, h2⟩)
theorem jvf_0 {f : Nat → Int64} {lo hi : Int} (e : f = fun _ => 0) (h1 : lo ≤ 0) (h2 : 0 ≤ hi) : jvf f lo hi := by
  intro k; rw [e]; exact jv.m (by rw [show (0 : Int64).toInt = 0 by decide]; exact ⟨h1, h2⟩)
theorem lay1 {X pl : va_W} {x : Nat × va_E} {D : va_G} {cl : List vw_C} {H : Heap} (hP : va_P D cl ((X ++ pl) ++ [x]) H) : va_P D cl ((X ++ [x]) ++ pl) H := by
  have h := vr_lay (rows := []) (X := X) (pl := pl) (x := x) (D := D) (cl := cl) (H := H) (by rw [List.append_nil]; exact hP)
  rw [List.append_nil] at h
  exact h
theorem lay1D {X pl : va_W} {x : Nat × va_E} {A : Nat → Prop} (hD : va_D A ((X ++ pl) ++ [x])) : va_D A ((X ++ [x]) ++ pl) := by
  have h := vr_layD (rows := []) (X := X) (pl := pl) (x := x) (A := A) (by rw [List.append_nil]; exact hD)
  rw [List.append_nil] at h
  exact h
theorem mna_pok {cI cJ : ClassId} {LP : List Nat} {sh : Nat → Nat} {CT : Nat → Nat → Int32} {fp : Nat → va_E} {N : Nat} {r : Nat → Nat} (h : pok cI cJ LP sh CT fp) (hn : ∀ i : Nat, i < N → r i ∉ LP) (k : Nat) (e : va_E) (he : (k = 4 → ∃ g : Nat → Int32, e = .inl (cI, 4, .inl g)) ∧ (k = 104 → e = .inl (cI, 4, .inl (fun _ => 0)) ∧ ivf (fun _ => 0) 0 10) ∧ (k = 5 → ∃ g : Nat → Int32, e = .inl (cI, 5, .inl g)) ∧ (k = 13 → ∃ g : Nat → Int64, e = .inl (cJ, 13, .inr (.inl g)))) : pok cI cJ (LP ++ (List.range N).map r) (vr_up sh ((List.range N).map r) k) (vr_up CT ((List.range N).map r) (fun _ => 0)) (vr_up fp ((List.range N).map r) e) ∧ (∀ a, a ∈ LP → a ∈ LP ++ (List.range N).map r ∧ vr_up sh ((List.range N).map r) k a = sh a) ∧ (∀ i : Nat, i < N → r i ∈ LP ++ (List.range N).map r ∧ vr_up sh ((List.range N).map r) k (r i) = k) := by
  have hno : ∀ a, a ∈ LP → a ∉ (List.range N).map r := fun a ha hq => by
    obtain ⟨i, hi, e⟩ := List.mem_map.mp hq
    exact hn i (List.mem_range.mp hi) (by rw [e]; exact ha)
  refine ⟨fun a ha => ?_, fun a ha => ⟨List.mem_append_left _ ha, vr_up_ne (hno a ha)⟩, fun i hi => ?_⟩
  · rcases List.mem_append.mp ha with q | q
    · rw [vr_up_ne (hno a q), vr_up_ne (hno a q), vr_up_ne (hno a q)]; exact h a q
    · rw [vr_up_in q, vr_up_in q, vr_up_in q]; exact he
  · have q : r i ∈ (List.range N).map r := List.mem_map.mpr ⟨i, List.mem_range.mpr hi, rfl⟩
    exact ⟨List.mem_append_right _ q, vr_up_in q⟩
theorem pok_nil {cI cJ : ClassId} {sh : Nat → Nat} {CT : Nat → Nat → Int32} {fp : Nat → va_E} : pok cI cJ [] sh CT fp := fun a ha => by cases ha
theorem hR_up {LP LP1 : List Nat} {sh sh1 : Nat → Nat} {R : Nat → Nat} {n k : Nat} (h : ∀ i : Nat, i < n → R i ∈ LP ∧ sh (R i) = k) (ho : ∀ a, a ∈ LP → a ∈ LP1 ∧ sh1 a = sh a) : ∀ i : Nat, i < n → R i ∈ LP1 ∧ sh1 (R i) = k := fun i hi => ⟨(ho _ (h i hi).1).1, (ho _ (h i hi).1).2.trans (h i hi).2⟩
theorem old_up {LP LP1 LP2 : List Nat} {sh sh1 sh2 : Nat → Nat} (h : ∀ a, a ∈ LP → a ∈ LP1 ∧ sh1 a = sh a) (ho : ∀ a, a ∈ LP1 → a ∈ LP2 ∧ sh2 a = sh1 a) : ∀ a, a ∈ LP → a ∈ LP2 ∧ sh2 a = sh a := fun a ha => ⟨(ho _ (h a ha).1).1, (ho _ (h a ha).1).2.trans (h a ha).2⟩
theorem sh_4 {cI cJ : ClassId} : (4 = 4 → ∃ g : Nat → Int32, (.inl (cI, 4, .inl (fun _ => 0)) : va_E) = .inl (cI, 4, .inl g)) ∧ (4 = 104 → (.inl (cI, 4, .inl (fun _ => 0)) : va_E) = .inl (cI, 4, .inl (fun _ => 0)) ∧ ivf (fun _ => 0) 0 10) ∧ (4 = 5 → ∃ g : Nat → Int32, (.inl (cI, 4, .inl (fun _ => 0)) : va_E) = .inl (cI, 5, .inl g)) ∧ (4 = 13 → ∃ g : Nat → Int64, (.inl (cI, 4, .inl (fun _ => 0)) : va_E) = .inl (cJ, 13, .inr (.inl g))) := ⟨fun _ => ⟨_, rfl⟩, fun z => absurd z (by decide), fun z => absurd z (by decide), fun z => absurd z (by decide)⟩
theorem sh_104 {cI cJ : ClassId} : (104 = 4 → ∃ g : Nat → Int32, (.inl (cI, 4, .inl (fun _ => 0)) : va_E) = .inl (cI, 4, .inl g)) ∧ (104 = 104 → (.inl (cI, 4, .inl (fun _ => 0)) : va_E) = .inl (cI, 4, .inl (fun _ => 0)) ∧ ivf (fun _ => 0) 0 10) ∧ (104 = 5 → ∃ g : Nat → Int32, (.inl (cI, 4, .inl (fun _ => 0)) : va_E) = .inl (cI, 5, .inl g)) ∧ (104 = 13 → ∃ g : Nat → Int64, (.inl (cI, 4, .inl (fun _ => 0)) : va_E) = .inl (cJ, 13, .inr (.inl g))) := ⟨fun z => absurd z (by decide), fun _ => ⟨rfl, ivf_0 rfl (by decide) (by decide)⟩, fun z => absurd z (by decide), fun z => absurd z (by decide)⟩
theorem sh_5 {cI cJ : ClassId} : (5 = 4 → ∃ g : Nat → Int32, (.inl (cI, 5, .inl (fun _ => 0)) : va_E) = .inl (cI, 4, .inl g)) ∧ (5 = 104 → (.inl (cI, 5, .inl (fun _ => 0)) : va_E) = .inl (cI, 4, .inl (fun _ => 0)) ∧ ivf (fun _ => 0) 0 10) ∧ (5 = 5 → ∃ g : Nat → Int32, (.inl (cI, 5, .inl (fun _ => 0)) : va_E) = .inl (cI, 5, .inl g)) ∧ (5 = 13 → ∃ g : Nat → Int64, (.inl (cI, 5, .inl (fun _ => 0)) : va_E) = .inl (cJ, 13, .inr (.inl g))) := ⟨fun z => absurd z (by decide), fun z => absurd z (by decide), fun _ => ⟨_, rfl⟩, fun z => absurd z (by decide)⟩
theorem sh_13 {cI cJ : ClassId} : (13 = 4 → ∃ g : Nat → Int32, (.inl (cJ, 13, .inr (.inl (fun _ => 0))) : va_E) = .inl (cI, 4, .inl g)) ∧ (13 = 104 → (.inl (cJ, 13, .inr (.inl (fun _ => 0))) : va_E) = .inl (cI, 4, .inl (fun _ => 0)) ∧ ivf (fun _ => 0) 0 10) ∧ (13 = 5 → ∃ g : Nat → Int32, (.inl (cJ, 13, .inr (.inl (fun _ => 0))) : va_E) = .inl (cI, 5, .inl g)) ∧ (13 = 13 → ∃ g : Nat → Int64, (.inl (cJ, 13, .inr (.inl (fun _ => 0))) : va_E) = .inl (cJ, 13, .inr (.inl g))) := ⟨fun z => absurd z (by decide), fun z => absurd z (by decide), fun z => absurd z (by decide), fun _ => ⟨_, rfl⟩⟩

theorem apart_of {LP : List Nat} {r q : Nat → Nat} {n : Nat} (h : ∀ i : Nat, i < n → r i ∉ LP) (hq : ∀ i : Nat, i < n → q i ∈ LP) : ∀ i j : Nat, i < n → j < n → ¬ q i = r j := fun i j hi hj e => h j hj (e ▸ hq i hi)
/-! the law: what is there before it begins -/
theorem ak_ty {args : Array Value} {s : State} {D : va_G} {cl : List vw_C} {tys : List (ClassId × FieldType)} {ty : FieldType} (hra : ∀ cA : ClassId, s.vm.findClass ("[" ++ ty.toString) = some cA → va_RA s cA ty) (h : (Cond.arrayClass ty).before args s = true) (hK : va_K D cl tys s) : ∃ c : ClassId, va_K D cl (tys ++ [(c, ty)]) s := by
  obtain ⟨cA, kA, comp, h1, h2, h3⟩ := Cond.arrayClass_spec h
  refine ⟨cA, hK.1, fun k x hx => ?_⟩
  by_cases hl : k < tys.length
  · rw [List.getElem?_append_left hl] at hx
    exact hK.2 k x hx
  · rw [List.getElem?_append_right (by omega)] at hx
    have hz : k - tys.length < 1 := (List.getElem?_eq_some_iff.mp hx).1
    rw [show k - tys.length = 0 by omega] at hx
    cases hx
    exact ⟨fun n z => ⟨fun k h => (by cases h), kA, h2, comp, h3⟩, hra cA h1⟩
theorem st_cof {own tx : String} {k n : Nat} {bs : List Int32} {f : Nat → Int32} {A : Nat → Prop} {args : Array Value} {s : State} (hf : f = fun j => bs.getD j 0) (hn : n < 2 ^ 31) (hE : st_env A s s.heap) (h1 : (Cond.stringRef own k tx).before args s = true) (hex : (Cond.exactly (.string own k) "java/lang/String").before args s = true) (hco : (Cond.eq (.field (.string own k) "java/lang/String" "coder" "B") (.int 0)).before args s = true) (har : (Cond.arrayOf (.field (.string own k) "java/lang/String" "value" "[B") .byte).before args s = true) (hle : (Cond.eq (.length (.field (.string own k) "java/lang/String" "value" "[B")) (.int (Int32.ofNat n))).before args s = true) (hel : ∀ j : Nat, j < n → (Cond.eq (.elem (.field (.string own k) "java/lang/String" "value" "[B") (.int (Int32.ofNat j))) (.int (bs.getD j 0))).before args s = true) (hA : ∀ a : Nat, a < s.heap.size → ¬ A a) : st_c own k tx n f A s s.heap := by
  obtain ⟨adK, adV, hS, hev⟩ := vk_Sof (N := 1) (tm := fun _ => .string own k) (len := [n]) (byt := [bs]) (A := A) (args := args) (s := s)
    (fun i hi => by rw [show i = 0 by omega]; exact hn) (fun _ _ => hex) (fun _ _ => hco) (fun _ _ => har) (fun i hi => by rw [show i = 0 by omega]; exact hle) (fun i hi j hj => by rw [show i = 0 by omega] at hj ⊢; exact hel j hj) (fun i j hi hj h => absurd (by omega) h) hA
  obtain ⟨q1, q2, q3, q4⟩ := hS.1 0 (by decide)
  refine ⟨adK 0, adV 0, vk_R.of h1 (hev 0 (by decide)), hE, q1, q2, q3, ?_, hn⟩
  rw [hf]; exact q4

