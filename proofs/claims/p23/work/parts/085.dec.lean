/-! an instruction out of its bytes -/
def byt (c : ByteArray) (p n : Nat) : Prop := (Reader.u1 : Decoder Nat) c p = .ok (n, p + 1)
def bys (c : ByteArray) : List Nat := c.data.toList.map UInt8.toNat
theorem byt_at {c : ByteArray} {k m j n : Nat} {L : List Nat} (h : ((bys c).drop k).take m = L) (hj : L[j]? = some n) : byt c (k + j) n := by
  cases c with
  | mk d =>
    rw [← h, List.getElem?_take] at hj
    by_cases hm : j < m
    · rw [if_pos hm, List.getElem?_drop] at hj
      have hj2 : (d.toList.map UInt8.toNat)[k + j]? = some n := hj
      rw [List.getElem?_map] at hj2
      cases hq : d.toList[k + j]? with
      | none => rw [hq] at hj2; exact absurd hj2 (by simp)
      | some b =>
        rw [hq] at hj2
        have hb : b.toNat = n := Option.some.inj (show some b.toNat = some n from hj2)
        obtain ⟨hlt, hg⟩ := List.getElem?_eq_some_iff.mp hq
        have hs : k + j < (ByteArray.mk d).size := by rw [Array.length_toList] at hlt; exact hlt
        have hv : (ByteArray.mk d)[k + j] = b := by rw [← hg]; rfl
        show ((if h : k + j < (ByteArray.mk d).size then (do set (k + j + 1); pure (ByteArray.mk d)[k + j].toNat) else throw (HasTruncated.truncated (k + j)) : Decoder Nat)) (ByteArray.mk d) (k + j) = .ok (n, k + j + 1)
        rw [dif_pos hs, hv, hb]
        rfl
    · rw [if_neg hm] at hj; cases hj
theorem bn_u {β : Type} {c : ByteArray} {p n : Nat} {f : Nat → Decoder β} (h : byt c p n) : ((Reader.u1 : Decoder Nat) >>= f) c p = f n c (p + 1) := by
  show Except.bind ((Reader.u1 : Decoder Nat) c p) _ = _
  rw [show (Reader.u1 : Decoder Nat) c p = .ok (n, p + 1) from h]; rfl
theorem u2_at {c : ByteArray} {p a b : Nat} (h1 : byt c p a) (h2 : byt c (p + 1) b) : (Reader.u2 : Decoder Nat) c p = .ok (a * 256 + b, p + 2) := by
  unfold Reader.u2
  rw [bn_u h1, bn_u h2]; rfl
theorem bn_u2 {β : Type} {c : ByteArray} {p a b : Nat} {f : Nat → Decoder β} (h1 : byt c p a) (h2 : byt c (p + 1) b) : ((Reader.u2 : Decoder Nat) >>= f) c p = f (a * 256 + b) c (p + 2) := by
  show Except.bind ((Reader.u2 : Decoder Nat) c p) _ = _
  rw [u2_at h1 h2]; rfl
theorem bn_s1 {β : Type} {c : ByteArray} {p a : Nat} {f : Int → Decoder β} (h1 : byt c p a) : ((Reader.s1 : Decoder Int) >>= f) c p = f (Reader.signed 8 a) c (p + 1) := by
  have e : (Reader.s1 : Decoder Int) c p = .ok (Reader.signed 8 a, p + 1) := by
    show Except.bind ((Reader.u1 : Decoder Nat) c p) _ = _
    rw [show (Reader.u1 : Decoder Nat) c p = .ok (a, p + 1) from h1]; rfl
  show Except.bind ((Reader.s1 : Decoder Int) c p) _ = _
  rw [e]; rfl
theorem bn_s2 {β : Type} {c : ByteArray} {p a b : Nat} {f : Int → Decoder β} (h1 : byt c p a) (h2 : byt c (p + 1) b) : ((Reader.s2 : Decoder Int) >>= f) c p = f (Reader.signed 16 (a * 256 + b)) c (p + 2) := by
  have e : (Reader.s2 : Decoder Int) c p = .ok (Reader.signed 16 (a * 256 + b), p + 2) := by
    show Except.bind ((Reader.u2 : Decoder Nat) c p) _ = _
    rw [u2_at h1 h2]; rfl
  show Except.bind ((Reader.s2 : Decoder Int) c p) _ = _
  rw [e]; rfl
theorem dec_fin {c : ByteArray} {pc k : Nat} {i : Jvm.ClassFile.Instr} (h : (Decoder.instr pc) c pc = .ok (i, pc + k)) : decode c pc = .ok (i, k) := by
  unfold decode Reader.runAt
  show Except.bind ((Decoder.instr pc) c pc) _ = _
  rw [h]
  show Except.ok (i, pc + k - pc) = _
  rw [Nat.add_sub_cancel_left]
set_option maxRecDepth 100000 in
theorem do_2 {c : ByteArray} {pc : Nat} (h0 : byt c pc 2) : decode c pc = .ok (Jvm.ClassFile.Instr.iconst (-1), 1) := dec_fin (by unfold Decoder.instr; rw [bn_u h0]; rfl)
set_option maxRecDepth 100000 in
theorem do_3 {c : ByteArray} {pc : Nat} (h0 : byt c pc 3) : decode c pc = .ok (Jvm.ClassFile.Instr.iconst 0, 1) := dec_fin (by unfold Decoder.instr; rw [bn_u h0]; rfl)
set_option maxRecDepth 100000 in
theorem do_4 {c : ByteArray} {pc : Nat} (h0 : byt c pc 4) : decode c pc = .ok (Jvm.ClassFile.Instr.iconst 1, 1) := dec_fin (by unfold Decoder.instr; rw [bn_u h0]; rfl)
set_option maxRecDepth 100000 in
theorem do_5 {c : ByteArray} {pc : Nat} (h0 : byt c pc 5) : decode c pc = .ok (Jvm.ClassFile.Instr.iconst 2, 1) := dec_fin (by unfold Decoder.instr; rw [bn_u h0]; rfl)
set_option maxRecDepth 100000 in
theorem do_6 {c : ByteArray} {pc : Nat} (h0 : byt c pc 6) : decode c pc = .ok (Jvm.ClassFile.Instr.iconst 3, 1) := dec_fin (by unfold Decoder.instr; rw [bn_u h0]; rfl)
set_option maxRecDepth 100000 in
theorem do_7 {c : ByteArray} {pc : Nat} (h0 : byt c pc 7) : decode c pc = .ok (Jvm.ClassFile.Instr.iconst 4, 1) := dec_fin (by unfold Decoder.instr; rw [bn_u h0]; rfl)
set_option maxRecDepth 100000 in
theorem do_8 {c : ByteArray} {pc : Nat} (h0 : byt c pc 8) : decode c pc = .ok (Jvm.ClassFile.Instr.iconst 5, 1) := dec_fin (by unfold Decoder.instr; rw [bn_u h0]; rfl)
set_option maxRecDepth 100000 in
theorem do_9 {c : ByteArray} {pc : Nat} (h0 : byt c pc 9) : decode c pc = .ok (Jvm.ClassFile.Instr.lconst 0, 1) := dec_fin (by unfold Decoder.instr; rw [bn_u h0]; rfl)
set_option maxRecDepth 100000 in
theorem do_10 {c : ByteArray} {pc : Nat} (h0 : byt c pc 10) : decode c pc = .ok (Jvm.ClassFile.Instr.lconst 1, 1) := dec_fin (by unfold Decoder.instr; rw [bn_u h0]; rfl)
set_option maxRecDepth 100000 in
theorem do_16 {c : ByteArray} {pc : Nat} {n : Int} (a : Nat) (h0 : byt c pc 16) (h1 : byt c (pc + 1) a) (hn : Reader.signed 8 a = n) : decode c pc = .ok (Jvm.ClassFile.Instr.bipush n, 2) := dec_fin (by subst hn; unfold Decoder.instr; rw [bn_u h0]; exact bn_s1 (f := fun x => (pure (Jvm.ClassFile.Instr.bipush x) : Decoder Jvm.ClassFile.Instr)) h1)
set_option maxRecDepth 100000 in
theorem do_17 {c : ByteArray} {pc : Nat} {n : Int} (a b : Nat) (h0 : byt c pc 17) (h1 : byt c (pc + 1) a) (h2 : byt c (pc + 2) b) (hn : Reader.signed 16 (a * 256 + b) = n) : decode c pc = .ok (Jvm.ClassFile.Instr.sipush n, 3) := dec_fin (by subst hn; unfold Decoder.instr; rw [bn_u h0]; exact bn_s2 (f := fun x => (pure (Jvm.ClassFile.Instr.sipush x) : Decoder Jvm.ClassFile.Instr)) h1 h2)
set_option maxRecDepth 100000 in
theorem do_18 {c : ByteArray} {pc : Nat} (a : Nat) (h0 : byt c pc 18) (h1 : byt c (pc + 1) a) : decode c pc = .ok (Jvm.ClassFile.Instr.ldc a, 2) := dec_fin (by unfold Decoder.instr; rw [bn_u h0]; exact bn_u (f := fun x => (pure (Jvm.ClassFile.Instr.ldc x) : Decoder Jvm.ClassFile.Instr)) h1)
set_option maxRecDepth 100000 in
theorem do_19 {c : ByteArray} {pc : Nat} (a b : Nat) (h0 : byt c pc 19) (h1 : byt c (pc + 1) a) (h2 : byt c (pc + 2) b) : decode c pc = .ok (Jvm.ClassFile.Instr.ldc_w (a * 256 + b), 3) := dec_fin (by unfold Decoder.instr; rw [bn_u h0]; exact bn_u2 (f := fun x => (pure (Jvm.ClassFile.Instr.ldc_w x) : Decoder Jvm.ClassFile.Instr)) h1 h2)
set_option maxRecDepth 100000 in
theorem do_20 {c : ByteArray} {pc : Nat} (a b : Nat) (h0 : byt c pc 20) (h1 : byt c (pc + 1) a) (h2 : byt c (pc + 2) b) : decode c pc = .ok (Jvm.ClassFile.Instr.ldc2_w (a * 256 + b), 3) := dec_fin (by unfold Decoder.instr; rw [bn_u h0]; exact bn_u2 (f := fun x => (pure (Jvm.ClassFile.Instr.ldc2_w x) : Decoder Jvm.ClassFile.Instr)) h1 h2)
set_option maxRecDepth 100000 in
theorem do_21 {c : ByteArray} {pc : Nat} (a : Nat) (h0 : byt c pc 21) (h1 : byt c (pc + 1) a) : decode c pc = .ok (Jvm.ClassFile.Instr.iload a, 2) := dec_fin (by unfold Decoder.instr; rw [bn_u h0]; exact bn_u (f := fun x => (pure (Jvm.ClassFile.Instr.iload x) : Decoder Jvm.ClassFile.Instr)) h1)
set_option maxRecDepth 100000 in
theorem do_22 {c : ByteArray} {pc : Nat} (a : Nat) (h0 : byt c pc 22) (h1 : byt c (pc + 1) a) : decode c pc = .ok (Jvm.ClassFile.Instr.lload a, 2) := dec_fin (by unfold Decoder.instr; rw [bn_u h0]; exact bn_u (f := fun x => (pure (Jvm.ClassFile.Instr.lload x) : Decoder Jvm.ClassFile.Instr)) h1)
set_option maxRecDepth 100000 in
theorem do_25 {c : ByteArray} {pc : Nat} (a : Nat) (h0 : byt c pc 25) (h1 : byt c (pc + 1) a) : decode c pc = .ok (Jvm.ClassFile.Instr.aload a, 2) := dec_fin (by unfold Decoder.instr; rw [bn_u h0]; exact bn_u (f := fun x => (pure (Jvm.ClassFile.Instr.aload x) : Decoder Jvm.ClassFile.Instr)) h1)
set_option maxRecDepth 100000 in
theorem do_26 {c : ByteArray} {pc : Nat} (h0 : byt c pc 26) : decode c pc = .ok (Jvm.ClassFile.Instr.iload_n 0, 1) := dec_fin (by unfold Decoder.instr; rw [bn_u h0]; rfl)
set_option maxRecDepth 100000 in
theorem do_27 {c : ByteArray} {pc : Nat} (h0 : byt c pc 27) : decode c pc = .ok (Jvm.ClassFile.Instr.iload_n 1, 1) := dec_fin (by unfold Decoder.instr; rw [bn_u h0]; rfl)
set_option maxRecDepth 100000 in
theorem do_28 {c : ByteArray} {pc : Nat} (h0 : byt c pc 28) : decode c pc = .ok (Jvm.ClassFile.Instr.iload_n 2, 1) := dec_fin (by unfold Decoder.instr; rw [bn_u h0]; rfl)
set_option maxRecDepth 100000 in
theorem do_29 {c : ByteArray} {pc : Nat} (h0 : byt c pc 29) : decode c pc = .ok (Jvm.ClassFile.Instr.iload_n 3, 1) := dec_fin (by unfold Decoder.instr; rw [bn_u h0]; rfl)
set_option maxRecDepth 100000 in
theorem do_30 {c : ByteArray} {pc : Nat} (h0 : byt c pc 30) : decode c pc = .ok (Jvm.ClassFile.Instr.lload_n 0, 1) := dec_fin (by unfold Decoder.instr; rw [bn_u h0]; rfl)
set_option maxRecDepth 100000 in
theorem do_31 {c : ByteArray} {pc : Nat} (h0 : byt c pc 31) : decode c pc = .ok (Jvm.ClassFile.Instr.lload_n 1, 1) := dec_fin (by unfold Decoder.instr; rw [bn_u h0]; rfl)
set_option maxRecDepth 100000 in
theorem do_32 {c : ByteArray} {pc : Nat} (h0 : byt c pc 32) : decode c pc = .ok (Jvm.ClassFile.Instr.lload_n 2, 1) := dec_fin (by unfold Decoder.instr; rw [bn_u h0]; rfl)
set_option maxRecDepth 100000 in
theorem do_33 {c : ByteArray} {pc : Nat} (h0 : byt c pc 33) : decode c pc = .ok (Jvm.ClassFile.Instr.lload_n 3, 1) := dec_fin (by unfold Decoder.instr; rw [bn_u h0]; rfl)
set_option maxRecDepth 100000 in
theorem do_42 {c : ByteArray} {pc : Nat} (h0 : byt c pc 42) : decode c pc = .ok (Jvm.ClassFile.Instr.aload_n 0, 1) := dec_fin (by unfold Decoder.instr; rw [bn_u h0]; rfl)
set_option maxRecDepth 100000 in
theorem do_43 {c : ByteArray} {pc : Nat} (h0 : byt c pc 43) : decode c pc = .ok (Jvm.ClassFile.Instr.aload_n 1, 1) := dec_fin (by unfold Decoder.instr; rw [bn_u h0]; rfl)
set_option maxRecDepth 100000 in
theorem do_44 {c : ByteArray} {pc : Nat} (h0 : byt c pc 44) : decode c pc = .ok (Jvm.ClassFile.Instr.aload_n 2, 1) := dec_fin (by unfold Decoder.instr; rw [bn_u h0]; rfl)
set_option maxRecDepth 100000 in
theorem do_45 {c : ByteArray} {pc : Nat} (h0 : byt c pc 45) : decode c pc = .ok (Jvm.ClassFile.Instr.aload_n 3, 1) := dec_fin (by unfold Decoder.instr; rw [bn_u h0]; rfl)
set_option maxRecDepth 100000 in
theorem do_46 {c : ByteArray} {pc : Nat} (h0 : byt c pc 46) : decode c pc = .ok (Jvm.ClassFile.Instr.iaload, 1) := dec_fin (by unfold Decoder.instr; rw [bn_u h0]; rfl)
set_option maxRecDepth 100000 in
theorem do_47 {c : ByteArray} {pc : Nat} (h0 : byt c pc 47) : decode c pc = .ok (Jvm.ClassFile.Instr.laload, 1) := dec_fin (by unfold Decoder.instr; rw [bn_u h0]; rfl)
set_option maxRecDepth 100000 in
theorem do_50 {c : ByteArray} {pc : Nat} (h0 : byt c pc 50) : decode c pc = .ok (Jvm.ClassFile.Instr.aaload, 1) := dec_fin (by unfold Decoder.instr; rw [bn_u h0]; rfl)
set_option maxRecDepth 100000 in
theorem do_51 {c : ByteArray} {pc : Nat} (h0 : byt c pc 51) : decode c pc = .ok (Jvm.ClassFile.Instr.baload, 1) := dec_fin (by unfold Decoder.instr; rw [bn_u h0]; rfl)
set_option maxRecDepth 100000 in
theorem do_54 {c : ByteArray} {pc : Nat} (a : Nat) (h0 : byt c pc 54) (h1 : byt c (pc + 1) a) : decode c pc = .ok (Jvm.ClassFile.Instr.istore a, 2) := dec_fin (by unfold Decoder.instr; rw [bn_u h0]; exact bn_u (f := fun x => (pure (Jvm.ClassFile.Instr.istore x) : Decoder Jvm.ClassFile.Instr)) h1)
set_option maxRecDepth 100000 in
theorem do_55 {c : ByteArray} {pc : Nat} (a : Nat) (h0 : byt c pc 55) (h1 : byt c (pc + 1) a) : decode c pc = .ok (Jvm.ClassFile.Instr.lstore a, 2) := dec_fin (by unfold Decoder.instr; rw [bn_u h0]; exact bn_u (f := fun x => (pure (Jvm.ClassFile.Instr.lstore x) : Decoder Jvm.ClassFile.Instr)) h1)
set_option maxRecDepth 100000 in
theorem do_58 {c : ByteArray} {pc : Nat} (a : Nat) (h0 : byt c pc 58) (h1 : byt c (pc + 1) a) : decode c pc = .ok (Jvm.ClassFile.Instr.astore a, 2) := dec_fin (by unfold Decoder.instr; rw [bn_u h0]; exact bn_u (f := fun x => (pure (Jvm.ClassFile.Instr.astore x) : Decoder Jvm.ClassFile.Instr)) h1)
set_option maxRecDepth 100000 in
theorem do_60 {c : ByteArray} {pc : Nat} (h0 : byt c pc 60) : decode c pc = .ok (Jvm.ClassFile.Instr.istore_n 1, 1) := dec_fin (by unfold Decoder.instr; rw [bn_u h0]; rfl)
set_option maxRecDepth 100000 in
theorem do_61 {c : ByteArray} {pc : Nat} (h0 : byt c pc 61) : decode c pc = .ok (Jvm.ClassFile.Instr.istore_n 2, 1) := dec_fin (by unfold Decoder.instr; rw [bn_u h0]; rfl)
set_option maxRecDepth 100000 in
theorem do_62 {c : ByteArray} {pc : Nat} (h0 : byt c pc 62) : decode c pc = .ok (Jvm.ClassFile.Instr.istore_n 3, 1) := dec_fin (by unfold Decoder.instr; rw [bn_u h0]; rfl)
set_option maxRecDepth 100000 in
theorem do_64 {c : ByteArray} {pc : Nat} (h0 : byt c pc 64) : decode c pc = .ok (Jvm.ClassFile.Instr.lstore_n 1, 1) := dec_fin (by unfold Decoder.instr; rw [bn_u h0]; rfl)
set_option maxRecDepth 100000 in
theorem do_65 {c : ByteArray} {pc : Nat} (h0 : byt c pc 65) : decode c pc = .ok (Jvm.ClassFile.Instr.lstore_n 2, 1) := dec_fin (by unfold Decoder.instr; rw [bn_u h0]; rfl)
set_option maxRecDepth 100000 in
theorem do_66 {c : ByteArray} {pc : Nat} (h0 : byt c pc 66) : decode c pc = .ok (Jvm.ClassFile.Instr.lstore_n 3, 1) := dec_fin (by unfold Decoder.instr; rw [bn_u h0]; rfl)
set_option maxRecDepth 100000 in
theorem do_76 {c : ByteArray} {pc : Nat} (h0 : byt c pc 76) : decode c pc = .ok (Jvm.ClassFile.Instr.astore_n 1, 1) := dec_fin (by unfold Decoder.instr; rw [bn_u h0]; rfl)
set_option maxRecDepth 100000 in
theorem do_77 {c : ByteArray} {pc : Nat} (h0 : byt c pc 77) : decode c pc = .ok (Jvm.ClassFile.Instr.astore_n 2, 1) := dec_fin (by unfold Decoder.instr; rw [bn_u h0]; rfl)
set_option maxRecDepth 100000 in
theorem do_78 {c : ByteArray} {pc : Nat} (h0 : byt c pc 78) : decode c pc = .ok (Jvm.ClassFile.Instr.astore_n 3, 1) := dec_fin (by unfold Decoder.instr; rw [bn_u h0]; rfl)
set_option maxRecDepth 100000 in
theorem do_79 {c : ByteArray} {pc : Nat} (h0 : byt c pc 79) : decode c pc = .ok (Jvm.ClassFile.Instr.iastore, 1) := dec_fin (by unfold Decoder.instr; rw [bn_u h0]; rfl)
set_option maxRecDepth 100000 in
theorem do_80 {c : ByteArray} {pc : Nat} (h0 : byt c pc 80) : decode c pc = .ok (Jvm.ClassFile.Instr.lastore, 1) := dec_fin (by unfold Decoder.instr; rw [bn_u h0]; rfl)
set_option maxRecDepth 100000 in
theorem do_84 {c : ByteArray} {pc : Nat} (h0 : byt c pc 84) : decode c pc = .ok (Jvm.ClassFile.Instr.bastore, 1) := dec_fin (by unfold Decoder.instr; rw [bn_u h0]; rfl)
set_option maxRecDepth 100000 in
theorem do_87 {c : ByteArray} {pc : Nat} (h0 : byt c pc 87) : decode c pc = .ok (Jvm.ClassFile.Instr.pop, 1) := dec_fin (by unfold Decoder.instr; rw [bn_u h0]; rfl)
set_option maxRecDepth 100000 in
theorem do_88 {c : ByteArray} {pc : Nat} (h0 : byt c pc 88) : decode c pc = .ok (Jvm.ClassFile.Instr.pop2, 1) := dec_fin (by unfold Decoder.instr; rw [bn_u h0]; rfl)
set_option maxRecDepth 100000 in
theorem do_89 {c : ByteArray} {pc : Nat} (h0 : byt c pc 89) : decode c pc = .ok (Jvm.ClassFile.Instr.dup, 1) := dec_fin (by unfold Decoder.instr; rw [bn_u h0]; rfl)
set_option maxRecDepth 100000 in
theorem do_92 {c : ByteArray} {pc : Nat} (h0 : byt c pc 92) : decode c pc = .ok (Jvm.ClassFile.Instr.dup2, 1) := dec_fin (by unfold Decoder.instr; rw [bn_u h0]; rfl)
set_option maxRecDepth 100000 in
theorem do_96 {c : ByteArray} {pc : Nat} (h0 : byt c pc 96) : decode c pc = .ok (Jvm.ClassFile.Instr.iadd, 1) := dec_fin (by unfold Decoder.instr; rw [bn_u h0]; rfl)
set_option maxRecDepth 100000 in
theorem do_97 {c : ByteArray} {pc : Nat} (h0 : byt c pc 97) : decode c pc = .ok (Jvm.ClassFile.Instr.ladd, 1) := dec_fin (by unfold Decoder.instr; rw [bn_u h0]; rfl)
set_option maxRecDepth 100000 in
theorem do_100 {c : ByteArray} {pc : Nat} (h0 : byt c pc 100) : decode c pc = .ok (Jvm.ClassFile.Instr.isub, 1) := dec_fin (by unfold Decoder.instr; rw [bn_u h0]; rfl)
set_option maxRecDepth 100000 in
theorem do_101 {c : ByteArray} {pc : Nat} (h0 : byt c pc 101) : decode c pc = .ok (Jvm.ClassFile.Instr.lsub, 1) := dec_fin (by unfold Decoder.instr; rw [bn_u h0]; rfl)
set_option maxRecDepth 100000 in
theorem do_104 {c : ByteArray} {pc : Nat} (h0 : byt c pc 104) : decode c pc = .ok (Jvm.ClassFile.Instr.imul, 1) := dec_fin (by unfold Decoder.instr; rw [bn_u h0]; rfl)
set_option maxRecDepth 100000 in
theorem do_105 {c : ByteArray} {pc : Nat} (h0 : byt c pc 105) : decode c pc = .ok (Jvm.ClassFile.Instr.lmul, 1) := dec_fin (by unfold Decoder.instr; rw [bn_u h0]; rfl)
set_option maxRecDepth 100000 in
theorem do_108 {c : ByteArray} {pc : Nat} (h0 : byt c pc 108) : decode c pc = .ok (Jvm.ClassFile.Instr.idiv, 1) := dec_fin (by unfold Decoder.instr; rw [bn_u h0]; rfl)
set_option maxRecDepth 100000 in
theorem do_109 {c : ByteArray} {pc : Nat} (h0 : byt c pc 109) : decode c pc = .ok (Jvm.ClassFile.Instr.ldiv, 1) := dec_fin (by unfold Decoder.instr; rw [bn_u h0]; rfl)
set_option maxRecDepth 100000 in
theorem do_112 {c : ByteArray} {pc : Nat} (h0 : byt c pc 112) : decode c pc = .ok (Jvm.ClassFile.Instr.irem, 1) := dec_fin (by unfold Decoder.instr; rw [bn_u h0]; rfl)
set_option maxRecDepth 100000 in
theorem do_113 {c : ByteArray} {pc : Nat} (h0 : byt c pc 113) : decode c pc = .ok (Jvm.ClassFile.Instr.lrem, 1) := dec_fin (by unfold Decoder.instr; rw [bn_u h0]; rfl)
set_option maxRecDepth 100000 in
theorem do_116 {c : ByteArray} {pc : Nat} (h0 : byt c pc 116) : decode c pc = .ok (Jvm.ClassFile.Instr.ineg, 1) := dec_fin (by unfold Decoder.instr; rw [bn_u h0]; rfl)
set_option maxRecDepth 100000 in
theorem do_117 {c : ByteArray} {pc : Nat} (h0 : byt c pc 117) : decode c pc = .ok (Jvm.ClassFile.Instr.lneg, 1) := dec_fin (by unfold Decoder.instr; rw [bn_u h0]; rfl)
set_option maxRecDepth 100000 in
theorem do_120 {c : ByteArray} {pc : Nat} (h0 : byt c pc 120) : decode c pc = .ok (Jvm.ClassFile.Instr.ishl, 1) := dec_fin (by unfold Decoder.instr; rw [bn_u h0]; rfl)
set_option maxRecDepth 100000 in
theorem do_122 {c : ByteArray} {pc : Nat} (h0 : byt c pc 122) : decode c pc = .ok (Jvm.ClassFile.Instr.ishr, 1) := dec_fin (by unfold Decoder.instr; rw [bn_u h0]; rfl)
set_option maxRecDepth 100000 in
theorem do_124 {c : ByteArray} {pc : Nat} (h0 : byt c pc 124) : decode c pc = .ok (Jvm.ClassFile.Instr.iushr, 1) := dec_fin (by unfold Decoder.instr; rw [bn_u h0]; rfl)
set_option maxRecDepth 100000 in
theorem do_126 {c : ByteArray} {pc : Nat} (h0 : byt c pc 126) : decode c pc = .ok (Jvm.ClassFile.Instr.iand, 1) := dec_fin (by unfold Decoder.instr; rw [bn_u h0]; rfl)
set_option maxRecDepth 100000 in
theorem do_128 {c : ByteArray} {pc : Nat} (h0 : byt c pc 128) : decode c pc = .ok (Jvm.ClassFile.Instr.ior, 1) := dec_fin (by unfold Decoder.instr; rw [bn_u h0]; rfl)
set_option maxRecDepth 100000 in
theorem do_130 {c : ByteArray} {pc : Nat} (h0 : byt c pc 130) : decode c pc = .ok (Jvm.ClassFile.Instr.ixor, 1) := dec_fin (by unfold Decoder.instr; rw [bn_u h0]; rfl)
set_option maxRecDepth 100000 in
theorem do_132 {c : ByteArray} {pc : Nat} {n : Int} (a b : Nat) (h0 : byt c pc 132) (h1 : byt c (pc + 1) a) (h2 : byt c (pc + 2) b) (hn : Reader.signed 8 b = n) : decode c pc = .ok (Jvm.ClassFile.Instr.iinc a n, 3) := dec_fin (by subst hn; unfold Decoder.instr; rw [bn_u h0]; refine (bn_u (f := fun x => (do let y ← Reader.s1; pure (Jvm.ClassFile.Instr.iinc x y) : Decoder Jvm.ClassFile.Instr)) h1).trans ?_; exact bn_s1 (f := fun y => (pure (Jvm.ClassFile.Instr.iinc a y) : Decoder Jvm.ClassFile.Instr)) h2)
set_option maxRecDepth 100000 in
theorem do_133 {c : ByteArray} {pc : Nat} (h0 : byt c pc 133) : decode c pc = .ok (Jvm.ClassFile.Instr.i2l, 1) := dec_fin (by unfold Decoder.instr; rw [bn_u h0]; rfl)
set_option maxRecDepth 100000 in
theorem do_145 {c : ByteArray} {pc : Nat} (h0 : byt c pc 145) : decode c pc = .ok (Jvm.ClassFile.Instr.i2b, 1) := dec_fin (by unfold Decoder.instr; rw [bn_u h0]; rfl)
set_option maxRecDepth 100000 in
theorem do_146 {c : ByteArray} {pc : Nat} (h0 : byt c pc 146) : decode c pc = .ok (Jvm.ClassFile.Instr.i2c, 1) := dec_fin (by unfold Decoder.instr; rw [bn_u h0]; rfl)
set_option maxRecDepth 100000 in
theorem do_148 {c : ByteArray} {pc : Nat} (h0 : byt c pc 148) : decode c pc = .ok (Jvm.ClassFile.Instr.lcmp, 1) := dec_fin (by unfold Decoder.instr; rw [bn_u h0]; rfl)
set_option maxRecDepth 100000 in
theorem do_153 {c : ByteArray} {pc : Nat} {n : Int} (a b : Nat) (h0 : byt c pc 153) (h1 : byt c (pc + 1) a) (h2 : byt c (pc + 2) b) (hn : Reader.signed 16 (a * 256 + b) = n) : decode c pc = .ok (Jvm.ClassFile.Instr.ifCond .eq n, 3) := dec_fin (by subst hn; unfold Decoder.instr; rw [bn_u h0]; exact bn_s2 (f := fun x => (pure (Jvm.ClassFile.Instr.ifCond .eq x) : Decoder Jvm.ClassFile.Instr)) h1 h2)
set_option maxRecDepth 100000 in
theorem do_154 {c : ByteArray} {pc : Nat} {n : Int} (a b : Nat) (h0 : byt c pc 154) (h1 : byt c (pc + 1) a) (h2 : byt c (pc + 2) b) (hn : Reader.signed 16 (a * 256 + b) = n) : decode c pc = .ok (Jvm.ClassFile.Instr.ifCond .ne n, 3) := dec_fin (by subst hn; unfold Decoder.instr; rw [bn_u h0]; exact bn_s2 (f := fun x => (pure (Jvm.ClassFile.Instr.ifCond .ne x) : Decoder Jvm.ClassFile.Instr)) h1 h2)
set_option maxRecDepth 100000 in
theorem do_155 {c : ByteArray} {pc : Nat} {n : Int} (a b : Nat) (h0 : byt c pc 155) (h1 : byt c (pc + 1) a) (h2 : byt c (pc + 2) b) (hn : Reader.signed 16 (a * 256 + b) = n) : decode c pc = .ok (Jvm.ClassFile.Instr.ifCond .lt n, 3) := dec_fin (by subst hn; unfold Decoder.instr; rw [bn_u h0]; exact bn_s2 (f := fun x => (pure (Jvm.ClassFile.Instr.ifCond .lt x) : Decoder Jvm.ClassFile.Instr)) h1 h2)
set_option maxRecDepth 100000 in
theorem do_156 {c : ByteArray} {pc : Nat} {n : Int} (a b : Nat) (h0 : byt c pc 156) (h1 : byt c (pc + 1) a) (h2 : byt c (pc + 2) b) (hn : Reader.signed 16 (a * 256 + b) = n) : decode c pc = .ok (Jvm.ClassFile.Instr.ifCond .ge n, 3) := dec_fin (by subst hn; unfold Decoder.instr; rw [bn_u h0]; exact bn_s2 (f := fun x => (pure (Jvm.ClassFile.Instr.ifCond .ge x) : Decoder Jvm.ClassFile.Instr)) h1 h2)
set_option maxRecDepth 100000 in
theorem do_157 {c : ByteArray} {pc : Nat} {n : Int} (a b : Nat) (h0 : byt c pc 157) (h1 : byt c (pc + 1) a) (h2 : byt c (pc + 2) b) (hn : Reader.signed 16 (a * 256 + b) = n) : decode c pc = .ok (Jvm.ClassFile.Instr.ifCond .gt n, 3) := dec_fin (by subst hn; unfold Decoder.instr; rw [bn_u h0]; exact bn_s2 (f := fun x => (pure (Jvm.ClassFile.Instr.ifCond .gt x) : Decoder Jvm.ClassFile.Instr)) h1 h2)
set_option maxRecDepth 100000 in
theorem do_158 {c : ByteArray} {pc : Nat} {n : Int} (a b : Nat) (h0 : byt c pc 158) (h1 : byt c (pc + 1) a) (h2 : byt c (pc + 2) b) (hn : Reader.signed 16 (a * 256 + b) = n) : decode c pc = .ok (Jvm.ClassFile.Instr.ifCond .le n, 3) := dec_fin (by subst hn; unfold Decoder.instr; rw [bn_u h0]; exact bn_s2 (f := fun x => (pure (Jvm.ClassFile.Instr.ifCond .le x) : Decoder Jvm.ClassFile.Instr)) h1 h2)
set_option maxRecDepth 100000 in
theorem do_159 {c : ByteArray} {pc : Nat} {n : Int} (a b : Nat) (h0 : byt c pc 159) (h1 : byt c (pc + 1) a) (h2 : byt c (pc + 2) b) (hn : Reader.signed 16 (a * 256 + b) = n) : decode c pc = .ok (Jvm.ClassFile.Instr.if_icmp .eq n, 3) := dec_fin (by subst hn; unfold Decoder.instr; rw [bn_u h0]; exact bn_s2 (f := fun x => (pure (Jvm.ClassFile.Instr.if_icmp .eq x) : Decoder Jvm.ClassFile.Instr)) h1 h2)
set_option maxRecDepth 100000 in
theorem do_160 {c : ByteArray} {pc : Nat} {n : Int} (a b : Nat) (h0 : byt c pc 160) (h1 : byt c (pc + 1) a) (h2 : byt c (pc + 2) b) (hn : Reader.signed 16 (a * 256 + b) = n) : decode c pc = .ok (Jvm.ClassFile.Instr.if_icmp .ne n, 3) := dec_fin (by subst hn; unfold Decoder.instr; rw [bn_u h0]; exact bn_s2 (f := fun x => (pure (Jvm.ClassFile.Instr.if_icmp .ne x) : Decoder Jvm.ClassFile.Instr)) h1 h2)
set_option maxRecDepth 100000 in
theorem do_161 {c : ByteArray} {pc : Nat} {n : Int} (a b : Nat) (h0 : byt c pc 161) (h1 : byt c (pc + 1) a) (h2 : byt c (pc + 2) b) (hn : Reader.signed 16 (a * 256 + b) = n) : decode c pc = .ok (Jvm.ClassFile.Instr.if_icmp .lt n, 3) := dec_fin (by subst hn; unfold Decoder.instr; rw [bn_u h0]; exact bn_s2 (f := fun x => (pure (Jvm.ClassFile.Instr.if_icmp .lt x) : Decoder Jvm.ClassFile.Instr)) h1 h2)
set_option maxRecDepth 100000 in
theorem do_162 {c : ByteArray} {pc : Nat} {n : Int} (a b : Nat) (h0 : byt c pc 162) (h1 : byt c (pc + 1) a) (h2 : byt c (pc + 2) b) (hn : Reader.signed 16 (a * 256 + b) = n) : decode c pc = .ok (Jvm.ClassFile.Instr.if_icmp .ge n, 3) := dec_fin (by subst hn; unfold Decoder.instr; rw [bn_u h0]; exact bn_s2 (f := fun x => (pure (Jvm.ClassFile.Instr.if_icmp .ge x) : Decoder Jvm.ClassFile.Instr)) h1 h2)
set_option maxRecDepth 100000 in
theorem do_163 {c : ByteArray} {pc : Nat} {n : Int} (a b : Nat) (h0 : byt c pc 163) (h1 : byt c (pc + 1) a) (h2 : byt c (pc + 2) b) (hn : Reader.signed 16 (a * 256 + b) = n) : decode c pc = .ok (Jvm.ClassFile.Instr.if_icmp .gt n, 3) := dec_fin (by subst hn; unfold Decoder.instr; rw [bn_u h0]; exact bn_s2 (f := fun x => (pure (Jvm.ClassFile.Instr.if_icmp .gt x) : Decoder Jvm.ClassFile.Instr)) h1 h2)
set_option maxRecDepth 100000 in
theorem do_164 {c : ByteArray} {pc : Nat} {n : Int} (a b : Nat) (h0 : byt c pc 164) (h1 : byt c (pc + 1) a) (h2 : byt c (pc + 2) b) (hn : Reader.signed 16 (a * 256 + b) = n) : decode c pc = .ok (Jvm.ClassFile.Instr.if_icmp .le n, 3) := dec_fin (by subst hn; unfold Decoder.instr; rw [bn_u h0]; exact bn_s2 (f := fun x => (pure (Jvm.ClassFile.Instr.if_icmp .le x) : Decoder Jvm.ClassFile.Instr)) h1 h2)
set_option maxRecDepth 100000 in
theorem do_167 {c : ByteArray} {pc : Nat} {n : Int} (a b : Nat) (h0 : byt c pc 167) (h1 : byt c (pc + 1) a) (h2 : byt c (pc + 2) b) (hn : Reader.signed 16 (a * 256 + b) = n) : decode c pc = .ok (Jvm.ClassFile.Instr.goto n, 3) := dec_fin (by subst hn; unfold Decoder.instr; rw [bn_u h0]; exact bn_s2 (f := fun x => (pure (Jvm.ClassFile.Instr.goto x) : Decoder Jvm.ClassFile.Instr)) h1 h2)
set_option maxRecDepth 100000 in
theorem do_172 {c : ByteArray} {pc : Nat} (h0 : byt c pc 172) : decode c pc = .ok (Jvm.ClassFile.Instr.ireturn, 1) := dec_fin (by unfold Decoder.instr; rw [bn_u h0]; rfl)
set_option maxRecDepth 100000 in
theorem do_173 {c : ByteArray} {pc : Nat} (h0 : byt c pc 173) : decode c pc = .ok (Jvm.ClassFile.Instr.lreturn, 1) := dec_fin (by unfold Decoder.instr; rw [bn_u h0]; rfl)
set_option maxRecDepth 100000 in
theorem do_177 {c : ByteArray} {pc : Nat} (h0 : byt c pc 177) : decode c pc = .ok (Jvm.ClassFile.Instr.return_, 1) := dec_fin (by unfold Decoder.instr; rw [bn_u h0]; rfl)
set_option maxRecDepth 100000 in
theorem do_178 {c : ByteArray} {pc : Nat} (a b : Nat) (h0 : byt c pc 178) (h1 : byt c (pc + 1) a) (h2 : byt c (pc + 2) b) : decode c pc = .ok (Jvm.ClassFile.Instr.getstatic (a * 256 + b), 3) := dec_fin (by unfold Decoder.instr; rw [bn_u h0]; exact bn_u2 (f := fun x => (pure (Jvm.ClassFile.Instr.getstatic x) : Decoder Jvm.ClassFile.Instr)) h1 h2)
set_option maxRecDepth 100000 in
theorem do_180 {c : ByteArray} {pc : Nat} (a b : Nat) (h0 : byt c pc 180) (h1 : byt c (pc + 1) a) (h2 : byt c (pc + 2) b) : decode c pc = .ok (Jvm.ClassFile.Instr.getfield (a * 256 + b), 3) := dec_fin (by unfold Decoder.instr; rw [bn_u h0]; exact bn_u2 (f := fun x => (pure (Jvm.ClassFile.Instr.getfield x) : Decoder Jvm.ClassFile.Instr)) h1 h2)
set_option maxRecDepth 100000 in
theorem do_181 {c : ByteArray} {pc : Nat} (a b : Nat) (h0 : byt c pc 181) (h1 : byt c (pc + 1) a) (h2 : byt c (pc + 2) b) : decode c pc = .ok (Jvm.ClassFile.Instr.putfield (a * 256 + b), 3) := dec_fin (by unfold Decoder.instr; rw [bn_u h0]; exact bn_u2 (f := fun x => (pure (Jvm.ClassFile.Instr.putfield x) : Decoder Jvm.ClassFile.Instr)) h1 h2)
set_option maxRecDepth 100000 in
theorem do_182 {c : ByteArray} {pc : Nat} (a b : Nat) (h0 : byt c pc 182) (h1 : byt c (pc + 1) a) (h2 : byt c (pc + 2) b) : decode c pc = .ok (Jvm.ClassFile.Instr.invokevirtual (a * 256 + b), 3) := dec_fin (by unfold Decoder.instr; rw [bn_u h0]; exact bn_u2 (f := fun x => (pure (Jvm.ClassFile.Instr.invokevirtual x) : Decoder Jvm.ClassFile.Instr)) h1 h2)
set_option maxRecDepth 100000 in
theorem do_183 {c : ByteArray} {pc : Nat} (a b : Nat) (h0 : byt c pc 183) (h1 : byt c (pc + 1) a) (h2 : byt c (pc + 2) b) : decode c pc = .ok (Jvm.ClassFile.Instr.invokespecial (a * 256 + b), 3) := dec_fin (by unfold Decoder.instr; rw [bn_u h0]; exact bn_u2 (f := fun x => (pure (Jvm.ClassFile.Instr.invokespecial x) : Decoder Jvm.ClassFile.Instr)) h1 h2)
set_option maxRecDepth 100000 in
theorem do_184 {c : ByteArray} {pc : Nat} (a b : Nat) (h0 : byt c pc 184) (h1 : byt c (pc + 1) a) (h2 : byt c (pc + 2) b) : decode c pc = .ok (Jvm.ClassFile.Instr.invokestatic (a * 256 + b), 3) := dec_fin (by unfold Decoder.instr; rw [bn_u h0]; exact bn_u2 (f := fun x => (pure (Jvm.ClassFile.Instr.invokestatic x) : Decoder Jvm.ClassFile.Instr)) h1 h2)
set_option maxRecDepth 100000 in
theorem do_187 {c : ByteArray} {pc : Nat} (a b : Nat) (h0 : byt c pc 187) (h1 : byt c (pc + 1) a) (h2 : byt c (pc + 2) b) : decode c pc = .ok (Jvm.ClassFile.Instr.new (a * 256 + b), 3) := dec_fin (by unfold Decoder.instr; rw [bn_u h0]; exact bn_u2 (f := fun x => (pure (Jvm.ClassFile.Instr.new x) : Decoder Jvm.ClassFile.Instr)) h1 h2)
set_option maxRecDepth 100000 in
theorem do_190 {c : ByteArray} {pc : Nat} (h0 : byt c pc 190) : decode c pc = .ok (Jvm.ClassFile.Instr.arraylength, 1) := dec_fin (by unfold Decoder.instr; rw [bn_u h0]; rfl)
