theorem nb_rng (x : Int32) : iv (vp_nar .byte x) (-128) 127 := by
  rw [vp_nar_byte]
  have h1 := x.toInt8.le_toInt
  have h2 := x.toInt8.toInt_lt
  unfold iv
  rw [Int8.toInt_toInt32]
  constructor <;> omega
theorem ivf_nb {f : Nat → Int32} {k : Nat} {x : Int32} (h : ivf f (-128) 127) : ivf (upd f k (vp_nar .byte x)) (-128) 127 := ivf.up h (nb_rng x) k
/-- the byte of an int that stands s bits up -/
def by8 (v s : Int32) : Int32 := (v >>> s).toInt8.toInt32
theorem by_m {v s x y : Int32} (e1 : x = v >>> s) (e2 : x.toInt8.toInt32 = y) : vp_nar .byte y = by8 v s := by
  rw [vp_nar_byte, ← e2, Int8.toInt8_toInt32, e1]; rfl
theorem by_bits (a : BitVec 32) (n : Nat) (hn : n ≤ 24) : (a >>> n).signExtend 8 = (a.sshiftRight n).signExtend 8 := by
  apply BitVec.eq_of_getLsbD_eq
  intro i hi
  rw [BitVec.getLsbD_signExtend, BitVec.getLsbD_signExtend, BitVec.getLsbD_ushiftRight, BitVec.getLsbD_sshiftRight]
  have h1 : i < 32 := by omega
  have h2 : n + i < 32 := by omega
  simp [h1, h2, hi]
theorem by_c {v s x y : Int32} (n : Nat) (hn : n ≤ 24) (h1 : s.toBitVec.smod 32 = BitVec.ofNat 32 n) (h2 : (s.toUInt32 &&& Int32.toUInt32 31).toBitVec % 32 = BitVec.ofNat 32 n) (e1 : (v.toUInt32 >>> (s.toUInt32 &&& Int32.toUInt32 31)).toInt32 = x) (e2 : x.toInt8.toInt32 = y) : vp_nar .byte y = by8 v s := by
  have q : x.toInt8 = (v >>> s).toInt8 := by
    apply Int8.toBitVec_inj.mp
    have hm : n % 2 ^ 32 = n := Nat.mod_eq_of_lt (by omega)
    have a1 : (v >>> s).toBitVec = v.toBitVec.sshiftRight n := by
      rw [Int32.toBitVec_shiftRight]
      show v.toBitVec.sshiftRight' (s.toBitVec.smod 32) = _
      rw [h1, BitVec.sshiftRight'_ofNat_eq_sshiftRight, hm]
    have a2 : x.toBitVec = v.toBitVec >>> n := by
      rw [← e1]
      show v.toBitVec >>> ((s.toUInt32 &&& Int32.toUInt32 31).toBitVec % 32) = _
      rw [h2]
      show v.toBitVec >>> (BitVec.ofNat 32 n).toNat = _
      rw [BitVec.toNat_ofNat, hm]
    rw [Int32.toBitVec_toInt8, Int32.toBitVec_toInt8, a1, a2]
    exact by_bits _ _ hn
  rw [vp_nar_byte, ← e2, Int8.toInt8_toInt32, q]; rfl
theorem up_b {f f1 : Nat → Int32} {x z w : Int32} {k : Nat} (q : upd f x.toNatClampNeg z = f1) (hx : x.toNatClampNeg = k) (hz : z = w) : f1 = upd f k w := by
  rw [← q, hx, hz]
def apd (f : Nat → Int32) (k : Nat) (v : Int32) : Nat → Int32 := upd (upd (upd (upd f k (by8 v 24)) (k + 1) (by8 v 16)) (k + 2) (by8 v 8)) (k + 3) (by8 v 0)
def fdv (f : Nat → Int32) (n : Nat) (a b c d e : Int32) : Nat → Int32 := apd (apd (apd (apd (apd f n a) (n + 4) b) (n + 8) c) (n + 12) d) (n + 16) e
theorem nn_k {x y : Int32} {k : Int} {m : Nat} (e : y.toInt = x.toInt + k) (h : 0 ≤ x.toInt) (hk : k = m) : y.toNatClampNeg = x.toNatClampNeg + m := by
  have e1 := nn_eq x; have e2 := nn_eq y; omega
