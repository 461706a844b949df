theorem nx_and (a b : Nat) : nI a &&& nI b = nI (a &&& b) := by
  apply Int32.toBitVec_inj.1
  show BitVec.ofNat 32 a &&& BitVec.ofNat 32 b = BitVec.ofNat 32 (a &&& b)
  apply BitVec.eq_of_getLsbD_eq
  intro i hi
  simp [hi]
theorem nx_or (a b : Nat) : nI a ||| nI b = nI (a ||| b) := by
  apply Int32.toBitVec_inj.1
  show BitVec.ofNat 32 a ||| BitVec.ofNat 32 b = BitVec.ofNat 32 (a ||| b)
  apply BitVec.eq_of_getLsbD_eq
  intro i hi
  simp [hi]
theorem wb_inj {a b : Int64} (h : a.toBitVec = b.toBitVec) : a = b := Int64.toBitVec_inj.mp h
theorem wb_tb (n : Nat) : (lN n).toBitVec = BitVec.ofNat 64 n := rfl
theorem nb_or (k : Nat) {a b : Nat} (h : b < 2 ^ k) : nI (a * 2 ^ k) ||| nI b = nI (a * 2 ^ k + b) := by
  rw [nx_or, Nat.mul_comm, ← Nat.two_pow_add_eq_or_of_lt h]
theorem lb_or (k : Nat) {a b : Nat} (h : b < 2 ^ k) : lN (a * 2 ^ k) ||| lN b = lN (a * 2 ^ k + b) := by
  rw [Nat.mul_comm, Nat.two_pow_add_eq_or_of_lt h]
  apply wb_inj
  show BitVec.ofNat 64 _ ||| BitVec.ofNat 64 _ = BitVec.ofNat 64 _
  apply BitVec.eq_of_getLsbD_eq
  intro i hi
  simp [hi]
theorem lb_mask {n : Nat} : lN n &&& lN 4294967295 = lN (n % 4294967296) := by
  rw [show n % 4294967296 = n &&& (2 ^ 32 - 1) from (Nat.and_two_pow_sub_one_eq_mod n 32).symm]
  apply wb_inj
  show BitVec.ofNat 64 _ &&& BitVec.ofNat 64 _ = BitVec.ofNat 64 _
  apply BitVec.eq_of_getLsbD_eq
  intro i hi
  simp [hi]
/-- the int of 32 bits n, as a long, its upper half cut off -/
theorem lb_of {n : Nat} (h : n < 4294967296) : (nI n).toInt64 &&& lN 4294967295 = lN n := by
  by_cases h1 : n < 2147483648
  · rw [nI_l h1, lb_mask, Nat.mod_eq_of_lt h]
  · have e : (nI n).toInt64 = lN (n + 18446744069414584320) := by
      apply wb_inj
      apply BitVec.eq_of_toInt_eq
      rw [wb_tb, Int32.toBitVec_toInt64, BitVec.toInt_signExtend_of_le (by decide)]
      show (BitVec.ofNat 32 n).toInt = _
      rw [BitVec.toInt_eq_toNat_cond, BitVec.toInt_eq_toNat_cond, BitVec.toNat_ofNat, BitVec.toNat_ofNat]
      omega
    rw [e, lb_mask, show (n + 18446744069414584320) % 4294967296 = n by omega]
theorem sb_cut (n : Nat) : (nI n).toInt8.toInt32 = sb_b (n % 256) := by
  have e : (nI n).toInt8 = (nI (n % 256)).toInt8 := by
    apply Int8.toBitVec_inj.mp
    rw [Int32.toBitVec_toInt8, Int32.toBitVec_toInt8]
    show (BitVec.ofNat 32 n).signExtend 8 = (BitVec.ofNat 32 (n % 256)).signExtend 8
    apply BitVec.eq_of_getLsbD_eq
    intro i hi
    have h1 : i < 32 := by omega
    rw [show (256 : Nat) = 2 ^ 8 from rfl]
    rw [BitVec.getLsbD_signExtend, BitVec.getLsbD_signExtend, if_pos h1, if_pos h1, BitVec.getLsbD_ofNat, BitVec.getLsbD_ofNat, Nat.testBit_mod_two_pow]
    simp [hi]
  rw [e]; rfl
theorem sb_and {n : Nat} (h : n < 256) : sb_b n &&& nI 255 = nI n := (sb_byte n h).1
/-- the bits of an int, as a number -/
def uB (v : Int32) : Nat := v.toBitVec.toNat
theorem uB_lt (v : Int32) : uB v < 4294967296 := v.toBitVec.isLt
theorem uB_nI (v : Int32) : nI (uB v) = v := by
  apply Int32.toBitVec_inj.1
  show BitVec.ofNat 32 v.toBitVec.toNat = v.toBitVec
  simp
theorem uB_ushr (v s : Int32) (k : Nat) (hs : ((s.toUInt32 &&& Int32.toUInt32 31).toBitVec % 32).toNat = k) : (v.toUInt32 >>> (s.toUInt32 &&& Int32.toUInt32 31)).toInt32 = nI (uB v / 2 ^ k) := by
  rw [← uB_nI (v.toUInt32 >>> (s.toUInt32 &&& Int32.toUInt32 31)).toInt32]
  exact congrArg nI (pk_ushr v s k hs)
theorem uB_sshr (v : Int32) (k : Nat) (s : Int32) (hs : (s.toBitVec.smod 32).toNat = k) (hk : k = 0 ∨ k = 8 ∨ k = 16 ∨ k = 24) : v >>> s &&& nI 255 = nI (uB v / 2 ^ k % 256) := by
  rw [pk_and _ 8 (by decide)]
  refine congrArg nI ?_
  have h2 : (v >>> s).toBitVec.toInt = v.toBitVec.toInt >>> k := pk_shr v s k hs
  have h3 := uB_lt v
  have h4 := (v >>> s).toBitVec.isLt
  have e1 := BitVec.toInt_eq_toNat_cond (v >>> s).toBitVec
  have e2 := BitVec.toInt_eq_toNat_cond v.toBitVec
  rw [Int.shiftRight_eq_div_pow, e2] at h2
  rw [h2] at e1
  unfold uB at h3 ⊢
  generalize v.toBitVec.toNat = a at *
  generalize (v >>> s).toBitVec.toNat = b at *
  clear h2 e2 hs
  rcases hk with rfl | rfl | rfl | rfl <;> (split at e1 <;> split at e1 <;> omega)
def fw (b : Nat → Nat) (a : Nat) : Nat := b a * 16777216 + b (a + 1) * 65536 + b (a + 2) * 256 + b (a + 3)
theorem fw_lt {b : Nat → Nat} (h : ∀ j, b j < 256) (a : Nat) : fw b a < 4294967296 := by
  unfold fw
  have h0 := h a; have h1 := h (a + 1); have h2 := h (a + 2); have h3 := h (a + 3)
  omega
theorem fw_word {x0 x1 x2 x3 : Nat} (h0 : x0 < 256) (h1 : x1 < 256) (h2 : x2 < 256) (h3 : x3 < 256) : (((nI x0 <<< (nI 24 &&& 31) ||| nI x1 <<< (nI 16 &&& 31)) ||| nI x2 <<< (nI 8 &&& 31)) ||| nI x3).toInt64 &&& lN 4294967295 = lN (x0 * 16777216 + x1 * 65536 + x2 * 256 + x3) := by
  rw [pk_shlN (nI 24 &&& 31) 24 (by decide) (by omega), pk_shlN (nI 16 &&& 31) 16 (by decide) (by omega), pk_shlN (nI 8 &&& 31) 8 (by decide) (by omega)]
  rw [nb_or 24 (by omega)]
  rw [show x0 * 2 ^ 24 + x1 * 2 ^ 16 = (x0 * 256 + x1) * 2 ^ 16 by omega, nb_or 16 (by omega)]
  rw [show (x0 * 256 + x1) * 2 ^ 16 + x2 * 2 ^ 8 = (x0 * 65536 + x1 * 256 + x2) * 2 ^ 8 by omega, nb_or 8 (by omega)]
  rw [lb_of (by omega), show (x0 * 65536 + x1 * 256 + x2) * 2 ^ 8 + x3 = x0 * 16777216 + x1 * 65536 + x2 * 256 + x3 by omega]
theorem wz_pos {c : Prop} [Decidable c] (h : 0 < (if c then 1 else 0)) : c := by
  by_cases z : c
  · exact z
  · rw [if_neg z] at h; exact absurd h (by decide)
theorem wz_zero {c : Prop} [Decidable c] (h : (if c then 1 else 0) = 0) : ¬ c := by
  intro z
  rw [if_pos z] at h; exact absurd h (by decide)
