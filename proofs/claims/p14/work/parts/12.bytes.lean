/-! bytes of a long, the lowest is byte 0 -/
def by_t (w : Int64) (j : Nat) : Nat := w.toBitVec.toNat / 2 ^ (8 * j) % 256
theorem by_lt (w : Int64) (j : Nat) : by_t w j < 256 := Nat.mod_lt _ (by decide)
theorem by_su : ∀ j, j < 8 → ((nI (8 * j)).toInt64.toUInt64 &&& Int64.toUInt64 63).toNat = 8 * j := by decide
theorem by_ss : ∀ j, j < 8 → ((nI (8 * j)).toInt64 &&& 63).toBitVec.smod 64#64 = BitVec.ofNat 64 (8 * j) := by decide
theorem by_i (y : Int64) : y.toInt32 &&& nI 255 = nI (y.toBitVec.toNat % 256) := by
  rw [pk_and y.toInt32 (m := nI 255) 8 (by decide)]
  congr 1
  have e : y.toInt32.toBitVec.toNat = y.toBitVec.toNat % 2 ^ 32 := by
    rw [Int64.toBitVec_toInt32]
    rw [BitVec.signExtend_eq_setWidth_of_le _ (by decide)]
    exact BitVec.toNat_setWidth 32 y.toBitVec
  rw [e]
  omega
/-- byteOf(w, shift) -/
theorem by_u (w : Int64) {j : Nat} (hj : j < 8) : (w.toUInt64 >>> ((nI (8 * j)).toInt64.toUInt64 &&& Int64.toUInt64 63)).toInt64.toInt32 &&& nI 255 = nI (by_t w j) := by
  rw [by_i]
  congr 1
  have e : (w.toUInt64 >>> ((nI (8 * j)).toInt64.toUInt64 &&& Int64.toUInt64 63)).toInt64.toBitVec.toNat = w.toBitVec.toNat / 2 ^ (8 * j) := by
    show (w.toUInt64 >>> ((nI (8 * j)).toInt64.toUInt64 &&& Int64.toUInt64 63)).toNat = _
    rw [UInt64.toNat_shiftRight, by_su j hj, Nat.mod_eq_of_lt (by omega), Nat.shiftRight_eq_div_pow]
    rfl
  rw [e]
  rfl
theorem by_and (x : BitVec 64) {k : Nat} (hk : k ≤ 56) : (x.sshiftRight k &&& 255#64).toNat = x.toNat / 2 ^ k % 256 := by
  have h1 : x.sshiftRight k &&& 255#64 = (x >>> k) &&& 255#64 := by
    apply BitVec.eq_of_getLsbD_eq
    intro i hi
    rw [BitVec.getLsbD_and, BitVec.getLsbD_and, BitVec.getLsbD_sshiftRight, BitVec.getLsbD_ushiftRight]
    by_cases h8 : i < 8
    · have h2 : k + i < 64 := by omega
      have h3 : ¬ 64 ≤ i := by omega
      simp [h2, h3]
    · have h9 : (255#64).getLsbD i = false := by
        have h10 : (255#64).getLsbD i = Nat.testBit 255 i := by
          rw [BitVec.getLsbD_ofNat]
          simp [hi]
        rw [h10, show (255 : Nat) = 2 ^ 8 - 1 from rfl, Nat.testBit_two_pow_sub_one]
        simp [h8]
      simp [h9]
  rw [h1, BitVec.toNat_and, BitVec.toNat_ushiftRight, Nat.shiftRight_eq_div_pow]
  show (x.toNat / 2 ^ k) &&& (2 ^ 8 - 1) = _
  rw [Nat.and_two_pow_sub_one_eq_mod]
/-- (w >> k) & 255 -/
theorem by_l (w : Int64) {j : Nat} (hj : j < 8) : (w >>> ((nI (8 * j)).toInt64 &&& 63)) &&& 255 = lN (by_t w j) := by
  apply Int64.toBitVec_inj.mp
  apply BitVec.eq_of_toNat_eq
  have e1 : ((w >>> ((nI (8 * j)).toInt64 &&& 63)) &&& 255).toBitVec = (w.toBitVec.sshiftRight (8 * j)) &&& 255#64 := by
    show (w.toBitVec.sshiftRight' (((nI (8 * j)).toInt64 &&& 63).toBitVec.smod 64#64)) &&& 255#64 = _
    rw [by_ss j hj, BitVec.sshiftRight_eq']
    rw [BitVec.toNat_ofNat, Nat.mod_eq_of_lt (by omega)]
  rw [e1, by_and _ (by omega)]
  show _ = (BitVec.ofNat 64 (by_t w j)).toNat
  rw [BitVec.toNat_ofNat, Nat.mod_eq_of_lt (Nat.lt_trans (by_lt w j) (by decide))]
  rfl
theorem by_li (w : Int64) {j : Nat} (hj : j < 8) : ((w >>> ((nI (8 * j)).toInt64 &&& 63)) &&& 255).toInt32 = nI (by_t w j) := by
  rw [by_l w hj, lN_i]
