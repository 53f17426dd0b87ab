/-! bytes of a long -/
def s_byt (x : Int64) (k : Nat) : Nat := x.toBitVec.toNat / 2 ^ (8 * k) % 256
theorem s_byt_lt (x : Int64) (k : Nat) : s_byt x k < 256 := Nat.mod_lt _ (by decide)
theorem by_c : ∀ k, k < 8 → ((nI (8 * k)).toInt64 &&& 63).toBitVec.smod 64 = BitVec.ofNat 64 (8 * k) := by decide +kernel
theorem by_cu : ∀ k, k < 8 → (((nI (8 * k)).toInt64.toUInt64 &&& Int64.toUInt64 63)).toNat = 8 * k := by decide +kernel
theorem by_bit (x : Int64) {k i : Nat} (hi : i < 8) : (s_byt x k).testBit i = x.toBitVec.getLsbD (8 * k + i) := by
  unfold s_byt
  rw [show (256 : Nat) = 2 ^ 8 by decide, Nat.testBit_mod_two_pow, Nat.testBit_div_two_pow]
  simp only [hi, decide_true, Bool.true_and]
  rw [BitVec.getLsbD, Nat.add_comm]
theorem by_hi (x : Int64) {k i : Nat} (hi : 8 ≤ i) : (s_byt x k).testBit i = false :=
  Nat.testBit_lt_two_pow (Nat.lt_of_lt_of_le (s_byt_lt x k) (show 2 ^ 8 ≤ 2 ^ i from Nat.pow_le_pow_right (by decide) hi))
theorem by_255 (i : Nat) : (BitVec.ofNat 32 255).getLsbD i = decide (i < 8) := by
  rw [BitVec.getLsbD_ofNat, show (255 : Nat) = 2 ^ 8 - 1 by decide, Nat.testBit_two_pow_sub_one]
  by_cases h : i < 8
  · have : i < 32 := by omega
    simp [h, this]
  · simp [h]
theorem by_low {v : Int64} {x : Int64} {k : Nat} (h : ∀ i, i < 8 → v.toBitVec.getLsbD i = x.toBitVec.getLsbD (8 * k + i)) : v.toInt32 &&& nI 255 = nI (s_byt x k) := by
  apply Int32.toBitVec_inj.mp
  rw [Int32.toBitVec_and, Int64.toBitVec_toInt32]
  apply BitVec.eq_of_getLsbD_eq
  intro i hi
  rw [BitVec.getLsbD_and]
  show (_ && (BitVec.ofNat 32 255).getLsbD i) = (BitVec.ofNat 32 (s_byt x k)).getLsbD i
  rw [by_255, BitVec.getLsbD_ofNat]
  by_cases h8 : i < 8
  · rw [by_bit x h8, ← h i h8]
    have h64 : i < 64 := by omega
    simp only [BitVec.getLsbD_signExtend, h8, hi, h64, decide_true, Bool.true_and, Bool.and_true, if_true]
  · rw [by_hi x (by omega)]
    simp [h8]
theorem by_shr (x : Int64) {k : Nat} (hk : k < 8) : (x >>> ((nI (8 * k)).toInt64 &&& 63)).toInt32 &&& nI 255 = nI (s_byt x k) := by
  apply by_low
  intro i hi
  rw [Int64.toBitVec_shiftRight, by_c k hk]
  rw [BitVec.sshiftRight_eq', BitVec.getLsbD_sshiftRight, BitVec.toNat_ofNat, Nat.mod_eq_of_lt (by omega)]
  have h1 : ¬ 64 ≤ i := by omega
  have h2 : 8 * k + i < 64 := by omega
  simp [h1, h2]
theorem by_ushr (x : Int64) {k : Nat} (hk : k < 8) : (x.toUInt64 >>> ((nI (8 * k)).toInt64.toUInt64 &&& Int64.toUInt64 63)).toInt64.toInt32 &&& nI 255 = nI (s_byt x k) := by
  apply by_low
  intro i hi
  have e : (x.toUInt64 >>> ((nI (8 * k)).toInt64.toUInt64 &&& Int64.toUInt64 63)).toInt64.toBitVec = x.toBitVec >>> (8 * k) := by
    apply BitVec.eq_of_toNat_eq
    show (x.toUInt64 >>> _).toNat = _
    rw [UInt64.toNat_shiftRight, by_cu k hk, Nat.mod_eq_of_lt (by omega), BitVec.toNat_ushiftRight]
    rfl
  rw [e, BitVec.getLsbD_ushiftRight]
/-- what a byte array keeps of the byte -/
theorem by_b8 : ∀ n, n < 256 → narrow .byte (.int (nI n)) = .int ((nI n).toInt8.toInt32) := fun n _ => rfl
theorem by_i8 (v : Int32) {n : Nat} (hn : n < 256) (h : v &&& nI 255 = nI n) : v.toInt8.toInt32 = (nI n).toInt8.toInt32 := by
  rw [← h]
  apply Int32.toBitVec_inj.mp
  rw [Int8.toBitVec_toInt32, Int8.toBitVec_toInt32, Int32.toBitVec_toInt8, Int32.toBitVec_toInt8, Int32.toBitVec_and]
  congr 1
  apply BitVec.eq_of_getLsbD_eq
  intro i hi
  have h32 : i < 32 := by omega
  show _ = ((v.toBitVec &&& (BitVec.ofNat 32 255)).signExtend 8).getLsbD i
  simp only [BitVec.getLsbD_signExtend, BitVec.getLsbD_and, by_255, hi, h32, decide_true, Bool.true_and, Bool.and_true, if_true]
