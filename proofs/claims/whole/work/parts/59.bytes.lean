/-! the bytes of a long -/
def fd_b (X : Int64) (k : Nat) : Nat := X.toBitVec.toNat / 2 ^ (8 * k) % 256
theorem fd_lt (X : Int64) (k : Nat) : fd_b X k < 256 := Nat.mod_lt _ (by decide)
theorem fd_tb (X : Int64) (k i : Nat) : (fd_b X k).testBit i = (decide (i < 8) && X.toBitVec.getLsbD (8 * k + i)) := by
  unfold fd_b
  rw [show (256 : Nat) = 2 ^ 8 from rfl, Nat.testBit_mod_two_pow, Nat.testBit_div_two_pow, Nat.add_comm i]
  rfl
theorem fd_u : ∀ k, k < 8 → (((nI (8 * k)).toInt64.toUInt64 &&& Int64.toUInt64 63).toBitVec % 64).toNat = 8 * k := by decide +kernel
theorem fd_s : ∀ k, k < 8 → (((nI (8 * k)).toInt64 &&& 63).toBitVec.smod 64).toNat = 8 * k := by decide +kernel
theorem fd_255 (i : Nat) (hi : i < 32) : bt (nI 255) i = decide (i < 8) := by
  rw [bt_nI (by decide), show (255 : Nat) = 2 ^ 8 - 1 from rfl, Nat.testBit_two_pow_sub_one]
theorem fd_255L (i : Nat) : (255 : Int64).toBitVec.getLsbD i = decide (i < 8) := by
  show (255 : Nat).testBit i = _
  rw [show (255 : Nat) = 2 ^ 8 - 1 from rfl, Nat.testBit_two_pow_sub_one]
theorem fd_c (X : Int64) {k : Nat} (hk : k < 8) : (X.toUInt64 >>> ((nI (8 * k)).toInt64.toUInt64 &&& Int64.toUInt64 63)).toInt64.toInt32 &&& nI 255 = nI (fd_b X k) := by
  refine b_ext fun i hi => ?_
  rw [b_and, fd_255 i hi, bt_nI (Nat.lt_trans (fd_lt X k) (by decide)), fd_tb]
  have e : bt (X.toUInt64 >>> ((nI (8 * k)).toInt64.toUInt64 &&& Int64.toUInt64 63)).toInt64.toInt32 i = X.toBitVec.getLsbD (8 * k + i) := by
    show ((X.toBitVec >>> (((nI (8 * k)).toInt64.toUInt64 &&& Int64.toUInt64 63).toBitVec % 64).toNat).signExtend 32).getLsbD i = _
    rw [fd_u k hk, BitVec.getLsbD_signExtend, BitVec.getLsbD_ushiftRight]
    simp [hi, show i < 64 by omega]
  rw [e, Bool.and_comm]
theorem fd_m (X : Int64) {k : Nat} (hk : k < 8) : ((X >>> ((nI (8 * k)).toInt64 &&& 63)) &&& 255).toInt32 = nI (fd_b X k) := by
  refine b_ext fun i hi => ?_
  rw [bt_nI (Nat.lt_trans (fd_lt X k) (by decide)), fd_tb]
  show ((X.toBitVec.sshiftRight (((nI (8 * k)).toInt64 &&& 63).toBitVec.smod 64).toNat &&& (255 : Int64).toBitVec).signExtend 32).getLsbD i = _
  rw [fd_s k hk, BitVec.getLsbD_signExtend, BitVec.getLsbD_and, fd_255L, BitVec.getLsbD_sshiftRight]
  by_cases c : i < 8
  · simp [hi, c, show 8 * k + i < 64 by omega, show i < 64 by omega]
  · simp [c, show i < 64 by omega]
