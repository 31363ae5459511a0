/-! TRAILING ZEROS: what the JDK's way computes -/
def b3_f (x : Int32) (j : Nat) : Bool := x.toBitVec.getLsbD j
theorem b3_nat (x : Int32) (j : Nat) : x.toBitVec.toNat.testBit j = b3_f x j := rfl
theorem b3_m1 : (-1 : Int32).toBitVec = BitVec.allOnes 32 := by decide +kernel
theorem b3_pred {x : Int32} {k : Nat} (h1 : b3_f x k = true) (h2 : ∀ j, j < k → b3_f x j = false) (j : Nat) : b3_f (x - 1) j = if j < k then true else if j = k then false else b3_f x j := by
  have hpos : 0 < x.toBitVec.toNat := by
    rcases Nat.eq_zero_or_pos x.toBitVec.toNat with q | q
    · have := b3_nat x k
      rw [q, Nat.zero_testBit, h1] at this
      cases this
    · exact q
  have e : (x - 1).toBitVec.toNat = x.toBitVec.toNat - 1 := by
    rw [Int32.toBitVec_sub, Int32.toBitVec_one, BitVec.toNat_sub]
    have hl := x.toBitVec.isLt
    have h1' : (1#32).toNat = 1 := rfl
    rw [h1']
    omega
  rw [← b3_nat, e, nb_pred (n := x.toBitVec.toNat) (k := k) h1 h2]
  rfl
theorem b3_low {x : Int32} {k : Nat} (hk : k < 32) (h1 : b3_f x k = true) (h2 : ∀ j, j < k → b3_f x j = false) : (x ^^^ (-1)) &&& (x - 1) = nI (2 ^ k - 1) := by
  apply Int32.toBitVec_inj.mp
  apply BitVec.eq_of_getLsbD_eq
  intro j hj
  rw [Int32.toBitVec_and, Int32.toBitVec_xor, b3_m1, BitVec.getLsbD_and, BitVec.getLsbD_xor, BitVec.getLsbD_allOnes]
  have hp := b3_pred h1 h2 j
  unfold b3_f at hp h1 h2
  rw [hp]
  show _ = (BitVec.ofNat 32 (2 ^ k - 1)).getLsbD j
  rw [BitVec.getLsbD_ofNat, Nat.testBit_two_pow_sub_one]
  by_cases q : j < k
  · rw [h2 j q]; simp [q, hj]
  · by_cases q2 : j = k
    · subst q2
      simp
    · simp [q, q2, hj]
theorem b3_zero {x : Int32} (h : ∀ j, j < 32 → b3_f x j = false) : x = 0 := by
  apply Int32.toBitVec_inj.mp
  apply BitVec.eq_of_getLsbD_eq
  intro j hj
  rw [Int32.toBitVec_zero, BitVec.getLsbD_zero]
  exact h j hj
theorem nz_pos : ∀ k, k < 32 → (nI (2 ^ k - 1) ≤ 0 ↔ k = 0) := by decide +kernel
theorem nz_16 : ∀ k, k < 32 → (nI (2 ^ k - 1) ≤ 65536 ↔ k ≤ 16) := by decide +kernel
theorem nz_8 : ∀ k, k < 32 → (nI (2 ^ k - 1) ≤ 256 ↔ k ≤ 8) := by decide +kernel
theorem nz_4 : ∀ k, k < 32 → (nI (2 ^ k - 1) ≤ 16 ↔ k ≤ 4) := by decide +kernel
theorem nz_2 : ∀ k, k < 32 → (nI (2 ^ k - 1) ≤ 4 ↔ k ≤ 2) := by decide +kernel
theorem nz_s16 : ∀ k, k < 32 → 16 ≤ k → ((nI (2 ^ k - 1)).toUInt32 >>> ((16 : Int32).toUInt32 &&& Int32.toUInt32 31)).toInt32 = nI (2 ^ (k - 16) - 1) := by decide +kernel
theorem nz_s8 : ∀ k, k < 32 → 8 ≤ k → ((nI (2 ^ k - 1)).toUInt32 >>> ((8 : Int32).toUInt32 &&& Int32.toUInt32 31)).toInt32 = nI (2 ^ (k - 8) - 1) := by decide +kernel
theorem nz_s4 : ∀ k, k < 32 → 4 ≤ k → ((nI (2 ^ k - 1)).toUInt32 >>> ((4 : Int32).toUInt32 &&& Int32.toUInt32 31)).toInt32 = nI (2 ^ (k - 4) - 1) := by decide +kernel
theorem nz_s2 : ∀ k, k < 32 → 2 ≤ k → ((nI (2 ^ k - 1)).toUInt32 >>> ((2 : Int32).toUInt32 &&& Int32.toUInt32 31)).toInt32 = nI (2 ^ (k - 2) - 1) := by decide +kernel
theorem nz_s1 : ∀ k, k < 3 → 1 ≤ k → ((nI (2 ^ k - 1)).toUInt32 >>> ((1 : Int32).toUInt32 &&& Int32.toUInt32 31)).toInt32 = nI (k - 1) := by decide +kernel
/-- a long's halves -/
theorem b3_lo (x : Int64) {j : Nat} (hj : j < 32) : b3_f x.toInt32 j = bt_f x j := by
  unfold b3_f bt_f
  show (x.toBitVec.signExtend 32).getLsbD j = _
  rw [BitVec.getLsbD_signExtend]
  simp [hj]
  intro h
  omega
theorem b3_cu32 : ((32 : Int32).toInt64.toUInt64 &&& Int64.toUInt64 63).toNat = 32 := by decide +kernel
theorem b3_hi (x : Int64) {j : Nat} (hj : j < 32) : b3_f (x.toUInt64 >>> ((32 : Int32).toInt64.toUInt64 &&& Int64.toUInt64 63)).toInt64.toInt32 j = bt_f x (32 + j) := by
  rw [b3_lo _ hj]
  have hs := b3_cu32
  generalize (32 : Int32).toInt64.toUInt64 &&& Int64.toUInt64 63 = s at hs ⊢
  have e : (x.toUInt64 >>> s).toInt64.toBitVec = x.toBitVec >>> 32 := by
    apply BitVec.eq_of_toNat_eq
    show (x.toUInt64 >>> s).toNat = _
    rw [UInt64.toNat_shiftRight, hs, Nat.mod_eq_of_lt (by decide), BitVec.toNat_ushiftRight]
    rfl
  unfold bt_f
  rw [e, BitVec.getLsbD_ushiftRight]
