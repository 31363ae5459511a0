/-! BITS. A set of points is a long; bt_f x j: is j in it? -/
def bt_f (x : Int64) (j : Nat) : Bool := x.toBitVec.getLsbD j
theorem bt_ext {x y : Int64} (h : ∀ j, j < 64 → bt_f x j = bt_f y j) : x = y := Int64.toBitVec_inj.mp (BitVec.eq_of_getLsbD_eq (fun j hj => h j hj))
theorem bt_or (x y : Int64) (j : Nat) : bt_f (x ||| y) j = (bt_f x j || bt_f y j) := by
  unfold bt_f; rw [Int64.toBitVec_or, BitVec.getLsbD_or]
theorem bt_and (x y : Int64) (j : Nat) : bt_f (x &&& y) j = (bt_f x j && bt_f y j) := by
  unfold bt_f; rw [Int64.toBitVec_and, BitVec.getLsbD_and]
theorem bt_0 (j : Nat) : bt_f 0 j = false := by
  unfold bt_f; rw [Int64.toBitVec_zero, BitVec.getLsbD_zero]
theorem bt_big {x : Int64} {j : Nat} (h : 64 ≤ j) : bt_f x j = false := BitVec.getLsbD_of_ge _ _ h
theorem bt_lt {x : Int64} {j : Nat} (h : bt_f x j = true) : j < 64 := by
  rcases Nat.lt_or_ge j 64 with q | q
  · exact q
  · rw [bt_big q] at h; cases h
theorem bt_p2 : ∀ k, k < 64 → ((1 : Int64) <<< ((nI k).toInt64 &&& 63)).toBitVec = BitVec.twoPow 64 k := by decide +kernel
theorem bt_bit {k : Nat} (hk : k < 64) (j : Nat) : bt_f ((1 : Int64) <<< ((nI k).toInt64 &&& 63)) j = decide (j = k) := by
  unfold bt_f
  rw [bt_p2 k hk, BitVec.getLsbD_twoPow]
  by_cases h : j = k
  · subst h; simp [hk]
  · simp [h, hk, Ne.symm h]
theorem bt_cu : ∀ k, k < 64 → ((nI k).toInt64.toUInt64 &&& Int64.toUInt64 63).toNat = k := by decide +kernel
theorem bt_hold {x : Int64} {k : Nat} (hk : k < 64) : ((x.toUInt64 >>> ((nI k).toInt64.toUInt64 &&& Int64.toUInt64 63)).toInt64 &&& 1) = 0 ↔ bt_f x k = false := by
  have hs := bt_cu k hk
  generalize (nI k).toInt64.toUInt64 &&& Int64.toUInt64 63 = s at hs ⊢
  have e : (x.toUInt64 >>> s).toInt64.toBitVec = x.toBitVec >>> k := by
    apply BitVec.eq_of_toNat_eq
    show (x.toUInt64 >>> s).toNat = _
    rw [UInt64.toNat_shiftRight, hs, Nat.mod_eq_of_lt hk, BitVec.toNat_ushiftRight]
    rfl
  rw [← Int64.toBitVec_inj, Int64.toBitVec_and, e]
  show x.toBitVec >>> k &&& 1#64 = 0#64 ↔ _
  constructor
  · intro h
    have t := congrArg (fun x => x.getLsbD 0) h
    simpa [bt_f] using t
  · intro h
    apply BitVec.eq_of_getLsbD_eq
    intro j hj
    rcases Nat.eq_zero_or_pos j with q | q
    · subst q
      simpa [bt_f] using h
    · have : (1#64).getLsbD j = false := by
        rw [BitVec.getLsbD_one]; simp; omega
      simp [this]
/-- the least place of a set that isn't empty -/
theorem bt_least {x : Int64} (h : ¬ x = 0) : ∃ k, k < 64 ∧ bt_f x k = true ∧ ∀ j, j < k → bt_f x j = false := by
  have he : ∃ k, bt_f x k = true := by
    rcases Classical.em (∃ k, bt_f x k = true) with q | q
    · exact q
    · exact absurd (bt_ext (fun j _ => by
        rw [bt_0]
        cases hb : bt_f x j with
        | false => rfl
        | true => exact absurd ⟨j, hb⟩ q)) h
  obtain ⟨k, h1, h2⟩ := pk_least (fun k => bt_f x k = true) he
  exact ⟨k, bt_lt h1, h1, fun j hj => by
    cases hb : bt_f x j with
    | false => rfl
    | true => exact absurd hb (h2 j hj)⟩
/-- a number whose lowest bit is k: what it is, and one less -/
theorem nb_low {n k : Nat} (h1 : n.testBit k = true) (h2 : ∀ j, j < k → n.testBit j = false) : ∃ q, n = 2 ^ k * (2 * q + 1) := by
  have h3 : n % 2 ^ k = 0 := by
    apply Nat.eq_of_testBit_eq
    intro j
    rw [Nat.testBit_mod_two_pow, Nat.zero_testBit]
    by_cases hj : j < k
    · simp [h2 j hj]
    · simp [hj]
  have h4 : (n / 2 ^ k) % 2 = 1 := by
    have h5 : (n / 2 ^ k).testBit 0 = true := by rw [Nat.testBit_div_two_pow, Nat.zero_add]; exact h1
    rw [Nat.testBit_zero] at h5
    exact of_decide_eq_true h5
  refine ⟨n / 2 ^ k / 2, ?_⟩
  have h6 : 2 * (n / 2 ^ k / 2) + 1 = n / 2 ^ k := by omega
  rw [h6]
  have h7 := Nat.div_add_mod n (2 ^ k)
  omega
theorem nb_pred {n k : Nat} (h1 : n.testBit k = true) (h2 : ∀ j, j < k → n.testBit j = false) (j : Nat) : (n - 1).testBit j = if j < k then true else if j = k then false else n.testBit j := by
  obtain ⟨q, hq⟩ := nb_low h1 h2
  have hp : 0 < 2 ^ k := Nat.two_pow_pos k
  have e1 : n - 1 = 2 ^ k * (2 * q) + (2 ^ k - 1) := by
    rw [hq, Nat.mul_add, Nat.mul_one]
    omega
  have e2 : n = 2 ^ k * (2 * q + 1) + 0 := by rw [Nat.add_zero]; exact hq
  rw [e1, Nat.testBit_two_pow_mul_add _ (by omega)]
  by_cases hj : j < k
  · simp [hj]
  · rw [if_neg hj, if_neg hj]
    by_cases hk : j = k
    · subst hk
      rw [if_pos rfl, Nat.sub_self, Nat.testBit_zero]
      simp
    · rw [if_neg hk]
      rw [e2, Nat.testBit_two_pow_mul_add _ hp, if_neg hj]
      obtain ⟨d, hd⟩ : ∃ d, j - k = d + 1 := ⟨j - k - 1, by omega⟩
      rw [hd, Nat.testBit_add_one, Nat.testBit_add_one]
      congr 1
      omega
theorem bt_nat (x : Int64) (j : Nat) : x.toBitVec.toNat.testBit j = bt_f x j := rfl
theorem bt_pred {x : Int64} {k : Nat} (h1 : bt_f x k = true) (h2 : ∀ j, j < k → bt_f x j = false) {j : Nat} (hj : j < 64) : bt_f (x - 1) j = if j < k then true else if j = k then false else bt_f x j := by
  have hpos : 0 < x.toBitVec.toNat := by
    rcases Nat.eq_zero_or_pos x.toBitVec.toNat with q | q
    · have := bt_nat x k
      rw [q, Nat.zero_testBit, h1] at this
      cases this
    · exact q
  have e : (x - 1).toBitVec.toNat = x.toBitVec.toNat - 1 := by
    rw [Int64.toBitVec_sub, Int64.toBitVec_one, BitVec.toNat_sub]
    have hl := x.toBitVec.isLt
    have h1' : (1#64).toNat = 1 := rfl
    rw [h1']
    omega
  rw [← bt_nat, e, nb_pred (n := x.toBitVec.toNat) (k := k) h1 h2]
  rfl
/-- the lowest bit goes -/
theorem bt_clear {x : Int64} {k : Nat} (h1 : bt_f x k = true) (h2 : ∀ j, j < k → bt_f x j = false) {j : Nat} (hj : j < 64) : bt_f (x &&& (x - 1)) j = (bt_f x j && decide (k < j)) := by
  rw [bt_and, bt_pred h1 h2 hj]
  by_cases q : j < k
  · rw [h2 j q]; simp
  · by_cases q2 : j = k
    · subst q2; simp
    · have : k < j := by omega
      simp [q, q2, this]
