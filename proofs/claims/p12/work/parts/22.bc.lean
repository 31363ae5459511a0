/-! bitCount. The wb_ rows are the kit's own (laws/BITS.to-paste), pasted -/
theorem wb_tb (n : Nat) : (lN n).toBitVec = BitVec.ofNat 64 n := rfl
theorem wb_inj {a b : Int64} (h : a.toBitVec = b.toBitVec) : a = b := Int64.toBitVec_inj.mp h
theorem wb_tn {n : Nat} (h : n < 2 ^ 64) : (lN n).toBitVec.toNat = n := by rw [wb_tb, BitVec.toNat_ofNat, Nat.mod_eq_of_lt h]
theorem wb_of (x : Int64) : ∃ n, n < 2 ^ 64 ∧ x = lN n := ⟨x.toBitVec.toNat, x.toBitVec.isLt, wb_inj (by rw [wb_tb]; simp)⟩
theorem wb_cu : ∀ k, k < 64 → ((nI k).toInt64.toUInt64 &&& Int64.toUInt64 63) = UInt64.ofNat k := by decide +kernel
theorem wb_shr {n k : Nat} (hn : n < 2 ^ 64) (hk : k < 64) : ((lN n).toUInt64 >>> ((nI k).toInt64.toUInt64 &&& Int64.toUInt64 63)).toInt64 = lN (n / 2 ^ k) := by
  rw [wb_cu k hk]
  apply wb_inj
  apply BitVec.eq_of_toNat_eq
  show ((lN n).toUInt64 >>> UInt64.ofNat k).toNat = (BitVec.ofNat 64 _).toNat
  have h1 : (UInt64.ofNat k).toNat = k := by
    show (BitVec.ofNat 64 k).toNat = k
    rw [BitVec.toNat_ofNat, Nat.mod_eq_of_lt (by omega)]
  have h2 : (lN n).toUInt64.toNat = n := wb_tn hn
  rw [UInt64.toNat_shiftRight, h1, h2, Nat.mod_eq_of_lt hk, Nat.shiftRight_eq_div_pow, BitVec.toNat_ofNat, Nat.mod_eq_of_lt (Nat.lt_of_le_of_lt (Nat.div_le_self _ _) hn)]
theorem wb_and {a b : Nat} (ha : a < 2 ^ 64) (hb : b < 2 ^ 64) : lN a &&& lN b = lN (a &&& b) := by
  apply wb_inj
  rw [Int64.toBitVec_and, wb_tb, wb_tb, wb_tb]
  apply BitVec.eq_of_toNat_eq
  rw [BitVec.toNat_and, BitVec.toNat_ofNat, BitVec.toNat_ofNat, BitVec.toNat_ofNat, Nat.mod_eq_of_lt ha, Nat.mod_eq_of_lt hb, Nat.mod_eq_of_lt (Nat.and_lt_two_pow _ hb)]
theorem bc_m1 : (6148914691236517205 : Int64) = lN (pq_m 85 8) := by decide +kernel
theorem bc_m2 : (3689348814741910323 : Int64) = lN (pq_m 51 8) := by decide +kernel
theorem bc_m4 : (1085102592571150095 : Int64) = lN (pq_m 15 8) := by decide +kernel
theorem bc_l1 : pq_m 85 8 = 6148914691236517205 := by decide +kernel
theorem bc_l2 : pq_m 51 8 = 3689348814741910323 := by decide +kernel
theorem bc_l4 : pq_m 15 8 = 1085102592571150095 := by decide +kernel
theorem bc_s {n : Nat} (hn : n < 2 ^ 64) (k : Nat) (hk : k < 64) : ((lN n).toUInt64 >>> ((nI k).toInt64.toUInt64 &&& Int64.toUInt64 63)).toInt64 = lN (n / 2 ^ k) := wb_shr hn hk
def bc_n (x : Int64) : Nat := sg_f (fun j => if bt_f x j then 1 else 0) 64
theorem bc_e1 {n : Nat} (hn : n < 2 ^ 64) : lN n - (((lN n).toUInt64 >>> ((1 : Int32).toInt64.toUInt64 &&& Int64.toUInt64 63)).toInt64 &&& 6148914691236517205) = lN (n - ((n / 2) &&& pq_m 85 8)) := by
  rw [show ((lN n).toUInt64 >>> ((1 : Int32).toInt64.toUInt64 &&& Int64.toUInt64 63)).toInt64 = lN (n / 2) from bc_s hn 1 (by decide), bc_m1, wb_and (by omega) (by rw [bc_l1]; decide), lN_sub]
  have : (n / 2) &&& pq_m 85 8 ≤ n / 2 := Nat.and_le_left
  omega
theorem bc_e2 {y : Nat} (hy : y < 2 ^ 64) : (lN y &&& 3689348814741910323) + (((lN y).toUInt64 >>> ((2 : Int32).toInt64.toUInt64 &&& Int64.toUInt64 63)).toInt64 &&& 3689348814741910323) = lN ((y &&& pq_m 51 8) + ((y / 4) &&& pq_m 51 8)) := by
  rw [show ((lN y).toUInt64 >>> ((2 : Int32).toInt64.toUInt64 &&& Int64.toUInt64 63)).toInt64 = lN (y / 4) from bc_s hy 2 (by decide), bc_m2, wb_and hy (by rw [bc_l2]; decide), wb_and (by omega) (by rw [bc_l2]; decide), lN_add]
theorem bc_e3 {z : Nat} (hz : z ≤ 7378697629483820646) : (lN z + ((lN z).toUInt64 >>> ((4 : Int32).toInt64.toUInt64 &&& Int64.toUInt64 63)).toInt64) &&& 1085102592571150095 = lN ((z + z / 16) &&& pq_m 15 8) := by
  rw [show ((lN z).toUInt64 >>> ((4 : Int32).toInt64.toUInt64 &&& Int64.toUInt64 63)).toInt64 = lN (z / 16) from bc_s (by omega) 4 (by decide), bc_m4, lN_add, wb_and (by omega) (by rw [bc_l4]; decide)]
theorem bc_e4 {a : Nat} (k : Nat) (hk : k < 64) (ha : a < 2 ^ 64) : lN a + ((lN a).toUInt64 >>> ((nI k).toInt64.toUInt64 &&& Int64.toUInt64 63)).toInt64 = lN (a + a / 2 ^ k) := by
  rw [bc_s ha k hk, lN_add]
theorem bc_e7 {c : Nat} (hc : c < 2 ^ 64) : (lN c).toInt32 &&& 127 = nI (c % 128) := by
  rw [lN_i, pk_and (nI c) 7 (by decide)]
  congr 1
  show (BitVec.ofNat 32 c).toNat % 128 = c % 128
  rw [BitVec.toNat_ofNat]
  omega
theorem bc_bnd (y : Nat) : (y &&& pq_m 51 8) + ((y / 4) &&& pq_m 51 8) ≤ 7378697629483820646 := by
  have h1 : y &&& pq_m 51 8 ≤ pq_m 51 8 := Nat.and_le_right
  have h2 : (y / 4) &&& pq_m 51 8 ≤ pq_m 51 8 := Nat.and_le_right
  rw [bc_l2] at h1 h2 ⊢
  omega
theorem bc_b8 (n : Nat) : pq_b pq_8 8 n < 1157442765409226759 := by
  have h : ∀ (k x : Nat), pq_b pq_8 k x ≤ pq_m 8 k := by
    intro k
    induction k with
    | zero => intro x; exact Nat.le_refl _
    | succ k ih =>
      intro x
      have h1 := ih (x / 256)
      have h2 := p8_le (Nat.mod_lt x (show 0 < 256 by decide))
      show pq_8 (x % 256) + 256 * pq_b pq_8 k (x / 256) ≤ 8 + 256 * pq_m 8 k
      omega
  have h1 := h 8 n
  have h2 : pq_m 8 8 = 578721382704613384 := by decide +kernel
  omega
theorem bc_end (x : Int64) : pq_s 8 x.toBitVec.toNat = bc_n x := bs_eq 8 _
set_option maxHeartbeats 4000000 in
set_option maxRecDepth 100000 in
theorem k_LO_bc (l : Launch) {X : Lay} (hI : pw_I X) (w : Wd) (x : Int64) : CtI l y_LO_bc (pw_ws y_LO_bc c_LO_bc 2 (some .int)) { frames := 0, cells := 0, slots := 0, locals := 0 } X w [.long x] (fun r w1 => w1 = w ∧ r = nI (bc_n x)) := by
  obtain ⟨n, hn, hx⟩ := wb_of x
  have hxn : x.toBitVec.toNat = n := by rw [hx]; exact wb_tn hn
  rw [← bc_end x, hxn]
  subst hx
  have s3 := st123 (x := n) (by omega) rfl rfl
  have s6 := st456 (x := n) rfl rfl rfl
  have b8 := bc_b8 n
  refine pw_open (by decide) hI [some (.long (lN n)), none] rfl (Nat.le_of_ble_eq_true rfl) ?_
  intro zp ze zs zm za zb zt zc hargs C hr hlk hnm
  refine pw_lload_n C d_LO_bc_0 rfl ?_
  refine pw_lload_n C d_LO_bc_1 rfl ?_
  refine pw_iconst C d_LO_bc_2 (v := 1) (by decide) ?_
  refine pw_lushr C d_LO_bc_3 ?_
  refine pw_ldc2_w C d_LO_bc_4 (v := 6148914691236517205) W_313 ?_
  refine pw_land C d_LO_bc_7 ?_
  refine pw_lsub C d_LO_bc_8 ?_
  rw [bc_e1 hn]
  refine pw_lstore_n C d_LO_bc_9 (by decide) ?_
  refine pw_lload_n C d_LO_bc_10 rfl ?_
  refine pw_ldc2_w C d_LO_bc_11 (v := 3689348814741910323) W_314 ?_
  refine pw_land C d_LO_bc_14 ?_
  refine pw_lload_n C d_LO_bc_15 rfl ?_
  refine pw_iconst C d_LO_bc_16 (v := 2) (by decide) ?_
  refine pw_lushr C d_LO_bc_17 ?_
  refine pw_ldc2_w C d_LO_bc_18 (v := 3689348814741910323) W_314 ?_
  refine pw_land C d_LO_bc_21 ?_
  refine pw_ladd C d_LO_bc_22 ?_
  rw [bc_e2 (Nat.lt_of_le_of_lt (Nat.sub_le _ _) hn)]
  refine pw_lstore_n C d_LO_bc_23 (by decide) ?_
  refine pw_lload_n C d_LO_bc_24 rfl ?_
  refine pw_lload_n C d_LO_bc_25 rfl ?_
  refine pw_iconst C d_LO_bc_26 (v := 4) (by decide) ?_
  refine pw_lushr C d_LO_bc_27 ?_
  refine pw_ladd C d_LO_bc_28 ?_
  refine pw_ldc2_w C d_LO_bc_29 (v := 1085102592571150095) W_315 ?_
  refine pw_land C d_LO_bc_32 ?_
  rw [bc_e3 (bc_bnd _), s3]
  refine pw_lstore_n C d_LO_bc_33 (by decide) ?_
  refine pw_lload_n C d_LO_bc_34 rfl ?_
  refine pw_lload_n C d_LO_bc_35 rfl ?_
  refine pw_bipush C d_LO_bc_36 (v := 8) (by decide) ?_
  refine pw_lushr C d_LO_bc_38 ?_
  refine pw_ladd C d_LO_bc_39 ?_
  rw [show lN (pq_b pq_8 8 n) + ((lN (pq_b pq_8 8 n)).toUInt64 >>> ((8 : Int32).toInt64.toUInt64 &&& Int64.toUInt64 63)).toInt64 = lN (pq_b pq_8 8 n + pq_b pq_8 8 n / 256) from bc_e4 8 (by decide) (by omega)]
  generalize ha : pq_b pq_8 8 n + pq_b pq_8 8 n / 256 = a at s6 ⊢
  have hab : a < 2 ^ 63 := by omega
  refine pw_lstore_n C d_LO_bc_40 (by decide) ?_
  refine pw_lload_n C d_LO_bc_41 rfl ?_
  refine pw_lload_n C d_LO_bc_42 rfl ?_
  refine pw_bipush C d_LO_bc_43 (v := 16) (by decide) ?_
  refine pw_lushr C d_LO_bc_45 ?_
  refine pw_ladd C d_LO_bc_46 ?_
  rw [show lN a + ((lN a).toUInt64 >>> ((16 : Int32).toInt64.toUInt64 &&& Int64.toUInt64 63)).toInt64 = lN (a + a / 65536) from bc_e4 16 (by decide) (by omega)]
  generalize hb : a + a / 65536 = b at s6 ⊢
  have hbb : b < 2 ^ 64 := by omega
  refine pw_lstore_n C d_LO_bc_47 (by decide) ?_
  refine pw_lload_n C d_LO_bc_48 rfl ?_
  refine pw_lload_n C d_LO_bc_49 rfl ?_
  refine pw_bipush C d_LO_bc_50 (v := 32) (by decide) ?_
  refine pw_lushr C d_LO_bc_52 ?_
  refine pw_ladd C d_LO_bc_53 ?_
  rw [show lN b + ((lN b).toUInt64 >>> ((32 : Int32).toInt64.toUInt64 &&& Int64.toUInt64 63)).toInt64 = lN (b + b / 4294967296) from bc_e4 32 (by decide) (by omega)]
  generalize hc : b + b / 4294967296 = d at s6 ⊢
  refine pw_lstore_n C d_LO_bc_54 (by decide) ?_
  refine pw_lload_n C d_LO_bc_55 rfl ?_
  refine pw_l2i C d_LO_bc_56 ?_
  refine pw_bipush C d_LO_bc_57 (v := 127) (by decide) ?_
  refine pw_iand C d_LO_bc_59 ?_
  refine pw_iret C hr hlk d_LO_bc_60 ?_
  refine ⟨rfl, ?_⟩
  rw [bc_e7 (by omega), s6.1]
