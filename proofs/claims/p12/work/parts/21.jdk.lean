/-! THE JDK: trailing zeros, fill, bitCount -/
set_option maxHeartbeats 4000000 in
set_option maxRecDepth 100000 in
theorem k_IN_ntz (l : Launch) {X : Lay} (hI : pw_I X) (w : Wd) {x : Int32} {k : Nat} (hk : k < 32) (hb1 : b3_f x k = true) (hb2 : ∀ j, j < k → b3_f x j = false) : CtI l y_IN_ntz (pw_ws y_IN_ntz c_IN_ntz 2 (some .int)) { frames := 0, cells := 0, slots := 0, locals := 0 } X w [.int x] (fun r w1 => w1 = w ∧ r = nI k) := by
  refine pw_open (by decide) hI [some (.int x), none] rfl (Nat.le_of_ble_eq_true rfl) ?_
  intro zp ze zs zm za zb zt zc hargs C hr hlk hnm
  have L74 : ∀ a n : Nat, 1 ≤ a → a ≤ 2 → n + a = k + 1 → MW zp l ze ({ frames := 0, cells := 0, slots := 0, locals := 0 } : Room) zs zm za zb zt zc X 2 0 0 (MQ zb (va_Qi (fun r w1 => w1 = w ∧ r = nI k) (pw_B X) (pw_F X)) za zs 0 0 (pw_F X)) w 74 [some (.int (nI (2 ^ a - 1))), some (.int (nI n))] [] := by
    intro a n ha hab hna
    refine pw_iload_n C d_IN_ntz_74 rfl ?_
    refine pw_iload_n C d_IN_ntz_75 rfl ?_
    refine pw_iconst C d_IN_ntz_76 (v := 1) (by decide) ?_
    refine pw_iushr C d_IN_ntz_77 ?_
    refine pw_iadd C d_IN_ntz_78 ?_
    refine pw_iret C hr hlk d_IN_ntz_79 ?_
    refine ⟨rfl, ?_⟩
    rw [nz_s1 a (by omega) ha, nI_add]
    congr 1
    omega
  have L62 : ∀ a n : Nat, 1 ≤ a → a ≤ 4 → n + a = k + 1 → MW zp l ze ({ frames := 0, cells := 0, slots := 0, locals := 0 } : Room) zs zm za zb zt zc X 2 0 0 (MQ zb (va_Qi (fun r w1 => w1 = w ∧ r = nI k) (pw_B X) (pw_F X)) za zs 0 0 (pw_F X)) w 62 [some (.int (nI (2 ^ a - 1))), some (.int (nI n))] [] := by
    intro a n ha hab hna
    refine pw_iload_n C d_IN_ntz_62 rfl ?_
    refine pw_iconst C d_IN_ntz_63 (v := 4) (by decide) ?_
    refine pw_icmp_le C 74 d_IN_ntz_64 (by decide) (fun h64 => ?_) (fun h64 => ?_)
    · exact L74 a n ha ((nz_2 a (by omega)).mp h64) hna
    · refine pw_iinc C d_IN_ntz_67 rfl (by decide) ?_
      refine pw_iload_n C d_IN_ntz_70 rfl ?_
      refine pw_iconst C d_IN_ntz_71 (v := 2) (by decide) ?_
      refine pw_iushr C d_IN_ntz_72 ?_
      refine pw_istore_n C d_IN_ntz_73 (by decide) ?_
      have hgt := mt (nz_2 a (by omega)).mpr h64
      rw [nz_s2 a (by omega) (by omega), show nI n + Int32.ofInt 2 = nI (n + 2) from nI_add n 2]
      exact L74 (a - 2) (n + 2) (by omega) (by omega) (by omega)
  have L49 : ∀ a n : Nat, 1 ≤ a → a ≤ 8 → n + a = k + 1 → MW zp l ze ({ frames := 0, cells := 0, slots := 0, locals := 0 } : Room) zs zm za zb zt zc X 2 0 0 (MQ zb (va_Qi (fun r w1 => w1 = w ∧ r = nI k) (pw_B X) (pw_F X)) za zs 0 0 (pw_F X)) w 49 [some (.int (nI (2 ^ a - 1))), some (.int (nI n))] [] := by
    intro a n ha hab hna
    refine pw_iload_n C d_IN_ntz_49 rfl ?_
    refine pw_bipush C d_IN_ntz_50 (v := 16) (by decide) ?_
    refine pw_icmp_le C 62 d_IN_ntz_52 (by decide) (fun h52 => ?_) (fun h52 => ?_)
    · exact L62 a n ha ((nz_4 a (by omega)).mp h52) hna
    · refine pw_iinc C d_IN_ntz_55 rfl (by decide) ?_
      refine pw_iload_n C d_IN_ntz_58 rfl ?_
      refine pw_iconst C d_IN_ntz_59 (v := 4) (by decide) ?_
      refine pw_iushr C d_IN_ntz_60 ?_
      refine pw_istore_n C d_IN_ntz_61 (by decide) ?_
      have hgt := mt (nz_4 a (by omega)).mpr h52
      rw [nz_s4 a (by omega) (by omega), show nI n + Int32.ofInt 4 = nI (n + 4) from nI_add n 4]
      exact L62 (a - 4) (n + 4) (by omega) (by omega) (by omega)
  have L34 : ∀ a n : Nat, 1 ≤ a → a ≤ 16 → n + a = k + 1 → MW zp l ze ({ frames := 0, cells := 0, slots := 0, locals := 0 } : Room) zs zm za zb zt zc X 2 0 0 (MQ zb (va_Qi (fun r w1 => w1 = w ∧ r = nI k) (pw_B X) (pw_F X)) za zs 0 0 (pw_F X)) w 34 [some (.int (nI (2 ^ a - 1))), some (.int (nI n))] [] := by
    intro a n ha hab hna
    refine pw_iload_n C d_IN_ntz_34 rfl ?_
    refine pw_sipush C d_IN_ntz_35 (v := 256) (by decide) ?_
    refine pw_icmp_le C 49 d_IN_ntz_38 (by decide) (fun h38 => ?_) (fun h38 => ?_)
    · exact L49 a n ha ((nz_8 a (by omega)).mp h38) hna
    · refine pw_iinc C d_IN_ntz_41 rfl (by decide) ?_
      refine pw_iload_n C d_IN_ntz_44 rfl ?_
      refine pw_bipush C d_IN_ntz_45 (v := 8) (by decide) ?_
      refine pw_iushr C d_IN_ntz_47 ?_
      refine pw_istore_n C d_IN_ntz_48 (by decide) ?_
      have hgt := mt (nz_8 a (by omega)).mpr h38
      rw [nz_s8 a (by omega) (by omega), show nI n + Int32.ofInt 8 = nI (n + 8) from nI_add n 8]
      exact L49 (a - 8) (n + 8) (by omega) (by omega) (by omega)
  refine pw_iload_n C d_IN_ntz_0 rfl ?_
  refine pw_iconst C d_IN_ntz_1 (v := -1) (by decide) ?_
  refine pw_ixor C d_IN_ntz_2 ?_
  refine pw_iload_n C d_IN_ntz_3 rfl ?_
  refine pw_iconst C d_IN_ntz_4 (v := 1) (by decide) ?_
  refine pw_isub C d_IN_ntz_5 ?_
  refine pw_iand C d_IN_ntz_6 ?_
  rw [b3_low hk hb1 hb2]
  refine pw_istore_n C d_IN_ntz_7 (by decide) ?_
  refine pw_iload_n C d_IN_ntz_8 rfl ?_
  refine pw_if_gt C 17 d_IN_ntz_9 (by decide) (fun h9 => ?_) (fun h9 => ?_)
  · refine pw_iconst C d_IN_ntz_17 (v := 1) (by decide) ?_
    refine pw_istore_n C d_IN_ntz_18 (by decide) ?_
    refine pw_iload_n C d_IN_ntz_19 rfl ?_
    refine pw_ldc_w C d_IN_ntz_20 (v := 65536) W_266 ?_
    refine pw_icmp_le C 34 d_IN_ntz_23 (by decide) (fun h23 => ?_) (fun h23 => ?_)
    · have hk1 : ¬ k = 0 := fun q => absurd h9 (Int32.not_lt.mpr ((nz_pos k hk).mpr q))
      exact L34 k 1 (by omega) ((nz_16 k hk).mp h23) (by omega)
    · refine pw_iinc C d_IN_ntz_26 rfl (by decide) ?_
      refine pw_iload_n C d_IN_ntz_29 rfl ?_
      refine pw_bipush C d_IN_ntz_30 (v := 16) (by decide) ?_
      refine pw_iushr C d_IN_ntz_32 ?_
      refine pw_istore_n C d_IN_ntz_33 (by decide) ?_
      have hgt := mt (nz_16 k hk).mpr h23
      rw [nz_s16 k hk (by omega)]
      exact L34 (k - 16) 17 (by omega) (by omega) (by omega)
  · refine pw_iload_n C d_IN_ntz_12 rfl ?_
    refine pw_bipush C d_IN_ntz_13 (v := 32) (by decide) ?_
    refine pw_iand C d_IN_ntz_15 ?_
    refine pw_iret C hr hlk d_IN_ntz_16 ?_
    have hk0 : k = 0 := (nz_pos k hk).mp (Int32.not_lt.mp h9)
    subst hk0
    exact ⟨rfl, by decide⟩
set_option maxHeartbeats 4000000 in
set_option maxRecDepth 100000 in
theorem k_LO_ntz (l : Launch) {X : Lay} (hI : pw_I X) (w : Wd) {x : Int64} {k : Nat} (hk : k < 64) (hb1 : bt_f x k = true) (hb2 : ∀ j, j < k → bt_f x j = false) : CtI l y_LO_ntz (pw_ws y_LO_ntz c_LO_ntz 3 (some .int)) { frames := 1, cells := 0, slots := 0, locals := 21 } X w [.long x] (fun r w1 => w1 = w ∧ r = nI k) := by
  refine pw_open (by decide) hI [some (.long x), none, none] rfl (Nat.le_of_ble_eq_true rfl) ?_
  intro zp ze zs zm za zb zt zc hargs C hr hlk hnm
  refine pw_lload_n C d_LO_ntz_0 rfl ?_
  refine pw_l2i C d_LO_ntz_1 ?_
  refine pw_istore_n C d_LO_ntz_2 (by decide) ?_
  refine pw_iload_n C d_LO_ntz_3 rfl ?_
  refine pw_if_ne C 21 d_LO_ntz_4 (by decide) (fun h4 => ?_) (fun h4 => ?_)
  · have hk3 : k < 32 := by
      rcases Nat.lt_or_ge k 32 with q | q
      · exact q
      · exact absurd (b3_zero (fun j hj => by rw [b3_lo x hj]; exact hb2 j (by omega))) h4
    have q1 : b3_f x.toInt32 k = true := by rw [b3_lo x hk3]; exact hb1
    have q2 : ∀ j, j < k → b3_f x.toInt32 j = false := fun j hj => by rw [b3_lo x (by omega)]; exact hb2 j hj
    refine pw_iload_n C d_LO_ntz_21 rfl ?_
    refine pw_callSi C (k_IN_ntz l hI w hk3 q1 q2) ⟨pw_cb C 1 W_265 W_9 W_263 ⟨rfl, rfl⟩ (by decide +kernel) ⟨(Nat.le_of_ble_eq_true rfl), (Nat.le_of_ble_eq_true rfl)⟩, pw_w C W_264⟩ rfl rfl (Nat.le_of_ble_eq_true rfl) d_LO_ntz_22 ⟨Nat.zero_le _, Nat.zero_le _⟩ (fun r w1 hp => ?_)
    refine pw_iret C hr hlk d_LO_ntz_25 ?_
    exact hp
  · have hk3 : ¬ k < 32 := fun q => by
      have := b3_lo x q
      rw [h4, hb1] at this
      have h0 : b3_f 0 k = false := by unfold b3_f; rw [Int32.toBitVec_zero, BitVec.getLsbD_zero]
      rw [h0] at this
      cases this
    have q1 : b3_f (x.toUInt64 >>> ((32 : Int32).toInt64.toUInt64 &&& Int64.toUInt64 63)).toInt64.toInt32 (k - 32) = true := by rw [b3_hi x (by omega), show 32 + (k - 32) = k by omega]; exact hb1
    have q2 : ∀ j, j < k - 32 → b3_f (x.toUInt64 >>> ((32 : Int32).toInt64.toUInt64 &&& Int64.toUInt64 63)).toInt64.toInt32 j = false := fun j hj => by rw [b3_hi x (by omega)]; exact hb2 _ (by omega)
    refine pw_bipush C d_LO_ntz_7 (v := 32) (by decide) ?_
    refine pw_lload_n C d_LO_ntz_9 rfl ?_
    refine pw_bipush C d_LO_ntz_10 (v := 32) (by decide) ?_
    refine pw_lushr C d_LO_ntz_12 ?_
    refine pw_l2i C d_LO_ntz_13 ?_
    refine pw_callSi C (k_IN_ntz l hI w (k := k - 32) (by omega) q1 q2) ⟨pw_cb C 1 W_265 W_9 W_263 ⟨rfl, rfl⟩ (by decide +kernel) ⟨(Nat.le_of_ble_eq_true rfl), (Nat.le_of_ble_eq_true rfl)⟩, pw_w C W_264⟩ rfl rfl (Nat.le_of_ble_eq_true rfl) d_LO_ntz_14 ⟨Nat.zero_le _, Nat.zero_le _⟩ (fun r w1 hp => ?_)
    refine pw_iadd C d_LO_ntz_17 ?_
    refine pw_goto C 25 d_LO_ntz_18 (by decide) ?_
    refine pw_iret C hr hlk d_LO_ntz_25 ?_
    refine ⟨hp.1, ?_⟩
    rw [hp.2]
    show nI 32 + nI (k - 32) = nI k
    rw [nI_add]
    congr 1
    omega
set_option maxHeartbeats 4000000 in
set_option maxRecDepth 100000 in
theorem k_AR_fill (l : Launch) {X : Lay} (hI : pw_I X) (w : Wd) {g i n : Nat} {f : Nat → Int64} (v : Int64) (hn : n < 2 ^ 31) (hd : pw_d X g i) (hw : w g i = aL X n f) : CtV l y_AR_fill (pw_ws y_AR_fill c_AR_fill 5 none) { frames := 0, cells := 0, slots := 0, locals := 0 } X w [.ref (pw_a X g i), .long v] (fun w1 => ∃ f1, w1 = pw_up w g i (aL X n f1) ∧ ∀ j, j < n → f1 j = v) := by
  refine pw_open (by decide) hI [some (.ref (pw_a X g i)), some (.long v), none, none, none] rfl (Nat.le_of_ble_eq_true rfl) ?_
  intro zp ze zs zm za zb zt zc hargs C hr hlk hnm
  have L6 : ∀ d k : Nat, k + d = n → ∀ f1 : Nat → Int64, (∀ j, j < k → f1 j = v) → MW zp l ze ({ frames := 0, cells := 0, slots := 0, locals := 0 } : Room) zs zm za zb zt zc X 5 0 0 (MQ zb (va_Qv (fun w1 => ∃ f1, w1 = pw_up w g i (aL X n f1) ∧ ∀ j, j < n → f1 j = v) (pw_B X) (pw_F X)) za zs 0 0 (pw_F X)) (pw_up w g i (aL X n f1)) 6 [some (.ref (pw_a X g i)), some (.long v), none, some (.int (nI k)), some (.int (nI n))] [] := by
    intro d
    induction d with
    | zero =>
      intro k hkd f1 hf
      refine pw_iload_n C d_AR_fill_6 rfl ?_
      refine pw_iload C d_AR_fill_7 rfl ?_
      refine pw_icmp_ge C 22 d_AR_fill_9 (by decide) (fun h9 => ?_) (fun h9 => ?_)
      · refine pw_vret C hr hlk d_AR_fill_22 ?_
        exact ⟨f1, rfl, fun j hj => hf j (by omega)⟩
      · exact absurd (nI_le (by omega) (by omega)) h9
    | succ d ih =>
      intro k hkd f1 hf
      refine pw_iload_n C d_AR_fill_6 rfl ?_
      refine pw_iload C d_AR_fill_7 rfl ?_
      refine pw_icmp_ge C 22 d_AR_fill_9 (by decide) (fun h9 => ?_) (fun h9 => ?_)
      · exact absurd ((nI_leI hn (by omega)).mp h9) (by omega)
      refine pw_aload_n C d_AR_fill_12 rfl ?_
      refine pw_iload_n C d_AR_fill_13 rfl ?_
      refine pw_lload_n C d_AR_fill_14 rfl ?_
      refine pw_lastK C d_AR_fill_15 hd (pw_up_self w g i _) (by omega) ?_
      refine pw_iinc1 C d_AR_fill_16 rfl (by decide) ?_
      refine pw_goto C 6 d_AR_fill_19 (by decide) ?_
      rw [pw_up_up]
      exact ih (k + 1) (by omega) _ (fun j hj => by
        by_cases q : j = k
        · subst q; exact pk_uLs
        · rw [pk_uLn q]; exact hf j (by omega))
  refine pw_iconst C d_AR_fill_0 (v := 0) (by decide) ?_
  refine pw_istore_n C d_AR_fill_1 (by decide) ?_
  refine pw_aload_n C d_AR_fill_2 rfl ?_
  refine pw_alenL C d_AR_fill_3  hd hw ?_
  refine pw_istore C d_AR_fill_4 (by decide) ?_
  refine MW.world (pw_up_id w hw).symm ?_
  exact L6 n 0 (by omega) f (fun j hj => absurd hj (Nat.not_lt_zero j))
