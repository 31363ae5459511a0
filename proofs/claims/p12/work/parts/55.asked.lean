/-! THE REFERENCE: what is found -/
def mo_st (X : Lay) (w : Wd) (T : Nat → Nat → Int64) (cnt : Int32) (wd : Nat → Int32) (n : Nat) : Prop :=
  ∃ tE st pt lk tb rk sp, m_w X w tE cnt wd (nI n) st pt lk tb rk sp = w ∧ n ≤ 60 ∧ (∀ k, k < 8 → ∀ i, i < 64 → ∀ j, j < 64 → tE (ix_f k i j) = bt_f (T k i) j) ∧ (¬ rk = 0 → lk_f wd n = 0 ∧ sv_f tb 0 (cn_f T wd 12 0))
theorem m_idem {X : Lay} {w : Wd} {tE tE2 : Nat → Bool} {cnt sz pt rk cnt2 sz2 pt2 rk2 : Int32} {wd st lk wd2 st2 lk2 : Nat → Int32} {tb sp tb2 sp2 : Nat → Int64} : m_w X (m_w X w tE2 cnt2 wd2 sz2 st2 pt2 lk2 tb2 rk2 sp2) tE cnt wd sz st pt lk tb rk sp = m_w X w tE cnt wd sz st pt lk tb rk sp := by
  funext g i
  by_cases hi : i = 0
  · subst hi
    by_cases h20 : g = 20
    · subst h20; rfl
    by_cases h21 : g = 21
    · subst h21; rfl
    by_cases h22 : g = 22
    · subst h22; rfl
    by_cases h23 : g = 23
    · subst h23; rfl
    by_cases h24 : g = 24
    · subst h24; rfl
    by_cases h25 : g = 25
    · subst h25; rfl
    by_cases h26 : g = 26
    · subst h26; rfl
    simp only [m_w, h20, h21, h22, h23, h24, h25, h26, if_true, if_false]
  · simp only [m_w, hi, if_false]
theorem ix2 (x y : Nat) : 64 * nI x + nI y = nI (64 * x + y) := by rw [show (64 : Int32) * nI x = nI (64 * x) from pk_mul 64 x, nI_add]
theorem nz_v {M : Nat → Nat → Nat} {v : Int64} {x y : Nat} (h : v = lN (cp_f (M x y))) : 0 < v ↔ nz_f M x y = true := by
  rw [h, lN_p (cp_le _), cp_ne]
  unfold nz_f
  simp
theorem nz_le {M : Nat → Nat → Nat} {v : Int64} {x y : Nat} (h : v = lN (cp_f (M x y))) (q : lg_cmp v 0 ≤ 0) : nz_f M x y = false := by
  cases hb : nz_f M x y with
  | false => rfl
  | true => exact absurd ((nz_v h).mpr hb) ((lc_le _ _).mp q)
theorem nz_gt {M : Nat → Nat → Nat} {v : Int64} {x y : Nat} (h : v = lN (cp_f (M x y))) (q : ¬ lg_cmp v 0 ≤ 0) : nz_f M x y = true := (nz_v h).mp (Classical.byContradiction (fun z => q ((lc_le _ _).mpr z)))
theorem sb_t {f : Nat → Bool} {k : Nat} (h : f k = true) : nI (sg_f (fun y => if f y then 1 else 0) k) + 1 = nI (sg_f (fun y => if f y then 1 else 0) (k + 1)) := by
  rw [nI_1]
  show _ = nI (sg_f (fun y => if f y then 1 else 0) k + if f k = true then 1 else 0)
  rw [if_pos h]
theorem sb_f {f : Nat → Bool} {k : Nat} (h : f k = false) : nI (sg_f (fun y => if f y then 1 else 0) k) + 0 = nI (sg_f (fun y => if f y then 1 else 0) (k + 1)) := by
  rw [Int32.add_zero]
  show _ = nI (sg_f (fun y => if f y then 1 else 0) k + if f k = true then 1 else 0)
  rw [if_neg (by rw [h]; decide)]
  rfl
theorem sg_flat (g : Nat → Nat → Nat) : ∀ n : Nat, sg_f (fun k => g (k / 64) (k % 64)) (64 * n) = sg_f (fun x => sg_f (fun y => g x y) 64) n
  | 0 => rfl
  | n + 1 => by
    rw [show 64 * (n + 1) = 64 * n + 64 by omega, sg_split, sg_flat g n]
    show _ = sg_f (fun x => sg_f (fun y => g x y) 64) n + sg_f (fun y => g n y) 64
    congr 1
    refine sg_congr (fun i hi => ?_)
    rw [show (64 * n + i) / 64 = n by omega, show (64 * n + i) % 64 = i by omega]
set_option maxHeartbeats 4000000 in
set_option maxRecDepth 100000 in
theorem k_MO_times (l : Launch) {X : Lay} (hI : pw_I X) (hX : Dm X) (w : Wd) {T : Nat → Nat → Int64} {cnt : Int32} {wd : Nat → Int32} {n : Nat} (hst : mo_st X w T cnt wd n) (a b : Int32) : CtL l y_MO_times (pw_ws y_MO_times c_MO_times 3 (some .long)) { frames := 3, cells := 0, slots := 0, locals := 76 } X w [.ref (pw_a X 20 0), .int a, .int b] (fun r w1 => (∀ g, (g < 20 ∨ 26 < g) → w1 g = w g) ∧ mo_st X w1 T cnt wd n ∧ ((¬ (is_n a 64 ∧ is_n b 64) ∧ r = -1) ∨ (is_n a 64 ∧ is_n b 64 ∧ ¬ lk_f wd n = 0 ∧ r = -2) ∨ (lk_f wd n = 0 ∧ ∃ i j, i < 64 ∧ j < 64 ∧ a = nI i ∧ b = nI j ∧ r = lN (cp_f (cn_f T wd 12 0 i j))))) := by
  have hst0 := hst
  obtain ⟨tE, st, pt, lk, tb, rk, sp, hmw, hn, hTE, hrk⟩ := hst
  refine pw_open (by decide) hI [some (.ref (pw_a X 20 0)), some (.int a), some (.int b)] rfl (Nat.le_of_ble_eq_true rfl) ?_
  intro zp ze zs zm za zb zt zc hargs C zr zk hnm
  refine pw_iload_n C d_MO_times_0 rfl ?_
  refine pw_callSi C (k_MO_isPoint l hI _ a) ⟨pw_cb C 1 W_384 W_6 W_382 ⟨rfl, rfl⟩ (by decide +kernel) ⟨(Nat.le_of_ble_eq_true rfl), (Nat.le_of_ble_eq_true rfl)⟩, pw_w C W_383⟩ rfl rfl (Nat.le_of_ble_eq_true rfl) d_MO_times_1 ⟨Nat.zero_le _, Nat.zero_le _⟩ (fun rp w9 ha => ?_)
  obtain ⟨e9, ha⟩ := ha
  refine MW.world e9 ?_
  refine pw_if_eq C 14 d_MO_times_4 (by decide) (fun h4 => ?_) (fun h4 => ?_)
  · refine pw_ldc2_w C d_MO_times_14 (v := -1) W_415 ?_
    refine pw_lret C zr zk d_MO_times_17 ?_
    exact ⟨fun g _ => rfl, hst0, Or.inl ⟨fun q => yn_f ha h4 q.1, rfl⟩⟩
  · refine pw_iload_n C d_MO_times_7 rfl ?_
    refine pw_callSi C (k_MO_isPoint l hI _ b) ⟨pw_cb C 1 W_384 W_6 W_382 ⟨rfl, rfl⟩ (by decide +kernel) ⟨(Nat.le_of_ble_eq_true rfl), (Nat.le_of_ble_eq_true rfl)⟩, pw_w C W_383⟩ rfl rfl (Nat.le_of_ble_eq_true rfl) d_MO_times_8 ⟨Nat.zero_le _, Nat.zero_le _⟩ (fun rp w9 hb => ?_)
    obtain ⟨e9, hb⟩ := hb
    refine MW.world e9 ?_
    refine pw_if_ne C 18 d_MO_times_11 (by decide) (fun h11 => ?_) (fun h11 => ?_)
    · refine pw_aload_n C d_MO_times_18 rfl ?_
      refine MW.world hmw.symm ?_
      refine pw_callVi C (k_MO_reckon l hI hX w hn hTE hrk) (hX 20 0 rfl) rfl rfl ⟨pw_cb C 0 W_419 W_6 W_416 ⟨rfl, rfl⟩ (by decide +kernel) ⟨(Nat.le_of_ble_eq_true rfl), (Nat.le_of_ble_eq_true rfl)⟩, pw_w C W_418, pw_w C V_17⟩ rfl rfl (Nat.le_of_ble_eq_true rfl) d_MO_times_19 ⟨Nat.zero_le _, Nat.zero_le _⟩ (fun rj w9 hj => ?_)
      obtain ⟨st1, pt1, lk1, tb1, rk1, sp1, rfl, hj⟩ := hj
      have hfr : ∀ g, (g < 20 ∨ 26 < g) → m_w X w tE cnt wd (nI n) st1 pt1 lk1 tb1 rk1 sp1 g = w g := fun g hg => m_row hg
      have hst1 : mo_st X (m_w X w tE cnt wd (nI n) st1 pt1 lk1 tb1 rk1 sp1) T cnt wd n := by
        refine ⟨tE, st1, pt1, lk1, tb1, rk1, sp1, m_idem, hn, hTE, fun q => ?_⟩
        rcases hj with ⟨-, -, z⟩ | ⟨-, z1, -, z2⟩
        · exact absurd z q
        · exact ⟨z1, z2⟩
      have hjf : rj = 0 → ¬ lk_f wd n = 0 := fun q => by
        rcases hj with ⟨-, z, -⟩ | ⟨z, -⟩
        · exact z
        · rw [q] at z; exact absurd z (by decide)
      have hjt : ¬ rj = 0 → lk_f wd n = 0 ∧ ∀ x, x < 64 → ∀ y, y < 64 → tb1 (64 * x + y) = lN (cp_f (cn_f T wd 12 0 x y)) := fun q => by
        rcases hj with ⟨z, -⟩ | ⟨-, z1, -, z2⟩
        · exact absurd z q
        · exact ⟨z1, fun x hx y hy => by have := z2 x hx y hy; rw [Nat.mul_zero, Nat.zero_add] at this; exact this⟩
      refine pw_if_eq C 39 d_MO_times_22 (by decide) (fun h22 => ?_) (fun h22 => ?_)
      · refine pw_ldc2_w C d_MO_times_39 (v := -2) W_452 ?_
        refine pw_lret C zr zk d_MO_times_42 ?_
        exact ⟨hfr, hst1, Or.inr (Or.inl ⟨yn_t ha h4, yn_t hb h11, hjf h22, rfl⟩)⟩
      · obtain ⟨hl0, hT⟩ := hjt h22
        obtain ⟨i, hi, hai⟩ := yn_t ha h4
        obtain ⟨j, hj2, hbj⟩ := yn_t hb h11
        refine pw_aload_n C d_MO_times_25 rfl ?_
        refine pw_get C d_MO_times_26 (hX 20 0 rfl) rfl 7 rfl rfl (by decide) in_MO W_350 rfl ?_
        refine pw_bipush C d_MO_times_29 (v := 64) (by decide) ?_
        refine pw_iload_n C d_MO_times_31 rfl ?_
        refine pw_imul C d_MO_times_32 ?_
        refine pw_iload_n C d_MO_times_33 rfl ?_
        refine pw_iadd C d_MO_times_34 ?_
        rw [show 64 * a + b = nI (64 * i + j) from by rw [hai, hbj, ix2]]
        refine pw_laldK C d_MO_times_35 (hX 25 0 rfl) rfl (by omega) ?_
        refine pw_goto C 42 d_MO_times_36 (by decide) ?_
        refine pw_lret C zr zk d_MO_times_42 ?_
        exact ⟨hfr, hst1, Or.inr (Or.inr ⟨hl0, i, j, hi, hj2, hai, hbj, hT i hi j hj2⟩)⟩
    · refine pw_ldc2_w C d_MO_times_14 (v := -1) W_415 ?_
      refine pw_lret C zr zk d_MO_times_17 ?_
      exact ⟨fun g _ => rfl, hst0, Or.inl ⟨fun q => yn_f hb h11 q.2, rfl⟩⟩
set_option maxHeartbeats 4000000 in
set_option maxRecDepth 100000 in
theorem k_MO_ends (l : Launch) {X : Lay} (hI : pw_I X) (hX : Dm X) (w : Wd) {T : Nat → Nat → Int64} {cnt : Int32} {wd : Nat → Int32} {n : Nat} (hst : mo_st X w T cnt wd n) (a : Int32) : CtI l y_MO_ends (pw_ws y_MO_ends c_MO_ends 4 (some .int)) { frames := 3, cells := 0, slots := 0, locals := 76 } X w [.ref (pw_a X 20 0), .int a] (fun r w1 => (∀ g, (g < 20 ∨ 26 < g) → w1 g = w g) ∧ mo_st X w1 T cnt wd n ∧ ((¬ is_n a 64 ∧ r = -1) ∨ (is_n a 64 ∧ ¬ lk_f wd n = 0 ∧ r = -2) ∨ (lk_f wd n = 0 ∧ ∃ i, i < 64 ∧ a = nI i ∧ r = nI (sg_f (fun y => if nz_f (cn_f T wd 12 0) i y then 1 else 0) 64)))) := by
  have hst0 := hst
  obtain ⟨tE, st, pt, lk, tb, rk, sp, hmw, hn, hTE, hrk⟩ := hst
  refine pw_open (by decide) hI [some (.ref (pw_a X 20 0)), some (.int a), none, none] rfl (Nat.le_of_ble_eq_true rfl) ?_
  intro zp ze zs zm za zb zt zc hargs C zr zk hnm
  refine pw_iload_n C d_MO_ends_0 rfl ?_
  refine pw_callSi C (k_MO_isPoint l hI _ a) ⟨pw_cb C 1 W_384 W_6 W_382 ⟨rfl, rfl⟩ (by decide +kernel) ⟨(Nat.le_of_ble_eq_true rfl), (Nat.le_of_ble_eq_true rfl)⟩, pw_w C W_383⟩ rfl rfl (Nat.le_of_ble_eq_true rfl) d_MO_ends_1 ⟨Nat.zero_le _, Nat.zero_le _⟩ (fun rp w9 ha => ?_)
  obtain ⟨e9, ha⟩ := ha
  refine MW.world e9 ?_
  refine pw_if_ne C 9 d_MO_ends_4 (by decide) (fun h4 => ?_) (fun h4 => ?_)
  · refine pw_aload_n C d_MO_ends_9 rfl ?_
    refine MW.world hmw.symm ?_
    refine pw_callVi C (k_MO_reckon l hI hX w hn hTE hrk) (hX 20 0 rfl) rfl rfl ⟨pw_cb C 0 W_419 W_6 W_416 ⟨rfl, rfl⟩ (by decide +kernel) ⟨(Nat.le_of_ble_eq_true rfl), (Nat.le_of_ble_eq_true rfl)⟩, pw_w C W_418, pw_w C V_17⟩ rfl rfl (Nat.le_of_ble_eq_true rfl) d_MO_ends_10 ⟨Nat.zero_le _, Nat.zero_le _⟩ (fun rj w9 hj => ?_)
    obtain ⟨st1, pt1, lk1, tb1, rk1, sp1, rfl, hj⟩ := hj
    have hfr : ∀ g, (g < 20 ∨ 26 < g) → m_w X w tE cnt wd (nI n) st1 pt1 lk1 tb1 rk1 sp1 g = w g := fun g hg => m_row hg
    have hst1 : mo_st X (m_w X w tE cnt wd (nI n) st1 pt1 lk1 tb1 rk1 sp1) T cnt wd n := by
      refine ⟨tE, st1, pt1, lk1, tb1, rk1, sp1, m_idem, hn, hTE, fun q => ?_⟩
      rcases hj with ⟨-, -, z⟩ | ⟨-, z1, -, z2⟩
      · exact absurd z q
      · exact ⟨z1, z2⟩
    have hjf : rj = 0 → ¬ lk_f wd n = 0 := fun q => by
      rcases hj with ⟨-, z, -⟩ | ⟨z, -⟩
      · exact z
      · rw [q] at z; exact absurd z (by decide)
    have hjt : ¬ rj = 0 → lk_f wd n = 0 ∧ ∀ x, x < 64 → ∀ y, y < 64 → tb1 (64 * x + y) = lN (cp_f (cn_f T wd 12 0 x y)) := fun q => by
      rcases hj with ⟨z, -⟩ | ⟨-, z1, -, z2⟩
      · exact absurd z q
      · exact ⟨z1, fun x hx y hy => by have := z2 x hx y hy; rw [Nat.mul_zero, Nat.zero_add] at this; exact this⟩
    refine pw_if_ne C 19 d_MO_ends_13 (by decide) (fun h13 => ?_) (fun h13 => ?_)
    · refine pw_iconst C d_MO_ends_19 (v := 0) (by decide) ?_
      refine pw_istore_n C d_MO_ends_20 (by decide) ?_
      refine pw_iconst C d_MO_ends_21 (v := 0) (by decide) ?_
      refine pw_istore_n C d_MO_ends_22 (by decide) ?_
      obtain ⟨hl0, hT⟩ := hjt h13
      obtain ⟨i, hi, hai⟩ := yn_t ha h4
      have L : ∀ d k : Nat, k + d = 64 → MW zp l ze ({ frames := 3, cells := 0, slots := 0, locals := 76 } : Room) zs zm za zb zt zc X 4 0 0 (MQ zb (va_Qi (fun r w1 => (∀ g, (g < 20 ∨ 26 < g) → w1 g = w g) ∧ mo_st X w1 T cnt wd n ∧ ((¬ is_n a 64 ∧ r = -1) ∨ (is_n a 64 ∧ ¬ lk_f wd n = 0 ∧ r = -2) ∨ (lk_f wd n = 0 ∧ ∃ i, i < 64 ∧ a = nI i ∧ r = nI (sg_f (fun y => if nz_f (cn_f T wd 12 0) i y then 1 else 0) 64)))) (pw_B X) (pw_F X)) za zs 0 0 (pw_F X)) (m_w X w tE cnt wd (nI n) st1 pt1 lk1 tb1 rk1 sp1) 23 [some (.ref (pw_a X 20 0)), some (.int a), some (.int (nI (sg_f (fun y => if nz_f (cn_f T wd 12 0) i y then 1 else 0) k))), some (.int (nI k))] [] := by
        intro d
        induction d with
        | zero =>
          intro k hkd
          have hk64 : k = 64 := by omega
          subst hk64
          refine pw_iload_n C d_MO_ends_23 rfl ?_
          refine pw_bipush C d_MO_ends_24 (v := 64) (by decide) ?_
          refine pw_icmp_ge C 59 d_MO_ends_26 (by decide) (fun h26 => ?_) (fun h26 => ?_)
          · refine pw_iload_n C d_MO_ends_59 rfl ?_
            refine pw_iret C zr zk d_MO_ends_60 ?_
            exact ⟨hfr, hst1, Or.inr (Or.inr ⟨hl0, i, hi, hai, rfl⟩)⟩
          · exact absurd (nI_le (a := 64) (b := 64) (by omega) (by omega)) h26
        | succ d ih =>
          intro k hkd
          have hk : k < 64 := by omega
          refine pw_iload_n C d_MO_ends_23 rfl ?_
          refine pw_bipush C d_MO_ends_24 (v := 64) (by decide) ?_
          refine pw_icmp_ge C 59 d_MO_ends_26 (by decide) (fun h26 => ?_) (fun h26 => ?_)
          · exact absurd ((nI_leI (a := 64) (by decide) (by omega)).mp h26) (by omega)
          refine pw_iload_n C d_MO_ends_29 rfl ?_
          refine pw_aload_n C d_MO_ends_30 rfl ?_
          refine pw_get C d_MO_ends_31 (hX 20 0 rfl) rfl 7 rfl rfl (by decide) in_MO W_350 rfl ?_
          refine pw_bipush C d_MO_ends_34 (v := 64) (by decide) ?_
          refine pw_iload_n C d_MO_ends_36 rfl ?_
          refine pw_imul C d_MO_ends_37 ?_
          refine pw_iload_n C d_MO_ends_38 rfl ?_
          refine pw_iadd C d_MO_ends_39 ?_
          rw [show 64 * a + nI k = nI (64 * i + k) from by rw [hai, ix2]]
          refine pw_laldK C d_MO_ends_40 (hX 25 0 rfl) rfl (by omega) ?_
          refine pw_lconst C d_MO_ends_41 (v := 0) (by decide) ?_
          refine pw_lcmp C d_MO_ends_42 ?_
          refine pw_if_le C 50 d_MO_ends_43 (by decide) (fun h43 => ?_) (fun h43 => ?_)
          · refine pw_iconst C d_MO_ends_50 (v := 0) (by decide) ?_
            refine pw_iadd C d_MO_ends_51 ?_
            refine pw_istore_n C d_MO_ends_52 (by decide) ?_
            refine pw_iinc1 C d_MO_ends_53 rfl (by decide) ?_
            refine pw_goto C 23 d_MO_ends_56 (by decide) ?_
            rw [sb_f (f := fun y => nz_f (cn_f T wd 12 0) i y) (nz_le (hT i hi k hk) h43)]
            exact ih (k + 1) (by omega)
          · refine pw_iconst C d_MO_ends_46 (v := 1) (by decide) ?_
            refine pw_goto C 51 d_MO_ends_47 (by decide) ?_
            refine pw_iadd C d_MO_ends_51 ?_
            refine pw_istore_n C d_MO_ends_52 (by decide) ?_
            refine pw_iinc1 C d_MO_ends_53 rfl (by decide) ?_
            refine pw_goto C 23 d_MO_ends_56 (by decide) ?_
            rw [sb_t (f := fun y => nz_f (cn_f T wd 12 0) i y) (nz_gt (hT i hi k hk) h43)]
            exact ih (k + 1) (by omega)
      exact L 64 0 rfl
    · refine pw_bipush C d_MO_ends_16 (v := -2) (by decide) ?_
      refine pw_iret C zr zk d_MO_ends_18 ?_
      exact ⟨hfr, hst1, Or.inr (Or.inl ⟨yn_t ha h4, hjf h13, rfl⟩)⟩
  · refine pw_iconst C d_MO_ends_7 (v := -1) (by decide) ?_
    refine pw_iret C zr zk d_MO_ends_8 ?_
    exact ⟨fun g _ => rfl, hst0, Or.inl ⟨yn_f ha h4, rfl⟩⟩
set_option maxHeartbeats 4000000 in
set_option maxRecDepth 100000 in
theorem k_MO_reached (l : Launch) {X : Lay} (hI : pw_I X) (hX : Dm X) (w : Wd) {T : Nat → Nat → Int64} {cnt : Int32} {wd : Nat → Int32} {n : Nat} (hst : mo_st X w T cnt wd n) (a : Int32) : CtL l y_MO_reached (pw_ws y_MO_reached c_MO_reached 5 (some .long)) { frames := 3, cells := 0, slots := 0, locals := 76 } X w [.ref (pw_a X 20 0), .int a] (fun r w1 => (∀ g, (g < 20 ∨ 26 < g) → w1 g = w g) ∧ mo_st X w1 T cnt wd n ∧ ((¬ (lk_f wd n = 0 ∧ is_n a 64) ∧ r = 0) ∨ (lk_f wd n = 0 ∧ ∃ i, i < 64 ∧ a = nI i ∧ ∀ x, x < 64 → bt_f r x = nz_f (cn_f T wd 12 0) i x))) := by
  have hst0 := hst
  obtain ⟨tE, st, pt, lk, tb, rk, sp, hmw, hn, hTE, hrk⟩ := hst
  refine pw_open (by decide) hI [some (.ref (pw_a X 20 0)), some (.int a), none, none, none] rfl (Nat.le_of_ble_eq_true rfl) ?_
  intro zp ze zs zm za zb zt zc hargs C zr zk hnm
  refine pw_iload_n C d_MO_reached_0 rfl ?_
  refine pw_callSi C (k_MO_isPoint l hI _ a) ⟨pw_cb C 1 W_384 W_6 W_382 ⟨rfl, rfl⟩ (by decide +kernel) ⟨(Nat.le_of_ble_eq_true rfl), (Nat.le_of_ble_eq_true rfl)⟩, pw_w C W_383⟩ rfl rfl (Nat.le_of_ble_eq_true rfl) d_MO_reached_1 ⟨Nat.zero_le _, Nat.zero_le _⟩ (fun rp w9 ha => ?_)
  obtain ⟨e9, ha⟩ := ha
  refine MW.world e9 ?_
  refine pw_if_eq C 14 d_MO_reached_4 (by decide) (fun h4 => ?_) (fun h4 => ?_)
  · refine pw_lconst C d_MO_reached_14 (v := 0) (by decide) ?_
    refine pw_lret C zr zk d_MO_reached_15 ?_
    exact ⟨fun g _ => rfl, hst0, Or.inl ⟨fun q => yn_f ha h4 q.2, rfl⟩⟩
  · refine pw_aload_n C d_MO_reached_7 rfl ?_
    refine MW.world hmw.symm ?_
    refine pw_callVi C (k_MO_reckon l hI hX w hn hTE hrk) (hX 20 0 rfl) rfl rfl ⟨pw_cb C 0 W_419 W_6 W_416 ⟨rfl, rfl⟩ (by decide +kernel) ⟨(Nat.le_of_ble_eq_true rfl), (Nat.le_of_ble_eq_true rfl)⟩, pw_w C W_418, pw_w C V_17⟩ rfl rfl (Nat.le_of_ble_eq_true rfl) d_MO_reached_8 ⟨Nat.zero_le _, Nat.zero_le _⟩ (fun rj w9 hj => ?_)
    obtain ⟨st1, pt1, lk1, tb1, rk1, sp1, rfl, hj⟩ := hj
    have hfr : ∀ g, (g < 20 ∨ 26 < g) → m_w X w tE cnt wd (nI n) st1 pt1 lk1 tb1 rk1 sp1 g = w g := fun g hg => m_row hg
    have hst1 : mo_st X (m_w X w tE cnt wd (nI n) st1 pt1 lk1 tb1 rk1 sp1) T cnt wd n := by
      refine ⟨tE, st1, pt1, lk1, tb1, rk1, sp1, m_idem, hn, hTE, fun q => ?_⟩
      rcases hj with ⟨-, -, z⟩ | ⟨-, z1, -, z2⟩
      · exact absurd z q
      · exact ⟨z1, z2⟩
    have hjf : rj = 0 → ¬ lk_f wd n = 0 := fun q => by
      rcases hj with ⟨-, z, -⟩ | ⟨z, -⟩
      · exact z
      · rw [q] at z; exact absurd z (by decide)
    have hjt : ¬ rj = 0 → lk_f wd n = 0 ∧ ∀ x, x < 64 → ∀ y, y < 64 → tb1 (64 * x + y) = lN (cp_f (cn_f T wd 12 0 x y)) := fun q => by
      rcases hj with ⟨z, -⟩ | ⟨-, z1, -, z2⟩
      · exact absurd z q
      · exact ⟨z1, fun x hx y hy => by have := z2 x hx y hy; rw [Nat.mul_zero, Nat.zero_add] at this; exact this⟩
    refine pw_if_ne C 16 d_MO_reached_11 (by decide) (fun h11 => ?_) (fun h11 => ?_)
    · refine pw_lconst C d_MO_reached_16 (v := 0) (by decide) ?_
      refine pw_lstore_n C d_MO_reached_17 (by decide) ?_
      refine pw_iconst C d_MO_reached_18 (v := 0) (by decide) ?_
      refine pw_istore C d_MO_reached_19 (by decide) ?_
      obtain ⟨hl0, hT⟩ := hjt h11
      obtain ⟨i, hi, hai⟩ := yn_t ha h4
      have L : ∀ d k : Nat, k + d = 64 → ∀ v : Int64, (∀ x, x < 64 → bt_f v x = (decide (x < k) && nz_f (cn_f T wd 12 0) i x)) → MW zp l ze ({ frames := 3, cells := 0, slots := 0, locals := 76 } : Room) zs zm za zb zt zc X 5 0 0 (MQ zb (va_Ql (fun r w1 => (∀ g, (g < 20 ∨ 26 < g) → w1 g = w g) ∧ mo_st X w1 T cnt wd n ∧ ((¬ (lk_f wd n = 0 ∧ is_n a 64) ∧ r = 0) ∨ (lk_f wd n = 0 ∧ ∃ i, i < 64 ∧ a = nI i ∧ ∀ x, x < 64 → bt_f r x = nz_f (cn_f T wd 12 0) i x))) (pw_B X) (pw_F X)) za zs 0 0 (pw_F X)) (m_w X w tE cnt wd (nI n) st1 pt1 lk1 tb1 rk1 sp1) 21 [some (.ref (pw_a X 20 0)), some (.int a), some (.long v), none, some (.int (nI k))] [] := by
        intro d
        induction d with
        | zero =>
          intro k hkd v hv
          have hk64 : k = 64 := by omega
          subst hk64
          refine pw_iload C d_MO_reached_21 rfl ?_
          refine pw_bipush C d_MO_reached_23 (v := 64) (by decide) ?_
          refine pw_icmp_ge C 62 d_MO_reached_25 (by decide) (fun h25 => ?_) (fun h25 => ?_)
          · refine pw_lload_n C d_MO_reached_62 rfl ?_
            refine pw_lret C zr zk d_MO_reached_63 ?_
            refine ⟨hfr, hst1, Or.inr ⟨hl0, i, hi, hai, fun x hx => ?_⟩⟩
            rw [hv x hx]
            simp [hx]
          · exact absurd (nI_le (a := 64) (b := 64) (by omega) (by omega)) h25
        | succ d ih =>
          intro k hkd v hv
          have hk : k < 64 := by omega
          refine pw_iload C d_MO_reached_21 rfl ?_
          refine pw_bipush C d_MO_reached_23 (v := 64) (by decide) ?_
          refine pw_icmp_ge C 62 d_MO_reached_25 (by decide) (fun h25 => ?_) (fun h25 => ?_)
          · exact absurd ((nI_leI (a := 64) (by decide) (by omega)).mp h25) (by omega)
          refine pw_lload_n C d_MO_reached_28 rfl ?_
          refine pw_aload_n C d_MO_reached_29 rfl ?_
          refine pw_get C d_MO_reached_30 (hX 20 0 rfl) rfl 7 rfl rfl (by decide) in_MO W_350 rfl ?_
          refine pw_bipush C d_MO_reached_33 (v := 64) (by decide) ?_
          refine pw_iload_n C d_MO_reached_35 rfl ?_
          refine pw_imul C d_MO_reached_36 ?_
          refine pw_iload C d_MO_reached_37 rfl ?_
          refine pw_iadd C d_MO_reached_39 ?_
          rw [show 64 * a + nI k = nI (64 * i + k) from by rw [hai, ix2]]
          refine pw_laldK C d_MO_reached_40 (hX 25 0 rfl) rfl (by omega) ?_
          refine pw_lconst C d_MO_reached_41 (v := 0) (by decide) ?_
          refine pw_lcmp C d_MO_reached_42 ?_
          refine pw_if_le C 53 d_MO_reached_43 (by decide) (fun h43 => ?_) (fun h43 => ?_)
          · refine pw_lconst C d_MO_reached_53 (v := 0) (by decide) ?_
            refine pw_lor C d_MO_reached_54 ?_
            refine pw_lstore_n C d_MO_reached_55 (by decide) ?_
            refine pw_iinc1 C d_MO_reached_56 rfl (by decide) ?_
            refine pw_goto C 21 d_MO_reached_59 (by decide) ?_
            refine ih (k + 1) (by omega) _ (fun x hx => ?_)
            have hz : nz_f (cn_f T wd 12 0) i k = false := nz_le (hT i hi k hk) h43
            rw [bt_or, bt_0, hv x hx]
            by_cases q : x = k
            · subst q
              simp [hz]
            · by_cases q2 : x < k
              · have q3 : x < k + 1 := by omega
                simp [q, q2, q3]
              · have q3 : ¬ x < k + 1 := by omega
                simp [q, q2, q3]
          · refine pw_lconst C d_MO_reached_46 (v := 1) (by decide) ?_
            refine pw_iload C d_MO_reached_47 rfl ?_
            refine pw_lshl C d_MO_reached_49 ?_
            refine pw_goto C 54 d_MO_reached_50 (by decide) ?_
            refine pw_lor C d_MO_reached_54 ?_
            refine pw_lstore_n C d_MO_reached_55 (by decide) ?_
            refine pw_iinc1 C d_MO_reached_56 rfl (by decide) ?_
            refine pw_goto C 21 d_MO_reached_59 (by decide) ?_
            refine ih (k + 1) (by omega) _ (fun x hx => ?_)
            have hz : nz_f (cn_f T wd 12 0) i k = true := nz_gt (hT i hi k hk) h43
            rw [bt_or, bt_bit hk, hv x hx]
            by_cases q : x = k
            · subst q
              simp [hz]
            · by_cases q2 : x < k
              · have q3 : x < k + 1 := by omega
                simp [q, q2, q3]
              · have q3 : ¬ x < k + 1 := by omega
                simp [q, q2, q3]
      exact L 64 0 rfl 0 (fun x hx => by rw [bt_0]; simp)
    · refine pw_lconst C d_MO_reached_14 (v := 0) (by decide) ?_
      refine pw_lret C zr zk d_MO_reached_15 ?_
      exact ⟨hfr, hst1, Or.inl ⟨fun q => hjf h11 q.1, rfl⟩⟩
set_option maxHeartbeats 4000000 in
set_option maxRecDepth 100000 in
theorem k_MO_reaching (l : Launch) {X : Lay} (hI : pw_I X) (hX : Dm X) (w : Wd) {T : Nat → Nat → Int64} {cnt : Int32} {wd : Nat → Int32} {n : Nat} (hst : mo_st X w T cnt wd n) (a : Int32) : CtL l y_MO_reaching (pw_ws y_MO_reaching c_MO_reaching 5 (some .long)) { frames := 3, cells := 0, slots := 0, locals := 76 } X w [.ref (pw_a X 20 0), .int a] (fun r w1 => (∀ g, (g < 20 ∨ 26 < g) → w1 g = w g) ∧ mo_st X w1 T cnt wd n ∧ ((¬ (lk_f wd n = 0 ∧ is_n a 64) ∧ r = 0) ∨ (lk_f wd n = 0 ∧ ∃ i, i < 64 ∧ a = nI i ∧ ∀ x, x < 64 → bt_f r x = nz_f (cn_f T wd 12 0) x i))) := by
  have hst0 := hst
  obtain ⟨tE, st, pt, lk, tb, rk, sp, hmw, hn, hTE, hrk⟩ := hst
  refine pw_open (by decide) hI [some (.ref (pw_a X 20 0)), some (.int a), none, none, none] rfl (Nat.le_of_ble_eq_true rfl) ?_
  intro zp ze zs zm za zb zt zc hargs C zr zk hnm
  refine pw_iload_n C d_MO_reaching_0 rfl ?_
  refine pw_callSi C (k_MO_isPoint l hI _ a) ⟨pw_cb C 1 W_384 W_6 W_382 ⟨rfl, rfl⟩ (by decide +kernel) ⟨(Nat.le_of_ble_eq_true rfl), (Nat.le_of_ble_eq_true rfl)⟩, pw_w C W_383⟩ rfl rfl (Nat.le_of_ble_eq_true rfl) d_MO_reaching_1 ⟨Nat.zero_le _, Nat.zero_le _⟩ (fun rp w9 ha => ?_)
  obtain ⟨e9, ha⟩ := ha
  refine MW.world e9 ?_
  refine pw_if_eq C 14 d_MO_reaching_4 (by decide) (fun h4 => ?_) (fun h4 => ?_)
  · refine pw_lconst C d_MO_reaching_14 (v := 0) (by decide) ?_
    refine pw_lret C zr zk d_MO_reaching_15 ?_
    exact ⟨fun g _ => rfl, hst0, Or.inl ⟨fun q => yn_f ha h4 q.2, rfl⟩⟩
  · refine pw_aload_n C d_MO_reaching_7 rfl ?_
    refine MW.world hmw.symm ?_
    refine pw_callVi C (k_MO_reckon l hI hX w hn hTE hrk) (hX 20 0 rfl) rfl rfl ⟨pw_cb C 0 W_419 W_6 W_416 ⟨rfl, rfl⟩ (by decide +kernel) ⟨(Nat.le_of_ble_eq_true rfl), (Nat.le_of_ble_eq_true rfl)⟩, pw_w C W_418, pw_w C V_17⟩ rfl rfl (Nat.le_of_ble_eq_true rfl) d_MO_reaching_8 ⟨Nat.zero_le _, Nat.zero_le _⟩ (fun rj w9 hj => ?_)
    obtain ⟨st1, pt1, lk1, tb1, rk1, sp1, rfl, hj⟩ := hj
    have hfr : ∀ g, (g < 20 ∨ 26 < g) → m_w X w tE cnt wd (nI n) st1 pt1 lk1 tb1 rk1 sp1 g = w g := fun g hg => m_row hg
    have hst1 : mo_st X (m_w X w tE cnt wd (nI n) st1 pt1 lk1 tb1 rk1 sp1) T cnt wd n := by
      refine ⟨tE, st1, pt1, lk1, tb1, rk1, sp1, m_idem, hn, hTE, fun q => ?_⟩
      rcases hj with ⟨-, -, z⟩ | ⟨-, z1, -, z2⟩
      · exact absurd z q
      · exact ⟨z1, z2⟩
    have hjf : rj = 0 → ¬ lk_f wd n = 0 := fun q => by
      rcases hj with ⟨-, z, -⟩ | ⟨z, -⟩
      · exact z
      · rw [q] at z; exact absurd z (by decide)
    have hjt : ¬ rj = 0 → lk_f wd n = 0 ∧ ∀ x, x < 64 → ∀ y, y < 64 → tb1 (64 * x + y) = lN (cp_f (cn_f T wd 12 0 x y)) := fun q => by
      rcases hj with ⟨z, -⟩ | ⟨-, z1, -, z2⟩
      · exact absurd z q
      · exact ⟨z1, fun x hx y hy => by have := z2 x hx y hy; rw [Nat.mul_zero, Nat.zero_add] at this; exact this⟩
    refine pw_if_ne C 16 d_MO_reaching_11 (by decide) (fun h11 => ?_) (fun h11 => ?_)
    · refine pw_lconst C d_MO_reaching_16 (v := 0) (by decide) ?_
      refine pw_lstore_n C d_MO_reaching_17 (by decide) ?_
      refine pw_iconst C d_MO_reaching_18 (v := 0) (by decide) ?_
      refine pw_istore C d_MO_reaching_19 (by decide) ?_
      obtain ⟨hl0, hT⟩ := hjt h11
      obtain ⟨i, hi, hai⟩ := yn_t ha h4
      have L : ∀ d k : Nat, k + d = 64 → ∀ v : Int64, (∀ x, x < 64 → bt_f v x = (decide (x < k) && nz_f (cn_f T wd 12 0) x i)) → MW zp l ze ({ frames := 3, cells := 0, slots := 0, locals := 76 } : Room) zs zm za zb zt zc X 5 0 0 (MQ zb (va_Ql (fun r w1 => (∀ g, (g < 20 ∨ 26 < g) → w1 g = w g) ∧ mo_st X w1 T cnt wd n ∧ ((¬ (lk_f wd n = 0 ∧ is_n a 64) ∧ r = 0) ∨ (lk_f wd n = 0 ∧ ∃ i, i < 64 ∧ a = nI i ∧ ∀ x, x < 64 → bt_f r x = nz_f (cn_f T wd 12 0) x i))) (pw_B X) (pw_F X)) za zs 0 0 (pw_F X)) (m_w X w tE cnt wd (nI n) st1 pt1 lk1 tb1 rk1 sp1) 21 [some (.ref (pw_a X 20 0)), some (.int a), some (.long v), none, some (.int (nI k))] [] := by
        intro d
        induction d with
        | zero =>
          intro k hkd v hv
          have hk64 : k = 64 := by omega
          subst hk64
          refine pw_iload C d_MO_reaching_21 rfl ?_
          refine pw_bipush C d_MO_reaching_23 (v := 64) (by decide) ?_
          refine pw_icmp_ge C 62 d_MO_reaching_25 (by decide) (fun h25 => ?_) (fun h25 => ?_)
          · refine pw_lload_n C d_MO_reaching_62 rfl ?_
            refine pw_lret C zr zk d_MO_reaching_63 ?_
            refine ⟨hfr, hst1, Or.inr ⟨hl0, i, hi, hai, fun x hx => ?_⟩⟩
            rw [hv x hx]
            simp [hx]
          · exact absurd (nI_le (a := 64) (b := 64) (by omega) (by omega)) h25
        | succ d ih =>
          intro k hkd v hv
          have hk : k < 64 := by omega
          refine pw_iload C d_MO_reaching_21 rfl ?_
          refine pw_bipush C d_MO_reaching_23 (v := 64) (by decide) ?_
          refine pw_icmp_ge C 62 d_MO_reaching_25 (by decide) (fun h25 => ?_) (fun h25 => ?_)
          · exact absurd ((nI_leI (a := 64) (by decide) (by omega)).mp h25) (by omega)
          refine pw_lload_n C d_MO_reaching_28 rfl ?_
          refine pw_aload_n C d_MO_reaching_29 rfl ?_
          refine pw_get C d_MO_reaching_30 (hX 20 0 rfl) rfl 7 rfl rfl (by decide) in_MO W_350 rfl ?_
          refine pw_bipush C d_MO_reaching_33 (v := 64) (by decide) ?_
          refine pw_iload C d_MO_reaching_35 rfl ?_
          refine pw_imul C d_MO_reaching_37 ?_
          refine pw_iload_n C d_MO_reaching_38 rfl ?_
          refine pw_iadd C d_MO_reaching_39 ?_
          rw [show 64 * nI k + a = nI (64 * k + i) from by rw [hai, ix2]]
          refine pw_laldK C d_MO_reaching_40 (hX 25 0 rfl) rfl (by omega) ?_
          refine pw_lconst C d_MO_reaching_41 (v := 0) (by decide) ?_
          refine pw_lcmp C d_MO_reaching_42 ?_
          refine pw_if_le C 53 d_MO_reaching_43 (by decide) (fun h43 => ?_) (fun h43 => ?_)
          · refine pw_lconst C d_MO_reaching_53 (v := 0) (by decide) ?_
            refine pw_lor C d_MO_reaching_54 ?_
            refine pw_lstore_n C d_MO_reaching_55 (by decide) ?_
            refine pw_iinc1 C d_MO_reaching_56 rfl (by decide) ?_
            refine pw_goto C 21 d_MO_reaching_59 (by decide) ?_
            refine ih (k + 1) (by omega) _ (fun x hx => ?_)
            have hz : nz_f (cn_f T wd 12 0) k i = false := nz_le (hT k hk i hi) h43
            rw [bt_or, bt_0, hv x hx]
            by_cases q : x = k
            · subst q
              simp [hz]
            · by_cases q2 : x < k
              · have q3 : x < k + 1 := by omega
                simp [q, q2, q3]
              · have q3 : ¬ x < k + 1 := by omega
                simp [q, q2, q3]
          · refine pw_lconst C d_MO_reaching_46 (v := 1) (by decide) ?_
            refine pw_iload C d_MO_reaching_47 rfl ?_
            refine pw_lshl C d_MO_reaching_49 ?_
            refine pw_goto C 54 d_MO_reaching_50 (by decide) ?_
            refine pw_lor C d_MO_reaching_54 ?_
            refine pw_lstore_n C d_MO_reaching_55 (by decide) ?_
            refine pw_iinc1 C d_MO_reaching_56 rfl (by decide) ?_
            refine pw_goto C 21 d_MO_reaching_59 (by decide) ?_
            refine ih (k + 1) (by omega) _ (fun x hx => ?_)
            have hz : nz_f (cn_f T wd 12 0) k i = true := nz_gt (hT k hk i hi) h43
            rw [bt_or, bt_bit hk, hv x hx]
            by_cases q : x = k
            · subst q
              simp [hz]
            · by_cases q2 : x < k
              · have q3 : x < k + 1 := by omega
                simp [q, q2, q3]
              · have q3 : ¬ x < k + 1 := by omega
                simp [q, q2, q3]
      exact L 64 0 rfl 0 (fun x hx => by rw [bt_0]; simp)
    · refine pw_lconst C d_MO_reaching_14 (v := 0) (by decide) ?_
      refine pw_lret C zr zk d_MO_reaching_15 ?_
      exact ⟨hfr, hst1, Or.inl ⟨fun q => hjf h11 q.1, rfl⟩⟩
set_option maxHeartbeats 4000000 in
set_option maxRecDepth 100000 in
theorem k_MO_all (l : Launch) {X : Lay} (hI : pw_I X) (hX : Dm X) (w : Wd) {T : Nat → Nat → Int64} {cnt : Int32} {wd : Nat → Int32} {n : Nat} (hst : mo_st X w T cnt wd n) (a : Int32) : CtL l y_MO_all (pw_ws y_MO_all c_MO_all 5 (some .long)) { frames := 3, cells := 0, slots := 0, locals := 76 } X w [.ref (pw_a X 20 0), .int a] (fun r w1 => (∀ g, (g < 20 ∨ 26 < g) → w1 g = w g) ∧ mo_st X w1 T cnt wd n ∧ ((¬ is_n a 64 ∧ r = -1) ∨ (is_n a 64 ∧ ¬ lk_f wd n = 0 ∧ r = -2) ∨ (lk_f wd n = 0 ∧ ∃ i, i < 64 ∧ a = nI i ∧ r = lN (cp_f (sg_f (fun y => cn_f T wd 12 0 i y) 64))))) := by
  have hst0 := hst
  obtain ⟨tE, st, pt, lk, tb, rk, sp, hmw, hn, hTE, hrk⟩ := hst
  refine pw_open (by decide) hI [some (.ref (pw_a X 20 0)), some (.int a), none, none, none] rfl (Nat.le_of_ble_eq_true rfl) ?_
  intro zp ze zs zm za zb zt zc hargs C zr zk hnm
  refine pw_iload_n C d_MO_all_0 rfl ?_
  refine pw_callSi C (k_MO_isPoint l hI _ a) ⟨pw_cb C 1 W_384 W_6 W_382 ⟨rfl, rfl⟩ (by decide +kernel) ⟨(Nat.le_of_ble_eq_true rfl), (Nat.le_of_ble_eq_true rfl)⟩, pw_w C W_383⟩ rfl rfl (Nat.le_of_ble_eq_true rfl) d_MO_all_1 ⟨Nat.zero_le _, Nat.zero_le _⟩ (fun rp w9 ha => ?_)
  obtain ⟨e9, ha⟩ := ha
  refine MW.world e9 ?_
  refine pw_if_ne C 11 d_MO_all_4 (by decide) (fun h4 => ?_) (fun h4 => ?_)
  · refine pw_aload_n C d_MO_all_11 rfl ?_
    refine MW.world hmw.symm ?_
    refine pw_callVi C (k_MO_reckon l hI hX w hn hTE hrk) (hX 20 0 rfl) rfl rfl ⟨pw_cb C 0 W_419 W_6 W_416 ⟨rfl, rfl⟩ (by decide +kernel) ⟨(Nat.le_of_ble_eq_true rfl), (Nat.le_of_ble_eq_true rfl)⟩, pw_w C W_418, pw_w C V_17⟩ rfl rfl (Nat.le_of_ble_eq_true rfl) d_MO_all_12 ⟨Nat.zero_le _, Nat.zero_le _⟩ (fun rj w9 hj => ?_)
    obtain ⟨st1, pt1, lk1, tb1, rk1, sp1, rfl, hj⟩ := hj
    have hfr : ∀ g, (g < 20 ∨ 26 < g) → m_w X w tE cnt wd (nI n) st1 pt1 lk1 tb1 rk1 sp1 g = w g := fun g hg => m_row hg
    have hst1 : mo_st X (m_w X w tE cnt wd (nI n) st1 pt1 lk1 tb1 rk1 sp1) T cnt wd n := by
      refine ⟨tE, st1, pt1, lk1, tb1, rk1, sp1, m_idem, hn, hTE, fun q => ?_⟩
      rcases hj with ⟨-, -, z⟩ | ⟨-, z1, -, z2⟩
      · exact absurd z q
      · exact ⟨z1, z2⟩
    have hjf : rj = 0 → ¬ lk_f wd n = 0 := fun q => by
      rcases hj with ⟨-, z, -⟩ | ⟨z, -⟩
      · exact z
      · rw [q] at z; exact absurd z (by decide)
    have hjt : ¬ rj = 0 → lk_f wd n = 0 ∧ ∀ x, x < 64 → ∀ y, y < 64 → tb1 (64 * x + y) = lN (cp_f (cn_f T wd 12 0 x y)) := fun q => by
      rcases hj with ⟨z, -⟩ | ⟨-, z1, -, z2⟩
      · exact absurd z q
      · exact ⟨z1, fun x hx y hy => by have := z2 x hx y hy; rw [Nat.mul_zero, Nat.zero_add] at this; exact this⟩
    refine pw_if_ne C 22 d_MO_all_15 (by decide) (fun h15 => ?_) (fun h15 => ?_)
    · refine pw_lconst C d_MO_all_22 (v := 0) (by decide) ?_
      refine pw_lstore_n C d_MO_all_23 (by decide) ?_
      refine pw_iconst C d_MO_all_24 (v := 0) (by decide) ?_
      refine pw_istore C d_MO_all_25 (by decide) ?_
      obtain ⟨hl0, hT⟩ := hjt h15
      obtain ⟨i, hi, hai⟩ := yn_t ha h4
      have L : ∀ d k : Nat, k + d = 64 → MW zp l ze ({ frames := 3, cells := 0, slots := 0, locals := 76 } : Room) zs zm za zb zt zc X 5 0 0 (MQ zb (va_Ql (fun r w1 => (∀ g, (g < 20 ∨ 26 < g) → w1 g = w g) ∧ mo_st X w1 T cnt wd n ∧ ((¬ is_n a 64 ∧ r = -1) ∨ (is_n a 64 ∧ ¬ lk_f wd n = 0 ∧ r = -2) ∨ (lk_f wd n = 0 ∧ ∃ i, i < 64 ∧ a = nI i ∧ r = lN (cp_f (sg_f (fun y => cn_f T wd 12 0 i y) 64))))) (pw_B X) (pw_F X)) za zs 0 0 (pw_F X)) (m_w X w tE cnt wd (nI n) st1 pt1 lk1 tb1 rk1 sp1) 27 [some (.ref (pw_a X 20 0)), some (.int a), some (.long (lN (cp_f (sg_f (fun y => cn_f T wd 12 0 i y) k)))), none, some (.int (nI k))] [] := by
        intro d
        induction d with
        | zero =>
          intro k hkd
          have hk64 : k = 64 := by omega
          subst hk64
          refine pw_iload C d_MO_all_27 rfl ?_
          refine pw_bipush C d_MO_all_29 (v := 64) (by decide) ?_
          refine pw_icmp_ge C 58 d_MO_all_31 (by decide) (fun h31 => ?_) (fun h31 => ?_)
          · refine pw_lload_n C d_MO_all_58 rfl ?_
            refine pw_lret C zr zk d_MO_all_59 ?_
            exact ⟨hfr, hst1, Or.inr (Or.inr ⟨hl0, i, hi, hai, rfl⟩)⟩
          · exact absurd (nI_le (a := 64) (b := 64) (by omega) (by omega)) h31
        | succ d ih =>
          intro k hkd
          have hk : k < 64 := by omega
          refine pw_iload C d_MO_all_27 rfl ?_
          refine pw_bipush C d_MO_all_29 (v := 64) (by decide) ?_
          refine pw_icmp_ge C 58 d_MO_all_31 (by decide) (fun h31 => ?_) (fun h31 => ?_)
          · exact absurd ((nI_leI (a := 64) (by decide) (by omega)).mp h31) (by omega)
          refine pw_lload_n C d_MO_all_34 rfl ?_
          refine pw_aload_n C d_MO_all_35 rfl ?_
          refine pw_get C d_MO_all_36 (hX 20 0 rfl) rfl 7 rfl rfl (by decide) in_MO W_350 rfl ?_
          refine pw_bipush C d_MO_all_39 (v := 64) (by decide) ?_
          refine pw_iload_n C d_MO_all_41 rfl ?_
          refine pw_imul C d_MO_all_42 ?_
          refine pw_iload C d_MO_all_43 rfl ?_
          refine pw_iadd C d_MO_all_45 ?_
          rw [show 64 * a + nI k = nI (64 * i + k) from by rw [hai, ix2]]
          refine pw_laldK C d_MO_all_46 (hX 25 0 rfl) rfl (by omega) ?_
          refine pw_ladd C d_MO_all_47 ?_
          rw [hT i hi k hk, lN_add]
          refine pw_callSl C (k_MO_least l hI _ (by have := cp_le (sg_f (fun y => cn_f T wd 12 0 i y) k); have := cp_le (cn_f T wd 12 0 i k); unfold C15 at *; omega)) ⟨pw_cb C 1 W_439 W_6 W_437 ⟨rfl, rfl⟩ (by decide +kernel) ⟨(Nat.le_of_ble_eq_true rfl), (Nat.le_of_ble_eq_true rfl)⟩, pw_w C W_438⟩ rfl rfl (Nat.le_of_ble_eq_true rfl) d_MO_all_48 ⟨Nat.zero_le _, Nat.zero_le _⟩ (fun rs w9 hs => ?_)
          obtain ⟨e9, hs⟩ := hs
          subst hs
          refine MW.world e9 ?_
          refine pw_lstore_n C d_MO_all_51 (by decide) ?_
          refine pw_iinc1 C d_MO_all_52 rfl (by decide) ?_
          refine pw_goto C 27 d_MO_all_55 (by decide) ?_
          rw [cp_add, cp_add']
          exact ih (k + 1) (by omega)
      exact L 64 0 rfl
    · refine pw_ldc2_w C d_MO_all_18 (v := -2) W_452 ?_
      refine pw_lret C zr zk d_MO_all_21 ?_
      exact ⟨hfr, hst1, Or.inr (Or.inl ⟨yn_t ha h4, hjf h15, rfl⟩)⟩
  · refine pw_ldc2_w C d_MO_all_7 (v := -1) W_415 ?_
    refine pw_lret C zr zk d_MO_all_10 ?_
    exact ⟨fun g _ => rfl, hst0, Or.inl ⟨yn_f ha h4, rfl⟩⟩
set_option maxHeartbeats 4000000 in
set_option maxRecDepth 100000 in
theorem k_MO_pairs (l : Launch) {X : Lay} (hI : pw_I X) (hX : Dm X) (w : Wd) {T : Nat → Nat → Int64} {cnt : Int32} {wd : Nat → Int32} {n : Nat} (hst : mo_st X w T cnt wd n) : CtI l y_MO_pairs (pw_ws y_MO_pairs c_MO_pairs 3 (some .int)) { frames := 3, cells := 0, slots := 0, locals := 76 } X w [.ref (pw_a X 20 0)] (fun r w1 => (∀ g, (g < 20 ∨ 26 < g) → w1 g = w g) ∧ mo_st X w1 T cnt wd n ∧ ((¬ lk_f wd n = 0 ∧ r = -2) ∨ (lk_f wd n = 0 ∧ r = nI (sg_f (fun x => sg_f (fun y => if nz_f (cn_f T wd 12 0) x y then 1 else 0) 64) 64)))) := by
  have hst0 := hst
  obtain ⟨tE, st, pt, lk, tb, rk, sp, hmw, hn, hTE, hrk⟩ := hst
  refine pw_open (by decide) hI [some (.ref (pw_a X 20 0)), none, none] rfl (Nat.le_of_ble_eq_true rfl) ?_
  intro zp ze zs zm za zb zt zc hargs C zr zk hnm
  refine pw_aload_n C d_MO_pairs_0 rfl ?_
  refine MW.world hmw.symm ?_
  refine pw_callVi C (k_MO_reckon l hI hX w hn hTE hrk) (hX 20 0 rfl) rfl rfl ⟨pw_cb C 0 W_419 W_6 W_416 ⟨rfl, rfl⟩ (by decide +kernel) ⟨(Nat.le_of_ble_eq_true rfl), (Nat.le_of_ble_eq_true rfl)⟩, pw_w C W_418, pw_w C V_17⟩ rfl rfl (Nat.le_of_ble_eq_true rfl) d_MO_pairs_1 ⟨Nat.zero_le _, Nat.zero_le _⟩ (fun rj w9 hj => ?_)
  obtain ⟨st1, pt1, lk1, tb1, rk1, sp1, rfl, hj⟩ := hj
  have hfr : ∀ g, (g < 20 ∨ 26 < g) → m_w X w tE cnt wd (nI n) st1 pt1 lk1 tb1 rk1 sp1 g = w g := fun g hg => m_row hg
  have hst1 : mo_st X (m_w X w tE cnt wd (nI n) st1 pt1 lk1 tb1 rk1 sp1) T cnt wd n := by
    refine ⟨tE, st1, pt1, lk1, tb1, rk1, sp1, m_idem, hn, hTE, fun q => ?_⟩
    rcases hj with ⟨-, -, z⟩ | ⟨-, z1, -, z2⟩
    · exact absurd z q
    · exact ⟨z1, z2⟩
  have hjf : rj = 0 → ¬ lk_f wd n = 0 := fun q => by
    rcases hj with ⟨-, z, -⟩ | ⟨z, -⟩
    · exact z
    · rw [q] at z; exact absurd z (by decide)
  have hjt : ¬ rj = 0 → lk_f wd n = 0 ∧ ∀ x, x < 64 → ∀ y, y < 64 → tb1 (64 * x + y) = lN (cp_f (cn_f T wd 12 0 x y)) := fun q => by
    rcases hj with ⟨z, -⟩ | ⟨-, z1, -, z2⟩
    · exact absurd z q
    · exact ⟨z1, fun x hx y hy => by have := z2 x hx y hy; rw [Nat.mul_zero, Nat.zero_add] at this; exact this⟩
  refine pw_if_ne C 10 d_MO_pairs_4 (by decide) (fun h4 => ?_) (fun h4 => ?_)
  · refine pw_iconst C d_MO_pairs_10 (v := 0) (by decide) ?_
    refine pw_istore_n C d_MO_pairs_11 (by decide) ?_
    refine pw_iconst C d_MO_pairs_12 (v := 0) (by decide) ?_
    refine pw_istore_n C d_MO_pairs_13 (by decide) ?_
    obtain ⟨hl0, hT⟩ := hjt h4
    have L : ∀ d k : Nat, k + d = 4096 → MW zp l ze ({ frames := 3, cells := 0, slots := 0, locals := 76 } : Room) zs zm za zb zt zc X 3 0 0 (MQ zb (va_Qi (fun r w1 => (∀ g, (g < 20 ∨ 26 < g) → w1 g = w g) ∧ mo_st X w1 T cnt wd n ∧ ((¬ lk_f wd n = 0 ∧ r = -2) ∨ (lk_f wd n = 0 ∧ r = nI (sg_f (fun x => sg_f (fun y => if nz_f (cn_f T wd 12 0) x y then 1 else 0) 64) 64)))) (pw_B X) (pw_F X)) za zs 0 0 (pw_F X)) (m_w X w tE cnt wd (nI n) st1 pt1 lk1 tb1 rk1 sp1) 14 [some (.ref (pw_a X 20 0)), some (.int (nI (sg_f (fun y => if nz_f (cn_f T wd 12 0) (y / 64) (y % 64) then 1 else 0) k))), some (.int (nI k))] [] := by
      intro d
      induction d with
      | zero =>
        intro k hkd
        have hk64 : k = 4096 := by omega
        subst hk64
        refine pw_iload_n C d_MO_pairs_14 rfl ?_
        refine pw_sipush C d_MO_pairs_15 (v := 4096) (by decide) ?_
        refine pw_icmp_ge C 46 d_MO_pairs_18 (by decide) (fun h18 => ?_) (fun h18 => ?_)
        · refine pw_iload_n C d_MO_pairs_46 rfl ?_
          refine pw_iret C zr zk d_MO_pairs_47 ?_
          refine ⟨hfr, hst1, Or.inr ⟨hl0, ?_⟩⟩
          rw [← sg_flat (fun x y => if nz_f (cn_f T wd 12 0) x y then 1 else 0) 64]
        · exact absurd (nI_le (a := 4096) (b := 4096) (by omega) (by omega)) h18
      | succ d ih =>
        intro k hkd
        have hk : k < 4096 := by omega
        refine pw_iload_n C d_MO_pairs_14 rfl ?_
        refine pw_sipush C d_MO_pairs_15 (v := 4096) (by decide) ?_
        refine pw_icmp_ge C 46 d_MO_pairs_18 (by decide) (fun h18 => ?_) (fun h18 => ?_)
        · exact absurd ((nI_leI (a := 4096) (by decide) (by omega)).mp h18) (by omega)
        refine pw_iload_n C d_MO_pairs_21 rfl ?_
        refine pw_aload_n C d_MO_pairs_22 rfl ?_
        refine pw_get C d_MO_pairs_23 (hX 20 0 rfl) rfl 7 rfl rfl (by decide) in_MO W_350 rfl ?_
        refine pw_iload_n C d_MO_pairs_26 rfl ?_
        refine pw_laldK C d_MO_pairs_27 (hX 25 0 rfl) rfl (by omega) ?_
        refine pw_lconst C d_MO_pairs_28 (v := 0) (by decide) ?_
        refine pw_lcmp C d_MO_pairs_29 ?_
        refine pw_if_le C 37 d_MO_pairs_30 (by decide) (fun h30 => ?_) (fun h30 => ?_)
        · refine pw_iconst C d_MO_pairs_37 (v := 0) (by decide) ?_
          refine pw_iadd C d_MO_pairs_38 ?_
          refine pw_istore_n C d_MO_pairs_39 (by decide) ?_
          refine pw_iinc1 C d_MO_pairs_40 rfl (by decide) ?_
          refine pw_goto C 14 d_MO_pairs_43 (by decide) ?_
          have e : 64 * (k / 64) + k % 64 = k := by omega
          have hTk := hT (k / 64) (by omega) (k % 64) (by omega)
          rw [e] at hTk
          rw [sb_f (f := fun y => nz_f (cn_f T wd 12 0) (y / 64) (y % 64)) (nz_le hTk h30)]
          exact ih (k + 1) (by omega)
        · refine pw_iconst C d_MO_pairs_33 (v := 1) (by decide) ?_
          refine pw_goto C 38 d_MO_pairs_34 (by decide) ?_
          refine pw_iadd C d_MO_pairs_38 ?_
          refine pw_istore_n C d_MO_pairs_39 (by decide) ?_
          refine pw_iinc1 C d_MO_pairs_40 rfl (by decide) ?_
          refine pw_goto C 14 d_MO_pairs_43 (by decide) ?_
          have e : 64 * (k / 64) + k % 64 = k := by omega
          have hTk := hT (k / 64) (by omega) (k % 64) (by omega)
          rw [e] at hTk
          rw [sb_t (f := fun y => nz_f (cn_f T wd 12 0) (y / 64) (y % 64)) (nz_gt hTk h30)]
          exact ih (k + 1) (by omega)
    exact L 4096 0 rfl
  · refine pw_bipush C d_MO_pairs_7 (v := -2) (by decide) ?_
    refine pw_iret C zr zk d_MO_pairs_9 ?_
    exact ⟨hfr, hst1, Or.inl ⟨hjf h4, rfl⟩⟩
