/-! THE CLASS'S PUBLIC METHODS: what is found -/
theorem bc_nz {x : Int64} {M : Nat → Bool} (h : ∀ y, y < 64 → bt_f x y = M y) : bc_n x = sg_f (fun y => if M y then 1 else 0) 64 := sg_congr (fun y hy => by rw [h y hy])
theorem nz_of {x : Int64} {M : Nat → Nat → Nat} {i y : Nat} (h : bt_f x y = true ↔ M i y ≠ 0) : bt_f x y = nz_f M i y := by
  unfold nz_f
  by_cases q : bt_f x y = true
  · rw [q]; exact (decide_eq_true (h.mp q)).symm
  · have q2 : ¬ M i y ≠ 0 := fun z => q (h.mpr z)
    rw [Bool.not_eq_true] at q
    rw [q]; exact (decide_eq_false q2).symm
set_option maxHeartbeats 4000000 in
set_option maxRecDepth 100000 in
theorem k_PF_times (l : Launch) {X : Lay} (hI : pw_I X) (hX : Dm X) (w : Wd) {T : Nat → Nat → Int64} {ne : Int32} {wd : Nat → Int32} {n : Nat} (hst : pf_st X w T ne wd n) (a b : Int32) : CtL l y_PF_times (pw_ws y_PF_times c_PF_times 3 (some .long)) { frames := 31, cells := 0, slots := 0, locals := 802 } X w [.ref (pw_a X 0 0), .int a, .int b] (fun r w1 => (∀ g, 16 < g → w1 g = w g) ∧ pf_st X w1 T ne wd n ∧ ((¬ (is_n a 64 ∧ is_n b 64) ∧ r = -1) ∨ (is_n a 64 ∧ is_n b 64 ∧ ¬ lk_f wd n = 0 ∧ r = -2) ∨ (lk_f wd n = 0 ∧ ∃ i j, i < 64 ∧ j < 64 ∧ a = nI i ∧ b = nI j ∧ r = lN (cp_f (cn_f T wd 12 0 i j))))) := by
  have hst0 := hst
  obtain ⟨parts, ks, ls, ss, rdy, R, st0, BF, AF, hS, hn, hp, hO⟩ := hst
  have hpw := p_id hS
  have hV := v_of_sh hS
  obtain ⟨s0, sg1, ⟨s4, s5, s6, s7, s8⟩, ⟨s9, s10, s11⟩, s12, s13, s14, s15, s16⟩ := id hS
  refine pw_open (by decide) hI [some (.ref (pw_a X 0 0)), some (.int a), some (.int b)] rfl (Nat.le_of_ble_eq_true rfl) ?_
  intro zp ze zs zm za zb zt zc hargs C zr zk hnm
  refine pw_iload_n C d_PF_times_0 rfl ?_
  refine pw_callSi C (k_PF_isPoint l hI _ a) ⟨pw_cb C 1 W_153 W_1 W_223 ⟨rfl, rfl⟩ (by decide +kernel) ⟨(Nat.le_of_ble_eq_true rfl), (Nat.le_of_ble_eq_true rfl)⟩, pw_w C W_152⟩ rfl rfl (Nat.le_of_ble_eq_true rfl) d_PF_times_1 ⟨Nat.zero_le _, Nat.zero_le _⟩ (fun rp w9 ha => ?_)
  obtain ⟨e9, ha⟩ := ha
  refine MW.world e9 ?_
  refine pw_if_eq C 14 d_PF_times_4 (by decide) (fun h4 => ?_) (fun h4 => ?_)
  · refine pw_ldc2_w C d_PF_times_14 (v := -1) W_224 ?_
    refine pw_lret C zr zk d_PF_times_17 ?_
    exact ⟨fun g _ => rfl, hst0, Or.inl ⟨fun q => yn_f ha h4 q.1, rfl⟩⟩
  · refine pw_iload_n C d_PF_times_7 rfl ?_
    refine pw_callSi C (k_PF_isPoint l hI _ b) ⟨pw_cb C 1 W_153 W_1 W_223 ⟨rfl, rfl⟩ (by decide +kernel) ⟨(Nat.le_of_ble_eq_true rfl), (Nat.le_of_ble_eq_true rfl)⟩, pw_w C W_152⟩ rfl rfl (Nat.le_of_ble_eq_true rfl) d_PF_times_8 ⟨Nat.zero_le _, Nat.zero_le _⟩ (fun rp w9 hb => ?_)
    obtain ⟨e9, hb⟩ := hb
    refine MW.world e9 ?_
    refine pw_if_ne C 18 d_PF_times_11 (by decide) (fun h11 => ?_) (fun h11 => ?_)
    · refine pw_aload_n C d_PF_times_18 rfl ?_
      refine pw_get C d_PF_times_19 (hX 0 0 rfl) s0 1 rfl rfl (by decide) in_PF W_128 rfl ?_
      refine MW.world hpw.symm ?_
      refine pw_callVNi C (k_PA_isJust l hI hX w) (hX 4 0 rfl) rfl rfl ⟨pw_cn C 0 W_228 W_3 N_27 ⟨rfl, rfl⟩ (by decide +kernel) ⟨(Nat.le_of_ble_eq_true rfl), (Nat.le_of_ble_eq_true rfl)⟩, pw_w C W_227, pw_w C V_9⟩ rfl rfl (Nat.le_of_ble_eq_true rfl) d_PF_times_22 ⟨Nat.zero_le _, Nat.zero_le _⟩ (fun rj w9 hj => ?_)
      obtain ⟨e9, hj⟩ := hj
      refine MW.world (e9.trans hpw) ?_
      refine pw_if_ne C 32 d_PF_times_25 (by decide) (fun h25 => ?_) (fun h25 => ?_)
      · obtain ⟨htb, hfl, h0, h40⟩ := js_f hn (yn_t hj h25) hp
        obtain ⟨i, hi, rfl⟩ := yn_t ha h4
        obtain ⟨j, hj2, rfl⟩ := yn_t hb h11
        refine pw_aload_n C d_PF_times_32 rfl ?_
        refine pw_get C d_PF_times_33 (hX 0 0 rfl) s0 3 rfl rfl (by decide) in_PF W_130 rfl ?_
        refine pw_iload_n C d_PF_times_36 rfl ?_
        refine pw_callVNr C (k_CN_from l hI hX w hS hO h40 h0 hfl hi) (hX 12 0 rfl) s12 rfl ⟨pw_cn C 1 W_233 W_5 N_28 ⟨rfl, rfl⟩ (by decide +kernel) ⟨(Nat.le_of_ble_eq_true rfl), (Nat.le_of_ble_eq_true rfl)⟩, pw_w C W_232, pw_w C V_10⟩ rfl rfl (Nat.le_of_ble_eq_true rfl) d_PF_times_37 ⟨Nat.zero_le _, Nat.zero_le _⟩ (fun w1 hp1 => ?_)
        obtain ⟨rdy1, R1, BF1, AF1, hr1, hS1, hO1, hA, hfr⟩ := hp1
        have sm := sm_all (hO1.1 hr1) h40 12 0 0 n parts htb (Nat.le_refl parts)
        have hst1 : pf_st X w1 T ne wd n := ⟨parts, ks, ls, ss, rdy1, R1, nI i, BF1, AF1, hS1, hn, hp, hO1⟩
        have hAc : ∀ y, y < 64 → AF1 y = lN (cp_f (cn_f T wd 12 0 i y)) := fun y hy => by
          rw [(hA y hy).1, ← sm.2.1 i hi y hy]
        refine pw_iload_n C d_PF_times_40 rfl ?_
        refine pw_laldK C d_PF_times_41 (hX 14 0 rfl) hS1.2.2.2.2.2.2.1 hj2 ?_
        refine pw_lret C zr zk d_PF_times_42 ?_
        refine ⟨hfr, hst1, Or.inr (Or.inr ⟨yn_t hj h25, i, j, hi, hj2, rfl, rfl, ?_⟩)⟩
        exact hAc j hj2
      · refine pw_ldc2_w C d_PF_times_28 (v := -2) W_229 ?_
        refine pw_lret C zr zk d_PF_times_31 ?_
        exact ⟨fun g _ => rfl, hst0, Or.inr (Or.inl ⟨yn_t ha h4, yn_t hb h11, yn_f hj h25, rfl⟩)⟩
    · refine pw_ldc2_w C d_PF_times_14 (v := -1) W_224 ?_
      refine pw_lret C zr zk d_PF_times_17 ?_
      exact ⟨fun g _ => rfl, hst0, Or.inl ⟨fun q => yn_f hb h11 q.2, rfl⟩⟩
set_option maxHeartbeats 4000000 in
set_option maxRecDepth 100000 in
theorem k_PF_ends (l : Launch) {X : Lay} (hI : pw_I X) (hX : Dm X) (w : Wd) {T : Nat → Nat → Int64} {ne : Int32} {wd : Nat → Int32} {n : Nat} (hst : pf_st X w T ne wd n) (a : Int32) : CtI l y_PF_ends (pw_ws y_PF_ends c_PF_ends 2 (some .int)) { frames := 6, cells := 0, slots := 0, locals := 138 } X w [.ref (pw_a X 0 0), .int a] (fun r w1 => (∀ g, 16 < g → w1 g = w g) ∧ pf_st X w1 T ne wd n ∧ ((¬ is_n a 64 ∧ r = -1) ∨ (is_n a 64 ∧ ¬ lk_f wd n = 0 ∧ r = -2) ∨ (lk_f wd n = 0 ∧ ∃ i, i < 64 ∧ a = nI i ∧ r = nI (sg_f (fun y => if nz_f (cn_f T wd 12 0) i y then 1 else 0) 64)))) := by
  have hst0 := hst
  obtain ⟨parts, ks, ls, ss, rdy, R, st0, BF, AF, hS, hn, hp, hO⟩ := hst
  have hpw := p_id hS
  have hV := v_of_sh hS
  obtain ⟨s0, sg1, ⟨s4, s5, s6, s7, s8⟩, ⟨s9, s10, s11⟩, s12, s13, s14, s15, s16⟩ := id hS
  refine pw_open (by decide) hI [some (.ref (pw_a X 0 0)), some (.int a)] rfl (Nat.le_of_ble_eq_true rfl) ?_
  intro zp ze zs zm za zb zt zc hargs C zr zk hnm
  refine pw_iload_n C d_PF_ends_0 rfl ?_
  refine pw_callSi C (k_PF_isPoint l hI _ a) ⟨pw_cb C 1 W_153 W_1 W_223 ⟨rfl, rfl⟩ (by decide +kernel) ⟨(Nat.le_of_ble_eq_true rfl), (Nat.le_of_ble_eq_true rfl)⟩, pw_w C W_152⟩ rfl rfl (Nat.le_of_ble_eq_true rfl) d_PF_ends_1 ⟨Nat.zero_le _, Nat.zero_le _⟩ (fun rp w9 ha => ?_)
  obtain ⟨e9, ha⟩ := ha
  refine MW.world e9 ?_
  refine pw_if_ne C 9 d_PF_ends_4 (by decide) (fun h4 => ?_) (fun h4 => ?_)
  · refine pw_aload_n C d_PF_ends_9 rfl ?_
    refine pw_get C d_PF_ends_10 (hX 0 0 rfl) s0 1 rfl rfl (by decide) in_PF W_128 rfl ?_
    refine MW.world hpw.symm ?_
    refine pw_callVNi C (k_PA_isJust l hI hX w) (hX 4 0 rfl) rfl rfl ⟨pw_cn C 0 W_228 W_3 N_27 ⟨rfl, rfl⟩ (by decide +kernel) ⟨(Nat.le_of_ble_eq_true rfl), (Nat.le_of_ble_eq_true rfl)⟩, pw_w C W_227, pw_w C V_9⟩ rfl rfl (Nat.le_of_ble_eq_true rfl) d_PF_ends_13 ⟨Nat.zero_le _, Nat.zero_le _⟩ (fun rj w9 hj => ?_)
    obtain ⟨e9, hj⟩ := hj
    refine MW.world (e9.trans hpw) ?_
    refine pw_if_ne C 22 d_PF_ends_16 (by decide) (fun h16 => ?_) (fun h16 => ?_)
    · obtain ⟨htb, hfl, h0, h40⟩ := js_f hn (yn_t hj h16) hp
      obtain ⟨i, hi, rfl⟩ := yn_t ha h4
      refine pw_aload_n C d_PF_ends_22 rfl ?_
      refine pw_get C d_PF_ends_23 (hX 0 0 rfl) s0 2 rfl rfl (by decide) in_PF W_129 rfl ?_
      refine MW.world (r_id s11).symm ?_
      refine pw_callVNr C (k_RE_ofPath l hI hX w (R := R) hV h40 (fun _ => hfl) s9) (hX 9 0 rfl) (by rw [r_row (by decide)]; exact s9) rfl ⟨pw_cn C 0 W_238 W_4 N_35 ⟨rfl, rfl⟩ (by decide +kernel) ⟨(Nat.le_of_ble_eq_true rfl), (Nat.le_of_ble_eq_true rfl)⟩, pw_w C W_237, pw_w C V_11⟩ rfl rfl (Nat.le_of_ble_eq_true rfl) d_PF_ends_26 ⟨Nat.zero_le _, Nat.zero_le _⟩ (fun w1 hp1 => ?_)
      obtain ⟨rdy1, R1, hr1, hrv, hS1, hO1, hfr⟩ := of_sh hS hO hp1
      have sm := sm_all hrv h40 12 0 0 n parts htb (Nat.le_refl parts)
      have hst1 : pf_st X w1 T ne wd n := ⟨parts, ks, ls, ss, rdy1, R1, st0, BF, AF, hS1, hn, hp, hO1⟩
      have s11b := hS1.2.2.2.1.2.2 0 (by decide)
      have d11 : pw_d X 11 0 := hX 11 0 (by simp [dm_k])
      refine pw_iload_n C d_PF_ends_29 rfl ?_
      refine pw_laldK C d_PF_ends_30 d11 s11b hi ?_
      refine pw_callSi C (k_LO_bc l hI _ _) ⟨pw_cb C 1 W_312 W_8 W_310 ⟨rfl, rfl⟩ (by decide +kernel) ⟨(Nat.le_of_ble_eq_true rfl), (Nat.le_of_ble_eq_true rfl)⟩, pw_w C W_311⟩ rfl rfl (Nat.le_of_ble_eq_true rfl) d_PF_ends_31 ⟨Nat.zero_le _, Nat.zero_le _⟩ (fun rb w9 hb => ?_)
      obtain ⟨e9, hb⟩ := hb
      refine MW.world e9 ?_
      refine pw_iret C zr zk d_PF_ends_34 ?_
      refine ⟨hfr, hst1, Or.inr (Or.inr ⟨yn_t hj h16, i, hi, rfl, ?_⟩)⟩
      rw [hb, bc_nz (fun y hy => nz_of (sm.2.2 i hi y hy))]
    · refine pw_bipush C d_PF_ends_19 (v := -2) (by decide) ?_
      refine pw_iret C zr zk d_PF_ends_21 ?_
      exact ⟨fun g _ => rfl, hst0, Or.inr (Or.inl ⟨yn_t ha h4, yn_f hj h16, rfl⟩)⟩
  · refine pw_iconst C d_PF_ends_7 (v := -1) (by decide) ?_
    refine pw_iret C zr zk d_PF_ends_8 ?_
    exact ⟨fun g _ => rfl, hst0, Or.inl ⟨yn_f ha h4, rfl⟩⟩
set_option maxHeartbeats 4000000 in
set_option maxRecDepth 100000 in
theorem k_PF_reached (l : Launch) {X : Lay} (hI : pw_I X) (hX : Dm X) (w : Wd) {T : Nat → Nat → Int64} {ne : Int32} {wd : Nat → Int32} {n : Nat} (hst : pf_st X w T ne wd n) (a : Int32) : CtL l y_PF_reached (pw_ws y_PF_reached c_PF_reached 2 (some .long)) { frames := 6, cells := 0, slots := 0, locals := 138 } X w [.ref (pw_a X 0 0), .int a] (fun r w1 => (∀ g, 16 < g → w1 g = w g) ∧ pf_st X w1 T ne wd n ∧ ((¬ lk_f wd n = 0 ∧ r = 0) ∨ (lk_f wd n = 0 ∧ ¬ is_n a 64 ∧ r = -1) ∨ (lk_f wd n = 0 ∧ ∃ i, i < 64 ∧ a = nI i ∧ ∀ y, y < 64 → bt_f r y = nz_f (cn_f T wd 12 0) i y))) := by
  have hst0 := hst
  obtain ⟨parts, ks, ls, ss, rdy, R, st0, BF, AF, hS, hn, hp, hO⟩ := hst
  have hpw := p_id hS
  have hV := v_of_sh hS
  obtain ⟨s0, sg1, ⟨s4, s5, s6, s7, s8⟩, ⟨s9, s10, s11⟩, s12, s13, s14, s15, s16⟩ := id hS
  refine pw_open (by decide) hI [some (.ref (pw_a X 0 0)), some (.int a)] rfl (Nat.le_of_ble_eq_true rfl) ?_
  intro zp ze zs zm za zb zt zc hargs C zr zk hnm
  refine pw_aload_n C d_PF_reached_0 rfl ?_
  refine pw_get C d_PF_reached_1 (hX 0 0 rfl) s0 1 rfl rfl (by decide) in_PF W_128 rfl ?_
  refine MW.world hpw.symm ?_
  refine pw_callVNi C (k_PA_isJust l hI hX w) (hX 4 0 rfl) rfl rfl ⟨pw_cn C 0 W_228 W_3 N_27 ⟨rfl, rfl⟩ (by decide +kernel) ⟨(Nat.le_of_ble_eq_true rfl), (Nat.le_of_ble_eq_true rfl)⟩, pw_w C W_227, pw_w C V_9⟩ rfl rfl (Nat.le_of_ble_eq_true rfl) d_PF_reached_4 ⟨Nat.zero_le _, Nat.zero_le _⟩ (fun rj w9 hj => ?_)
  obtain ⟨e9, hj⟩ := hj
  refine MW.world (e9.trans hpw) ?_
  refine pw_if_ne C 12 d_PF_reached_7 (by decide) (fun h7 => ?_) (fun h7 => ?_)
  · refine pw_iload_n C d_PF_reached_12 rfl ?_
    refine pw_callSi C (k_PF_isPoint l hI _ a) ⟨pw_cb C 1 W_153 W_1 W_223 ⟨rfl, rfl⟩ (by decide +kernel) ⟨(Nat.le_of_ble_eq_true rfl), (Nat.le_of_ble_eq_true rfl)⟩, pw_w C W_152⟩ rfl rfl (Nat.le_of_ble_eq_true rfl) d_PF_reached_13 ⟨Nat.zero_le _, Nat.zero_le _⟩ (fun rp w9 ha => ?_)
    obtain ⟨e9, ha⟩ := ha
    refine MW.world e9 ?_
    refine pw_if_ne C 23 d_PF_reached_16 (by decide) (fun h16 => ?_) (fun h16 => ?_)
    · obtain ⟨htb, hfl, h0, h40⟩ := js_f hn (yn_t hj h7) hp
      obtain ⟨i, hi, rfl⟩ := yn_t ha h16
      refine pw_aload_n C d_PF_reached_23 rfl ?_
      refine pw_get C d_PF_reached_24 (hX 0 0 rfl) s0 2 rfl rfl (by decide) in_PF W_129 rfl ?_
      refine MW.world (r_id s11).symm ?_
      refine pw_callVNr C (k_RE_ofPath l hI hX w (R := R) hV h40 (fun _ => hfl) s9) (hX 9 0 rfl) (by rw [r_row (by decide)]; exact s9) rfl ⟨pw_cn C 0 W_238 W_4 N_35 ⟨rfl, rfl⟩ (by decide +kernel) ⟨(Nat.le_of_ble_eq_true rfl), (Nat.le_of_ble_eq_true rfl)⟩, pw_w C W_237, pw_w C V_11⟩ rfl rfl (Nat.le_of_ble_eq_true rfl) d_PF_reached_27 ⟨Nat.zero_le _, Nat.zero_le _⟩ (fun w1 hp1 => ?_)
      obtain ⟨rdy1, R1, hr1, hrv, hS1, hO1, hfr⟩ := of_sh hS hO hp1
      have sm := sm_all hrv h40 12 0 0 n parts htb (Nat.le_refl parts)
      have hst1 : pf_st X w1 T ne wd n := ⟨parts, ks, ls, ss, rdy1, R1, st0, BF, AF, hS1, hn, hp, hO1⟩
      have s11b := hS1.2.2.2.1.2.2 0 (by decide)
      have d11 : pw_d X 11 0 := hX 11 0 (by simp [dm_k])
      refine pw_iload_n C d_PF_reached_30 rfl ?_
      refine pw_laldK C d_PF_reached_31 d11 s11b hi ?_
      refine pw_lret C zr zk d_PF_reached_32 ?_
      exact ⟨hfr, hst1, Or.inr (Or.inr ⟨yn_t hj h7, i, hi, rfl, fun y hy => nz_of (sm.2.2 i hi y hy)⟩)⟩
    · refine pw_ldc2_w C d_PF_reached_19 (v := -1) W_224 ?_
      refine pw_lret C zr zk d_PF_reached_22 ?_
      exact ⟨fun g _ => rfl, hst0, Or.inr (Or.inl ⟨yn_t hj h7, yn_f ha h16, rfl⟩)⟩
  · refine pw_lconst C d_PF_reached_10 (v := 0) (by decide) ?_
    refine pw_lret C zr zk d_PF_reached_11 ?_
    exact ⟨fun g _ => rfl, hst0, Or.inl ⟨yn_f hj h7, rfl⟩⟩
set_option maxHeartbeats 4000000 in
set_option maxRecDepth 100000 in
theorem k_PF_all (l : Launch) {X : Lay} (hI : pw_I X) (hX : Dm X) (w : Wd) {T : Nat → Nat → Int64} {ne : Int32} {wd : Nat → Int32} {n : Nat} (hst : pf_st X w T ne wd n) (a : Int32) : CtL l y_PF_all (pw_ws y_PF_all c_PF_all 6 (some .long)) { frames := 31, cells := 0, slots := 0, locals := 802 } X w [.ref (pw_a X 0 0), .int a] (fun r w1 => (∀ g, 16 < g → w1 g = w g) ∧ pf_st X w1 T ne wd n ∧ ((¬ is_n a 64 ∧ r = -1) ∨ (is_n a 64 ∧ ¬ lk_f wd n = 0 ∧ r = -2) ∨ (lk_f wd n = 0 ∧ ∃ i, i < 64 ∧ a = nI i ∧ r = lN (cp_f (sg_f (fun y => cn_f T wd 12 0 i y) 64))))) := by
  have hst0 := hst
  obtain ⟨parts, ks, ls, ss, rdy, R, st0, BF, AF, hS, hn, hp, hO⟩ := hst
  have hpw := p_id hS
  have hV := v_of_sh hS
  obtain ⟨s0, sg1, ⟨s4, s5, s6, s7, s8⟩, ⟨s9, s10, s11⟩, s12, s13, s14, s15, s16⟩ := id hS
  refine pw_open (by decide) hI [some (.ref (pw_a X 0 0)), some (.int a), none, none, none, none] rfl (Nat.le_of_ble_eq_true rfl) ?_
  intro zp ze zs zm za zb zt zc hargs C zr zk hnm
  refine pw_iload_n C d_PF_all_0 rfl ?_
  refine pw_callSi C (k_PF_isPoint l hI _ a) ⟨pw_cb C 1 W_153 W_1 W_223 ⟨rfl, rfl⟩ (by decide +kernel) ⟨(Nat.le_of_ble_eq_true rfl), (Nat.le_of_ble_eq_true rfl)⟩, pw_w C W_152⟩ rfl rfl (Nat.le_of_ble_eq_true rfl) d_PF_all_1 ⟨Nat.zero_le _, Nat.zero_le _⟩ (fun rp w9 ha => ?_)
  obtain ⟨e9, ha⟩ := ha
  refine MW.world e9 ?_
  refine pw_if_ne C 11 d_PF_all_4 (by decide) (fun h4 => ?_) (fun h4 => ?_)
  · refine pw_aload_n C d_PF_all_11 rfl ?_
    refine pw_get C d_PF_all_12 (hX 0 0 rfl) s0 1 rfl rfl (by decide) in_PF W_128 rfl ?_
    refine MW.world hpw.symm ?_
    refine pw_callVNi C (k_PA_isJust l hI hX w) (hX 4 0 rfl) rfl rfl ⟨pw_cn C 0 W_228 W_3 N_27 ⟨rfl, rfl⟩ (by decide +kernel) ⟨(Nat.le_of_ble_eq_true rfl), (Nat.le_of_ble_eq_true rfl)⟩, pw_w C W_227, pw_w C V_9⟩ rfl rfl (Nat.le_of_ble_eq_true rfl) d_PF_all_15 ⟨Nat.zero_le _, Nat.zero_le _⟩ (fun rj w9 hj => ?_)
    obtain ⟨e9, hj⟩ := hj
    refine MW.world (e9.trans hpw) ?_
    refine pw_if_ne C 25 d_PF_all_18 (by decide) (fun h18 => ?_) (fun h18 => ?_)
    · obtain ⟨htb, hfl, h0, h40⟩ := js_f hn (yn_t hj h18) hp
      obtain ⟨i, hi, rfl⟩ := yn_t ha h4
      refine pw_aload_n C d_PF_all_25 rfl ?_
      refine pw_get C d_PF_all_26 (hX 0 0 rfl) s0 3 rfl rfl (by decide) in_PF W_130 rfl ?_
      refine pw_iload_n C d_PF_all_29 rfl ?_
      refine pw_callVNr C (k_CN_from l hI hX w hS hO h40 h0 hfl hi) (hX 12 0 rfl) s12 rfl ⟨pw_cn C 1 W_233 W_5 N_28 ⟨rfl, rfl⟩ (by decide +kernel) ⟨(Nat.le_of_ble_eq_true rfl), (Nat.le_of_ble_eq_true rfl)⟩, pw_w C W_232, pw_w C V_10⟩ rfl rfl (Nat.le_of_ble_eq_true rfl) d_PF_all_30 ⟨Nat.zero_le _, Nat.zero_le _⟩ (fun w2 hp1 => ?_)
      obtain ⟨rdy1, R1, BF1, AF1, hr1, hS1, hO1, hA, hfr⟩ := hp1
      have sm := sm_all (hO1.1 hr1) h40 12 0 0 n parts htb (Nat.le_refl parts)
      have hst1 : pf_st X w2 T ne wd n := ⟨parts, ks, ls, ss, rdy1, R1, nI i, BF1, AF1, hS1, hn, hp, hO1⟩
      have hAc : ∀ y, y < 64 → AF1 y = lN (cp_f (cn_f T wd 12 0 i y)) := fun y hy => by
        rw [(hA y hy).1, ← sm.2.1 i hi y hy]
      refine pw_astore_n C d_PF_all_33 (by decide) ?_
      refine pw_lconst C d_PF_all_34 (v := 0) (by decide) ?_
      refine pw_lstore_n C d_PF_all_35 (by decide) ?_
      refine pw_iconst C d_PF_all_36 (v := 0) (by decide) ?_
      refine pw_istore C d_PF_all_37 (by decide) ?_
      have L : ∀ d k : Nat, k + d = 64 → MW zp l ze ({ frames := 31, cells := 0, slots := 0, locals := 802 } : Room) zs zm za zb zt zc X 6 0 0 (MQ zb (va_Ql (fun r w1 => (∀ g, 16 < g → w1 g = w g) ∧ pf_st X w1 T ne wd n ∧ ((¬ is_n (nI i) 64 ∧ r = -1) ∨ (is_n (nI i) 64 ∧ ¬ lk_f wd n = 0 ∧ r = -2) ∨ (lk_f wd n = 0 ∧ ∃ i1, i1 < 64 ∧ nI i = nI i1 ∧ r = lN (cp_f (sg_f (fun y => cn_f T wd 12 0 i1 y) 64))))) (pw_B X) (pw_F X)) za zs 0 0 (pw_F X)) w2 39 [some (.ref (pw_a X 0 0)), some (.int (nI i)), some (.ref (pw_a X 14 0)), some (.long (lN (cp_f (sg_f (fun y => cn_f T wd 12 0 i y) k)))), none, some (.int (nI k))] [] := by
        intro d
        induction d with
        | zero =>
          intro k hkd
          have hk64 : k = 64 := by omega
          subst hk64
          refine pw_iload C d_PF_all_39 rfl ?_
          refine pw_bipush C d_PF_all_41 (v := 64) (by decide) ?_
          refine pw_icmp_ge C 61 d_PF_all_43 (by decide) (fun h43 => ?_) (fun h43 => ?_)
          · refine pw_lload_n C d_PF_all_61 rfl ?_
            refine pw_lret C zr zk d_PF_all_62 ?_
            exact ⟨hfr, hst1, Or.inr (Or.inr ⟨yn_t hj h18, i, hi, rfl, rfl⟩)⟩
          · exact absurd (nI_le (a := 64) (b := 64) (by omega) (by omega)) h43
        | succ d ih =>
          intro k hkd
          refine pw_iload C d_PF_all_39 rfl ?_
          refine pw_bipush C d_PF_all_41 (v := 64) (by decide) ?_
          refine pw_icmp_ge C 61 d_PF_all_43 (by decide) (fun h43 => ?_) (fun h43 => ?_)
          · exact absurd ((nI_leI (a := 64) (by decide) (by omega)).mp h43) (by omega)
          refine pw_lload_n C d_PF_all_46 rfl ?_
          refine pw_aload_n C d_PF_all_47 rfl ?_
          refine pw_iload C d_PF_all_48 rfl ?_
          refine pw_laldK C d_PF_all_50 (hX 14 0 rfl) hS1.2.2.2.2.2.2.1 (by omega) ?_
          rw [hAc k (by omega)]
          refine pw_callSl C (k_PF_sumOf l hI _ (cp_le _) (cp_le _)) ⟨pw_cb C 2 W_296 W_1 W_324 ⟨rfl, rfl⟩ (by decide +kernel) ⟨(Nat.le_of_ble_eq_true rfl), (Nat.le_of_ble_eq_true rfl)⟩, pw_w C W_295⟩ rfl rfl (Nat.le_of_ble_eq_true rfl) d_PF_all_51 ⟨Nat.zero_le _, Nat.zero_le _⟩ (fun rs w9 hs => ?_)
          obtain ⟨e9, hs⟩ := hs
          subst hs
          refine MW.world e9 ?_
          refine pw_lstore_n C d_PF_all_54 (by decide) ?_
          refine pw_iinc1 C d_PF_all_55 rfl (by decide) ?_
          refine pw_goto C 39 d_PF_all_58 (by decide) ?_
          rw [cp_add, cp_add']
          exact ih (k + 1) (by omega)
      exact L 64 0 rfl
    · refine pw_ldc2_w C d_PF_all_21 (v := -2) W_229 ?_
      refine pw_lret C zr zk d_PF_all_24 ?_
      exact ⟨fun g _ => rfl, hst0, Or.inr (Or.inl ⟨yn_t ha h4, yn_f hj h18, rfl⟩)⟩
  · refine pw_ldc2_w C d_PF_all_7 (v := -1) W_224 ?_
    refine pw_lret C zr zk d_PF_all_10 ?_
    exact ⟨fun g _ => rfl, hst0, Or.inl ⟨yn_f ha h4, rfl⟩⟩
set_option maxHeartbeats 4000000 in
set_option maxRecDepth 100000 in
theorem k_PF_reaching (l : Launch) {X : Lay} (hI : pw_I X) (hX : Dm X) (w : Wd) {T : Nat → Nat → Int64} {ne : Int32} {wd : Nat → Int32} {n : Nat} (hst : pf_st X w T ne wd n) (a : Int32) : CtL l y_PF_reaching (pw_ws y_PF_reaching c_PF_reaching 6 (some .long)) { frames := 6, cells := 0, slots := 0, locals := 138 } X w [.ref (pw_a X 0 0), .int a] (fun r w1 => (∀ g, 16 < g → w1 g = w g) ∧ pf_st X w1 T ne wd n ∧ ((¬ (lk_f wd n = 0 ∧ is_n a 64) ∧ r = 0) ∨ (lk_f wd n = 0 ∧ ∃ j1, j1 < 64 ∧ a = nI j1 ∧ ∀ x, x < 64 → bt_f r x = nz_f (cn_f T wd 12 0) x j1))) := by
  have hst0 := hst
  obtain ⟨parts, ks, ls, ss, rdy, R, st0, BF, AF, hS, hn, hp, hO⟩ := hst
  have hpw := p_id hS
  have hV := v_of_sh hS
  obtain ⟨s0, sg1, ⟨s4, s5, s6, s7, s8⟩, ⟨s9, s10, s11⟩, s12, s13, s14, s15, s16⟩ := id hS
  refine pw_open (by decide) hI [some (.ref (pw_a X 0 0)), some (.int a), none, none, none, none] rfl (Nat.le_of_ble_eq_true rfl) ?_
  intro zp ze zs zm za zb zt zc hargs C zr zk hnm
  refine pw_aload_n C d_PF_reaching_0 rfl ?_
  refine pw_get C d_PF_reaching_1 (hX 0 0 rfl) s0 1 rfl rfl (by decide) in_PF W_128 rfl ?_
  refine MW.world hpw.symm ?_
  refine pw_callVNi C (k_PA_isJust l hI hX w) (hX 4 0 rfl) rfl rfl ⟨pw_cn C 0 W_228 W_3 N_27 ⟨rfl, rfl⟩ (by decide +kernel) ⟨(Nat.le_of_ble_eq_true rfl), (Nat.le_of_ble_eq_true rfl)⟩, pw_w C W_227, pw_w C V_9⟩ rfl rfl (Nat.le_of_ble_eq_true rfl) d_PF_reaching_4 ⟨Nat.zero_le _, Nat.zero_le _⟩ (fun rj w9 hj => ?_)
  obtain ⟨e9, hj⟩ := hj
  refine MW.world (e9.trans hpw) ?_
  refine pw_if_eq C 17 d_PF_reaching_7 (by decide) (fun h7 => ?_) (fun h7 => ?_)
  · refine pw_lconst C d_PF_reaching_17 (v := 0) (by decide) ?_
    refine pw_lret C zr zk d_PF_reaching_18 ?_
    exact ⟨fun g _ => rfl, hst0, Or.inl ⟨fun q => yn_f hj h7 q.1, rfl⟩⟩
  · refine pw_iload_n C d_PF_reaching_10 rfl ?_
    refine pw_callSi C (k_PF_isPoint l hI _ a) ⟨pw_cb C 1 W_153 W_1 W_223 ⟨rfl, rfl⟩ (by decide +kernel) ⟨(Nat.le_of_ble_eq_true rfl), (Nat.le_of_ble_eq_true rfl)⟩, pw_w C W_152⟩ rfl rfl (Nat.le_of_ble_eq_true rfl) d_PF_reaching_11 ⟨Nat.zero_le _, Nat.zero_le _⟩ (fun rp w9 ha => ?_)
    obtain ⟨e9, ha⟩ := ha
    refine MW.world e9 ?_
    refine pw_if_ne C 19 d_PF_reaching_14 (by decide) (fun h14 => ?_) (fun h14 => ?_)
    · obtain ⟨htb, hfl, h0, h40⟩ := js_f hn (yn_t hj h7) hp
      obtain ⟨j, hj2, rfl⟩ := yn_t ha h14
      refine pw_aload_n C d_PF_reaching_19 rfl ?_
      refine pw_get C d_PF_reaching_20 (hX 0 0 rfl) s0 2 rfl rfl (by decide) in_PF W_129 rfl ?_
      refine MW.world (r_id s11).symm ?_
      refine pw_callVNr C (k_RE_ofPath l hI hX w (R := R) hV h40 (fun _ => hfl) s9) (hX 9 0 rfl) (by rw [r_row (by decide)]; exact s9) rfl ⟨pw_cn C 0 W_238 W_4 N_35 ⟨rfl, rfl⟩ (by decide +kernel) ⟨(Nat.le_of_ble_eq_true rfl), (Nat.le_of_ble_eq_true rfl)⟩, pw_w C W_237, pw_w C V_11⟩ rfl rfl (Nat.le_of_ble_eq_true rfl) d_PF_reaching_23 ⟨Nat.zero_le _, Nat.zero_le _⟩ (fun w1 hp1 => ?_)
      obtain ⟨rdy1, R1, hr1, hrv, hS1, hO1, hfr⟩ := of_sh hS hO hp1
      have sm := sm_all hrv h40 12 0 0 n parts htb (Nat.le_refl parts)
      have hst1 : pf_st X w1 T ne wd n := ⟨parts, ks, ls, ss, rdy1, R1, st0, BF, AF, hS1, hn, hp, hO1⟩
      have s11b := hS1.2.2.2.1.2.2 0 (by decide)
      have d11 : pw_d X 11 0 := hX 11 0 (by simp [dm_k])
      refine pw_astore_n C d_PF_reaching_26 (by decide) ?_
      refine pw_lconst C d_PF_reaching_27 (v := 0) (by decide) ?_
      refine pw_lstore_n C d_PF_reaching_28 (by decide) ?_
      refine pw_iconst C d_PF_reaching_29 (v := 0) (by decide) ?_
      refine pw_istore C d_PF_reaching_30 (by decide) ?_
      have L : ∀ d k : Nat, k + d = 64 → ∀ v : Int64, (∀ x, x < 64 → bt_f v x = (decide (x < k) && nz_f (cn_f T wd 12 0) x j)) → MW zp l ze ({ frames := 6, cells := 0, slots := 0, locals := 138 } : Room) zs zm za zb zt zc X 6 0 0 (MQ zb (va_Ql (fun r w1 => (∀ g, 16 < g → w1 g = w g) ∧ pf_st X w1 T ne wd n ∧ ((¬ (lk_f wd n = 0 ∧ is_n (nI j) 64) ∧ r = 0) ∨ (lk_f wd n = 0 ∧ ∃ j1, j1 < 64 ∧ nI j = nI j1 ∧ ∀ x, x < 64 → bt_f r x = nz_f (cn_f T wd 12 0) x j1))) (pw_B X) (pw_F X)) za zs 0 0 (pw_F X)) w1 32 [some (.ref (pw_a X 0 0)), some (.int (nI j)), some (.ref (pw_a X 11 0)), some (.long v), none, some (.int (nI k))] [] := by
        intro d
        induction d with
        | zero =>
          intro k hkd v hv
          refine pw_iload C d_PF_reaching_32 rfl ?_
          refine pw_bipush C d_PF_reaching_34 (v := 64) (by decide) ?_
          refine pw_icmp_ge C 64 d_PF_reaching_36 (by decide) (fun h36 => ?_) (fun h36 => ?_)
          · refine pw_lload_n C d_PF_reaching_64 rfl ?_
            refine pw_lret C zr zk d_PF_reaching_65 ?_
            refine ⟨hfr, hst1, Or.inr ⟨yn_t hj h7, j, hj2, rfl, fun x hx => ?_⟩⟩
            rw [hv x hx]
            simp [show x < k by omega]
          · exact absurd (nI_le (a := 64) (b := k) (by omega) (by omega)) h36
        | succ d ih =>
          intro k hkd v hv
          have hbk := nz_of (M := cn_f T wd 12 0) (sm.2.2 k (by omega) j hj2)
          refine pw_iload C d_PF_reaching_32 rfl ?_
          refine pw_bipush C d_PF_reaching_34 (v := 64) (by decide) ?_
          refine pw_icmp_ge C 64 d_PF_reaching_36 (by decide) (fun h36 => ?_) (fun h36 => ?_)
          · exact absurd ((nI_leI (a := 64) (by decide) (by omega)).mp h36) (by omega)
          refine pw_aload_n C d_PF_reaching_39 rfl ?_
          refine pw_iload C d_PF_reaching_40 rfl ?_
          refine pw_laldK C d_PF_reaching_42 d11 s11b (by omega) ?_
          refine pw_iload_n C d_PF_reaching_43 rfl ?_
          refine pw_callSi C (k_PF_holds l hI _ _ hj2) ⟨pw_cb C 2 W_159 W_1 W_329 ⟨rfl, rfl⟩ (by decide +kernel) ⟨(Nat.le_of_ble_eq_true rfl), (Nat.le_of_ble_eq_true rfl)⟩, pw_w C W_158⟩ rfl rfl (Nat.le_of_ble_eq_true rfl) d_PF_reaching_44 ⟨Nat.zero_le _, Nat.zero_le _⟩ (fun rh w9 hh => ?_)
          obtain ⟨e9, hh⟩ := hh
          refine MW.world e9 ?_
          refine pw_if_eq C 58 d_PF_reaching_47 (by decide) (fun h47 => ?_) (fun h47 => ?_)
          · refine pw_iinc1 C d_PF_reaching_58 rfl (by decide) ?_
            refine pw_goto C 32 d_PF_reaching_61 (by decide) ?_
            refine ih (k + 1) (by omega) v (fun x hx => ?_)
            rw [hv x hx]
            by_cases q : x = k
            · subst q
              have hz : nz_f (cn_f T wd 12 0) x j = false := by
                rw [← hbk]
                cases hb : bt_f (R1 0 x) j with
                | false => rfl
                | true => exact absurd hb (yn_f hh h47)
              simp [hz]
            · by_cases q2 : x < k
              · have q3 : x < k + 1 := by omega
                simp [q2, q3]
              · have q3 : ¬ x < k + 1 := by omega
                simp [q2, q3]
          · refine pw_lload_n C d_PF_reaching_50 rfl ?_
            refine pw_iload C d_PF_reaching_51 rfl ?_
            refine pw_callSl C (k_PF_bit l hI _ k) ⟨pw_cb C 1 W_162 W_1 W_330 ⟨rfl, rfl⟩ (by decide +kernel) ⟨(Nat.le_of_ble_eq_true rfl), (Nat.le_of_ble_eq_true rfl)⟩, pw_w C W_161⟩ rfl rfl (Nat.le_of_ble_eq_true rfl) d_PF_reaching_53 ⟨Nat.zero_le _, Nat.zero_le _⟩ (fun rb w9 hb => ?_)
            obtain ⟨e9, hb⟩ := hb
            subst hb
            refine MW.world e9 ?_
            refine pw_lor C d_PF_reaching_56 ?_
            refine pw_lstore_n C d_PF_reaching_57 (by decide) ?_
            refine pw_iinc1 C d_PF_reaching_58 rfl (by decide) ?_
            refine pw_goto C 32 d_PF_reaching_61 (by decide) ?_
            refine ih (k + 1) (by omega) _ (fun x hx => ?_)
            rw [bt_or, bt_bit (by omega), hv x hx]
            by_cases q : x = k
            · subst q
              have hz : nz_f (cn_f T wd 12 0) x j = true := by
                rw [← hbk]
                exact yn_t hh h47
              simp [hz]
            · by_cases q2 : x < k
              · have q3 : x < k + 1 := by omega
                simp [q, q2, q3]
              · have q3 : ¬ x < k + 1 := by omega
                simp [q, q2, q3]
      exact L 64 0 rfl 0 (fun x hx => by rw [bt_0]; simp)
    · refine pw_lconst C d_PF_reaching_17 (v := 0) (by decide) ?_
      refine pw_lret C zr zk d_PF_reaching_18 ?_
      exact ⟨fun g _ => rfl, hst0, Or.inl ⟨fun q => yn_f ha h14 q.2, rfl⟩⟩
set_option maxHeartbeats 4000000 in
set_option maxRecDepth 100000 in
theorem k_PF_pairs (l : Launch) {X : Lay} (hI : pw_I X) (hX : Dm X) (w : Wd) {T : Nat → Nat → Int64} {ne : Int32} {wd : Nat → Int32} {n : Nat} (hst : pf_st X w T ne wd n) : CtI l y_PF_pairs (pw_ws y_PF_pairs c_PF_pairs 4 (some .int)) { frames := 6, cells := 0, slots := 0, locals := 138 } X w [.ref (pw_a X 0 0)] (fun r w1 => (∀ g, 16 < g → w1 g = w g) ∧ pf_st X w1 T ne wd n ∧ ((¬ lk_f wd n = 0 ∧ r = -2) ∨ (lk_f wd n = 0 ∧ r = nI (sg_f (fun x => sg_f (fun y => if nz_f (cn_f T wd 12 0) x y then 1 else 0) 64) 64)))) := by
  have hst0 := hst
  obtain ⟨parts, ks, ls, ss, rdy, R, st0, BF, AF, hS, hn, hp, hO⟩ := hst
  have hpw := p_id hS
  have hV := v_of_sh hS
  obtain ⟨s0, sg1, ⟨s4, s5, s6, s7, s8⟩, ⟨s9, s10, s11⟩, s12, s13, s14, s15, s16⟩ := id hS
  refine pw_open (by decide) hI [some (.ref (pw_a X 0 0)), none, none, none] rfl (Nat.le_of_ble_eq_true rfl) ?_
  intro zp ze zs zm za zb zt zc hargs C zr zk hnm
  refine pw_aload_n C d_PF_pairs_0 rfl ?_
  refine pw_get C d_PF_pairs_1 (hX 0 0 rfl) s0 1 rfl rfl (by decide) in_PF W_128 rfl ?_
  refine MW.world hpw.symm ?_
  refine pw_callVNi C (k_PA_isJust l hI hX w) (hX 4 0 rfl) rfl rfl ⟨pw_cn C 0 W_228 W_3 N_27 ⟨rfl, rfl⟩ (by decide +kernel) ⟨(Nat.le_of_ble_eq_true rfl), (Nat.le_of_ble_eq_true rfl)⟩, pw_w C W_227, pw_w C V_9⟩ rfl rfl (Nat.le_of_ble_eq_true rfl) d_PF_pairs_4 ⟨Nat.zero_le _, Nat.zero_le _⟩ (fun rj w9 hj => ?_)
  obtain ⟨e9, hj⟩ := hj
  refine MW.world (e9.trans hpw) ?_
  refine pw_if_ne C 13 d_PF_pairs_7 (by decide) (fun h7 => ?_) (fun h7 => ?_)
  · obtain ⟨htb, hfl, h0, h40⟩ := js_f hn (yn_t hj h7) hp
    refine pw_aload_n C d_PF_pairs_13 rfl ?_
    refine pw_get C d_PF_pairs_14 (hX 0 0 rfl) s0 2 rfl rfl (by decide) in_PF W_129 rfl ?_
    refine MW.world (r_id s11).symm ?_
    refine pw_callVNr C (k_RE_ofPath l hI hX w (R := R) hV h40 (fun _ => hfl) s9) (hX 9 0 rfl) (by rw [r_row (by decide)]; exact s9) rfl ⟨pw_cn C 0 W_238 W_4 N_35 ⟨rfl, rfl⟩ (by decide +kernel) ⟨(Nat.le_of_ble_eq_true rfl), (Nat.le_of_ble_eq_true rfl)⟩, pw_w C W_237, pw_w C V_11⟩ rfl rfl (Nat.le_of_ble_eq_true rfl) d_PF_pairs_17 ⟨Nat.zero_le _, Nat.zero_le _⟩ (fun w1 hp1 => ?_)
    obtain ⟨rdy1, R1, hr1, hrv, hS1, hO1, hfr⟩ := of_sh hS hO hp1
    have sm := sm_all hrv h40 12 0 0 n parts htb (Nat.le_refl parts)
    have hst1 : pf_st X w1 T ne wd n := ⟨parts, ks, ls, ss, rdy1, R1, st0, BF, AF, hS1, hn, hp, hO1⟩
    have s11b := hS1.2.2.2.1.2.2 0 (by decide)
    have d11 : pw_d X 11 0 := hX 11 0 (by simp [dm_k])
    refine pw_astore_n C d_PF_pairs_20 (by decide) ?_
    refine pw_iconst C d_PF_pairs_21 (v := 0) (by decide) ?_
    refine pw_istore_n C d_PF_pairs_22 (by decide) ?_
    refine pw_iconst C d_PF_pairs_23 (v := 0) (by decide) ?_
    refine pw_istore_n C d_PF_pairs_24 (by decide) ?_
    have L : ∀ d k : Nat, k + d = 64 → MW zp l ze ({ frames := 6, cells := 0, slots := 0, locals := 138 } : Room) zs zm za zb zt zc X 4 0 0 (MQ zb (va_Qi (fun r w1 => (∀ g, 16 < g → w1 g = w g) ∧ pf_st X w1 T ne wd n ∧ ((¬ lk_f wd n = 0 ∧ r = -2) ∨ (lk_f wd n = 0 ∧ r = nI (sg_f (fun x => sg_f (fun y => if nz_f (cn_f T wd 12 0) x y then 1 else 0) 64) 64)))) (pw_B X) (pw_F X)) za zs 0 0 (pw_F X)) w1 25 [some (.ref (pw_a X 0 0)), some (.ref (pw_a X 11 0)), some (.int (nI (sg_f (fun x => sg_f (fun y => if nz_f (cn_f T wd 12 0) x y then 1 else 0) 64) k))), some (.int (nI k))] [] := by
      intro d
      induction d with
      | zero =>
        intro k hkd
        have hk64 : k = 64 := by omega
        subst hk64
        refine pw_iload_n C d_PF_pairs_25 rfl ?_
        refine pw_bipush C d_PF_pairs_26 (v := 64) (by decide) ?_
        refine pw_icmp_ge C 46 d_PF_pairs_28 (by decide) (fun h28 => ?_) (fun h28 => ?_)
        · refine pw_iload_n C d_PF_pairs_46 rfl ?_
          refine pw_iret C zr zk d_PF_pairs_47 ?_
          exact ⟨hfr, hst1, Or.inr ⟨yn_t hj h7, rfl⟩⟩
        · exact absurd (nI_le (a := 64) (b := 64) (by omega) (by omega)) h28
      | succ d ih =>
        intro k hkd
        refine pw_iload_n C d_PF_pairs_25 rfl ?_
        refine pw_bipush C d_PF_pairs_26 (v := 64) (by decide) ?_
        refine pw_icmp_ge C 46 d_PF_pairs_28 (by decide) (fun h28 => ?_) (fun h28 => ?_)
        · exact absurd ((nI_leI (a := 64) (by decide) (by omega)).mp h28) (by omega)
        refine pw_iload_n C d_PF_pairs_31 rfl ?_
        refine pw_aload_n C d_PF_pairs_32 rfl ?_
        refine pw_iload_n C d_PF_pairs_33 rfl ?_
        refine pw_laldK C d_PF_pairs_34 d11 s11b (by omega) ?_
        refine pw_callSi C (k_LO_bc l hI _ _) ⟨pw_cb C 1 W_312 W_8 W_310 ⟨rfl, rfl⟩ (by decide +kernel) ⟨(Nat.le_of_ble_eq_true rfl), (Nat.le_of_ble_eq_true rfl)⟩, pw_w C W_311⟩ rfl rfl (Nat.le_of_ble_eq_true rfl) d_PF_pairs_35 ⟨Nat.zero_le _, Nat.zero_le _⟩ (fun rb w9 hb => ?_)
        obtain ⟨e9, hb⟩ := hb
        subst hb
        refine MW.world e9 ?_
        rw [bc_nz (fun y hy => nz_of (sm.2.2 k (by omega) y hy))]
        refine pw_iadd C d_PF_pairs_38 ?_
        rw [nI_add]
        refine pw_istore_n C d_PF_pairs_39 (by decide) ?_
        refine pw_iinc1 C d_PF_pairs_40 rfl (by decide) ?_
        refine pw_goto C 25 d_PF_pairs_43 (by decide) ?_
        exact ih (k + 1) (by omega)
    exact L 64 0 rfl
  · refine pw_bipush C d_PF_pairs_10 (v := -2) (by decide) ?_
    refine pw_iret C zr zk d_PF_pairs_12 ?_
    exact ⟨fun g _ => rfl, hst0, Or.inl ⟨yn_f hj h7, rfl⟩⟩
