/-! THE REFERENCE: close, chain -/
def v1_f (c : Bool) : Int64 := if c then 1 else 0
theorem v1_or (a b : Bool) : v1_f a ||| v1_f b = v1_f (a || b) := by cases a <;> cases b <;> decide
theorem v1_0 {a : Bool} : v1_f a = 0 ↔ a = false := by cases a <;> simp [v1_f]
set_option maxHeartbeats 4000000 in
set_option maxRecDepth 100000 in
theorem k_MO_close (l : Launch) {X : Lay} (hI : pw_I X) (hX : Dm X) (w : Wd) {tE : Nat → Bool} {cnt sz pt rk : Int32} {wd st lk : Nat → Int32} {tb sp : Nat → Int64} {a : Nat} (ha : a + 4096 ≤ 61440) (b : Bool) : CtV l y_MO_close (pw_ws y_MO_close c_MO_close 6 none) { frames := 1, cells := 0, slots := 0, locals := 24 } X (m_w X w tE cnt wd sz st pt lk tb rk sp) [.ref (pw_a X 20 0), .int (nI a), .int (bi_f b)] (fun w1 => ∃ t1, w1 = m_w X w tE cnt wd sz st pt lk t1 rk sp ∧ (∀ x, x < 64 → ∀ y, y < 64 → t1 (a + 64 * x + y) = v1_f (wz_f (fun x y => decide (0 < tb (a + 64 * x + y)) || (b && decide (x = y))) 64 x y)) ∧ ∀ z, (z < a ∨ a + 4096 ≤ z) → t1 z = tb z) := by
  refine pw_open (by decide) hI [some (.ref (pw_a X 20 0)), some (.int (nI a)), some (.int (bi_f b)), none, none, none] rfl (Nat.le_of_ble_eq_true rfl) ?_
  intro zp ze zs zm za zb zt zc hargs C zr zk hnm
  generalize hrr : (fun x y => decide (0 < tb (a + 64 * x + y)) || (b && decide (x = y))) = rr
  have Ly : ∀ k q : Nat, k < 64 → q < 64 → wz_f rr k q k = true → (∀ t1 : Nat → Int64, (∀ x, x < 64 → ∀ y, y < 64 → t1 (a + 64 * x + y) = v1_f (wz_f rr (if x < q + 1 then k + 1 else k) x y)) → (∀ z, (z < a ∨ a + 4096 ≤ z) → t1 z = tb z) → MW zp l ze ({ frames := 1, cells := 0, slots := 0, locals := 24 } : Room) zs zm za zb zt zc X 6 0 0 (MQ zb (va_Qv (fun w1 => ∃ t1, w1 = m_w X w tE cnt wd sz st pt lk t1 rk sp ∧ (∀ x, x < 64 → ∀ y, y < 64 → t1 (a + 64 * x + y) = v1_f (wz_f rr 64 x y)) ∧ ∀ z, (z < a ∨ a + 4096 ≤ z) → t1 z = tb z) (pw_B X) (pw_F X)) za zs 0 0 (pw_F X)) (m_w X w tE cnt wd sz st pt lk t1 rk sp) 94 [some (.ref (pw_a X 20 0)), some (.int (nI a)), some (.int (bi_f b)), some (.int (nI k)), some (.int (nI q)), none] []) → ∀ d u : Nat, u + d = 64 → ∀ t1 : Nat → Int64, (∀ x, x < 64 → ∀ y, y < 64 → t1 (a + 64 * x + y) = v1_f (wz_f rr (if x < q ∨ (x = q ∧ y < u) then k + 1 else k) x y)) → (∀ z, (z < a ∨ a + 4096 ≤ z) → t1 z = tb z) → MW zp l ze ({ frames := 1, cells := 0, slots := 0, locals := 24 } : Room) zs zm za zb zt zc X 6 0 0 (MQ zb (va_Qv (fun w1 => ∃ t1, w1 = m_w X w tE cnt wd sz st pt lk t1 rk sp ∧ (∀ x, x < 64 → ∀ y, y < 64 → t1 (a + 64 * x + y) = v1_f (wz_f rr 64 x y)) ∧ ∀ z, (z < a ∨ a + 4096 ≤ z) → t1 z = tb z) (pw_B X) (pw_F X)) za zs 0 0 (pw_F X)) (m_w X w tE cnt wd sz st pt lk t1 rk sp) 49 [some (.ref (pw_a X 20 0)), some (.int (nI a)), some (.int (bi_f b)), some (.int (nI k)), some (.int (nI q)), some (.int (nI u))] [] := by
    intro k q hk hq hqk hcont d
    induction d with
    | zero =>
      intro u hud t1 h1 h2
      refine pw_iload C d_MO_close_49 rfl ?_
      refine pw_bipush C d_MO_close_51 (v := 64) (by decide) ?_
      refine pw_icmp_ge C 94 d_MO_close_53 (by decide) (fun h53 => ?_) (fun h53 => ?_)
      · refine MW.less (lv' := [some (.ref (pw_a X 20 0)), some (.int (nI a)), some (.int (bi_f b)), some (.int (nI k)), some (.int (nI q)), none]) (by intro i v h; rcases i with _ | _ | _ | _ | _ | _ | i <;> first | exact h | (simp at h)) (hcont t1 (fun x hx y hy => ?_) h2)
        rw [h1 x hx y hy]
        by_cases c : x < q + 1
        · rw [if_pos c, if_pos (by omega)]
        · rw [if_neg c, if_neg (by omega)]
      · exact absurd (nI_le (a := 64) (b := u) (by omega) (by omega)) h53
    | succ d ih =>
      intro u hud t1 h1 h2
      have hu : u < 64 := by omega
      have e1 : t1 (a + 64 * q + u) = v1_f (wz_f rr k q u) := by rw [h1 q hq u hu, if_neg (by omega)]
      have e2 : t1 (a + 64 * k + u) = v1_f (wz_f rr k k u) := by
        rw [h1 k hk u hu]
        by_cases c : k < q ∨ (k = q ∧ u < u)
        · rw [if_pos c, wz_row]
        · rw [if_neg c]
      refine pw_iload C d_MO_close_49 rfl ?_
      refine pw_bipush C d_MO_close_51 (v := 64) (by decide) ?_
      refine pw_icmp_ge C 94 d_MO_close_53 (by decide) (fun h53 => ?_) (fun h53 => ?_)
      · exact absurd ((nI_leI (a := 64) (by decide) (by omega)).mp h53) (by omega)
      refine pw_aload_n C d_MO_close_56 rfl ?_
      refine pw_get C d_MO_close_57 (hX 20 0 rfl) rfl 7 rfl rfl (by decide) in_MO W_350 rfl ?_
      refine pw_iload_n C d_MO_close_60 rfl ?_
      refine pw_bipush C d_MO_close_61 (v := 64) (by decide) ?_
      refine pw_iload C d_MO_close_63 rfl ?_
      refine pw_imul C d_MO_close_65 ?_
      refine pw_iadd C d_MO_close_66 ?_
      refine pw_iload C d_MO_close_67 rfl ?_
      refine pw_iadd C d_MO_close_69 ?_
      rw [ix3]
      refine pw_dup2 C d_MO_close_70 rfl rfl ?_
      refine pw_laldK C d_MO_close_71 (hX 25 0 rfl) rfl (by omega) ?_
      refine pw_aload_n C d_MO_close_72 rfl ?_
      refine pw_get C d_MO_close_73 (hX 20 0 rfl) rfl 7 rfl rfl (by decide) in_MO W_350 rfl ?_
      refine pw_iload_n C d_MO_close_76 rfl ?_
      refine pw_bipush C d_MO_close_77 (v := 64) (by decide) ?_
      refine pw_iload_n C d_MO_close_79 rfl ?_
      refine pw_imul C d_MO_close_80 ?_
      refine pw_iadd C d_MO_close_81 ?_
      refine pw_iload C d_MO_close_82 rfl ?_
      refine pw_iadd C d_MO_close_84 ?_
      rw [ix3]
      refine pw_laldK C d_MO_close_85 (hX 25 0 rfl) rfl (by omega) ?_
      refine pw_lor C d_MO_close_86 ?_
      refine pw_lastK C d_MO_close_87 (hX 25 0 rfl) rfl (by omega) ?_
      rw [e1, e2, v1_or]
      refine MW.world m_u25 ?_
      refine pw_iinc1 C d_MO_close_88 rfl (by decide) ?_
      refine pw_goto C 49 d_MO_close_91 (by decide) ?_
      refine ih (u + 1) (by omega) _ (fun x hx y hy => ?_) (fun z hz => ?_)
      · by_cases c : x = q ∧ y = u
        · obtain ⟨rfl, rfl⟩ := c
          rw [pk_uLs, if_pos (by omega)]
          show _ = v1_f (wz_f rr k x y || (wz_f rr k x k && wz_f rr k k y))
          rw [hqk, Bool.true_and]
        · rw [pk_uLn (by omega), h1 x hx y hy]
          by_cases c2 : x < q ∨ (x = q ∧ y < u)
          · rw [if_pos c2, if_pos (by omega)]
          · rw [if_neg c2, if_neg (by omega)]
      · rw [pk_uLn (by omega)]; exact h2 z hz
  have Lx : ∀ k : Nat, k < 64 → (∀ t1 : Nat → Int64, (∀ x, x < 64 → ∀ y, y < 64 → t1 (a + 64 * x + y) = v1_f (wz_f rr (k + 1) x y)) → (∀ z, (z < a ∨ a + 4096 ≤ z) → t1 z = tb z) → MW zp l ze ({ frames := 1, cells := 0, slots := 0, locals := 24 } : Room) zs zm za zb zt zc X 6 0 0 (MQ zb (va_Qv (fun w1 => ∃ t1, w1 = m_w X w tE cnt wd sz st pt lk t1 rk sp ∧ (∀ x, x < 64 → ∀ y, y < 64 → t1 (a + 64 * x + y) = v1_f (wz_f rr 64 x y)) ∧ ∀ z, (z < a ∨ a + 4096 ≤ z) → t1 z = tb z) (pw_B X) (pw_F X)) za zs 0 0 (pw_F X)) (m_w X w tE cnt wd sz st pt lk t1 rk sp) 100 [some (.ref (pw_a X 20 0)), some (.int (nI a)), some (.int (bi_f b)), some (.int (nI k)), none, none] []) → ∀ d q : Nat, q + d = 64 → ∀ t1 : Nat → Int64, (∀ x, x < 64 → ∀ y, y < 64 → t1 (a + 64 * x + y) = v1_f (wz_f rr (if x < q then k + 1 else k) x y)) → (∀ z, (z < a ∨ a + 4096 ≤ z) → t1 z = tb z) → MW zp l ze ({ frames := 1, cells := 0, slots := 0, locals := 24 } : Room) zs zm za zb zt zc X 6 0 0 (MQ zb (va_Qv (fun w1 => ∃ t1, w1 = m_w X w tE cnt wd sz st pt lk t1 rk sp ∧ (∀ x, x < 64 → ∀ y, y < 64 → t1 (a + 64 * x + y) = v1_f (wz_f rr 64 x y)) ∧ ∀ z, (z < a ∨ a + 4096 ≤ z) → t1 z = tb z) (pw_B X) (pw_F X)) za zs 0 0 (pw_F X)) (m_w X w tE cnt wd sz st pt lk t1 rk sp) 17 [some (.ref (pw_a X 20 0)), some (.int (nI a)), some (.int (bi_f b)), some (.int (nI k)), some (.int (nI q)), none] [] := by
    intro k hk hcont d
    induction d with
    | zero =>
      intro q hqd t1 h1 h2
      refine pw_iload C d_MO_close_17 rfl ?_
      refine pw_bipush C d_MO_close_19 (v := 64) (by decide) ?_
      refine pw_icmp_ge C 100 d_MO_close_21 (by decide) (fun h21 => ?_) (fun h21 => ?_)
      · refine MW.less (lv' := [some (.ref (pw_a X 20 0)), some (.int (nI a)), some (.int (bi_f b)), some (.int (nI k)), none, none]) (by intro i v h; rcases i with _ | _ | _ | _ | _ | _ | i <;> first | exact h | (simp at h)) (hcont t1 (fun x hx y hy => ?_) h2)
        rw [h1 x hx y hy, if_pos (by omega)]
      · exact absurd (nI_le (a := 64) (b := q) (by omega) (by omega)) h21
    | succ d ih =>
      intro q hqd t1 h1 h2
      have hq : q < 64 := by omega
      have e0 : t1 (a + 64 * q + k) = v1_f (wz_f rr k q k) := by rw [h1 q hq k hk, if_neg (by omega)]
      refine pw_iload C d_MO_close_17 rfl ?_
      refine pw_bipush C d_MO_close_19 (v := 64) (by decide) ?_
      refine pw_icmp_ge C 100 d_MO_close_21 (by decide) (fun h21 => ?_) (fun h21 => ?_)
      · exact absurd ((nI_leI (a := 64) (by decide) (by omega)).mp h21) (by omega)
      refine pw_aload_n C d_MO_close_24 rfl ?_
      refine pw_get C d_MO_close_25 (hX 20 0 rfl) rfl 7 rfl rfl (by decide) in_MO W_350 rfl ?_
      refine pw_iload_n C d_MO_close_28 rfl ?_
      refine pw_bipush C d_MO_close_29 (v := 64) (by decide) ?_
      refine pw_iload C d_MO_close_31 rfl ?_
      refine pw_imul C d_MO_close_33 ?_
      refine pw_iadd C d_MO_close_34 ?_
      refine pw_iload_n C d_MO_close_35 rfl ?_
      refine pw_iadd C d_MO_close_36 ?_
      rw [ix3]
      refine pw_laldK C d_MO_close_37 (hX 25 0 rfl) rfl (by omega) ?_
      rw [e0]
      refine pw_lconst C d_MO_close_38 (v := 0) (by decide) ?_
      refine pw_lcmp C d_MO_close_39 ?_
      refine pw_if_ne C 46 d_MO_close_40 (by decide) (fun h40 => ?_) (fun h40 => ?_)
      · refine pw_iconst C d_MO_close_46 (v := 0) (by decide) ?_
        refine pw_istore C d_MO_close_47 (by decide) ?_
        have hqk : wz_f rr k q k = true := by
          cases hb : wz_f rr k q k with
          | true => rfl
          | false => exact absurd ((lc_eq _ _).mpr (v1_0.mpr hb)) h40
        refine Ly k q hk hq hqk ?_ 64 0 rfl t1 (fun x hx y hy => ?_) h2
        · intro t2 g1 g2
          refine pw_iinc1 C d_MO_close_94 rfl (by decide) ?_
          refine pw_goto C 17 d_MO_close_97 (by decide) ?_
          exact ih (q + 1) (by omega) t2 g1 g2
        · rw [h1 x hx y hy]
          by_cases c2 : x < q
          · rw [if_pos c2, if_pos (by omega)]
          · rw [if_neg c2, if_neg (by omega)]
      · refine pw_goto C 94 d_MO_close_43 (by decide) ?_
        refine pw_iinc1 C d_MO_close_94 rfl (by decide) ?_
        refine pw_goto C 17 d_MO_close_97 (by decide) ?_
        refine ih (q + 1) (by omega) t1 (fun x hx y hy => ?_) h2
        rw [h1 x hx y hy]
        by_cases c : x = q
        · subst c
          rw [if_neg (by omega), if_pos (by omega)]
          show _ = v1_f (wz_f rr k x y || (wz_f rr k x k && wz_f rr k k y))
          rw [v1_0.mp ((lc_eq _ _).mp h40), Bool.false_and, Bool.or_false]
        · by_cases c2 : x < q
          · rw [if_pos c2, if_pos (by omega)]
          · rw [if_neg c2, if_neg (by omega)]
  have L : ∀ d k : Nat, k + d = 64 → ∀ t1 : Nat → Int64, (∀ x, x < 64 → ∀ y, y < 64 → t1 (a + 64 * x + y) = v1_f (wz_f rr k x y)) → (∀ z, (z < a ∨ a + 4096 ≤ z) → t1 z = tb z) → MW zp l ze ({ frames := 1, cells := 0, slots := 0, locals := 24 } : Room) zs zm za zb zt zc X 6 0 0 (MQ zb (va_Qv (fun w1 => ∃ t1, w1 = m_w X w tE cnt wd sz st pt lk t1 rk sp ∧ (∀ x, x < 64 → ∀ y, y < 64 → t1 (a + 64 * x + y) = v1_f (wz_f rr 64 x y)) ∧ ∀ z, (z < a ∨ a + 4096 ≤ z) → t1 z = tb z) (pw_B X) (pw_F X)) za zs 0 0 (pw_F X)) (m_w X w tE cnt wd sz st pt lk t1 rk sp) 8 [some (.ref (pw_a X 20 0)), some (.int (nI a)), some (.int (bi_f b)), some (.int (nI k)), none, none] [] := by
    intro d
    induction d with
    | zero =>
      intro k hkd t1 h1 h2
      refine pw_iload_n C d_MO_close_8 rfl ?_
      refine pw_bipush C d_MO_close_9 (v := 64) (by decide) ?_
      refine pw_icmp_ge C 106 d_MO_close_11 (by decide) (fun h11 => ?_) (fun h11 => ?_)
      · refine pw_vret C zr zk d_MO_close_106 ?_
        exact ⟨t1, rfl, fun x hx y hy => by rw [h1 x hx y hy, show k = 64 by omega], h2⟩
      · exact absurd (nI_le (a := 64) (b := k) (by omega) (by omega)) h11
    | succ d ih =>
      intro k hkd t1 h1 h2
      refine pw_iload_n C d_MO_close_8 rfl ?_
      refine pw_bipush C d_MO_close_9 (v := 64) (by decide) ?_
      refine pw_icmp_ge C 106 d_MO_close_11 (by decide) (fun h11 => ?_) (fun h11 => ?_)
      · exact absurd ((nI_leI (a := 64) (by decide) (by omega)).mp h11) (by omega)
      refine pw_iconst C d_MO_close_14 (v := 0) (by decide) ?_
      refine pw_istore C d_MO_close_15 (by decide) ?_
      refine Lx k (by omega) ?_ 64 0 rfl t1 (fun x hx y hy => ?_) h2
      · intro t2 g1 g2
        refine pw_iinc1 C d_MO_close_100 rfl (by decide) ?_
        refine pw_goto C 8 d_MO_close_103 (by decide) ?_
        exact ih (k + 1) (by omega) t2 g1 g2
      · rw [h1 x hx y hy, if_neg (by omega)]
  refine pw_aload_n C d_MO_close_0 rfl ?_
  refine pw_iload_n C d_MO_close_1 rfl ?_
  refine pw_iload_n C d_MO_close_2 rfl ?_
  refine pw_callVv C (k_MO_mark l hI hX w ha b) (hX 20 0 rfl) rfl rfl ⟨pw_cb C 2 W_447 W_6 W_444 ⟨rfl, rfl⟩ (by decide +kernel) ⟨(Nat.le_of_ble_eq_true rfl), (Nat.le_of_ble_eq_true rfl)⟩, pw_w C W_446, pw_w C V_22⟩ rfl rfl (Nat.le_of_ble_eq_true rfl) d_MO_close_3 ⟨Nat.zero_le _, Nat.zero_le _⟩ (fun w9 hp9 => ?_)
  obtain ⟨t0, rfl, hm1, hm2⟩ := hp9
  refine pw_iconst C d_MO_close_6 (v := 0) (by decide) ?_
  refine pw_istore_n C d_MO_close_7 (by decide) ?_
  refine L 64 0 rfl t0 (fun x hx y hy => ?_) hm2
  rw [show a + 64 * x + y = a + (64 * x + y) by omega, hm1 (64 * x + y) (by omega), ← hrr]
  show _ = v1_f (decide (0 < tb (a + 64 * x + y)) || (b && decide (x = y)))
  rw [show (64 * x + y) / 64 = x by omega, show (64 * x + y) % 64 = y by omega, show a + (64 * x + y) = a + 64 * x + y by omega]
  unfold v1_f
  by_cases c1 : 0 < tb (a + 64 * x + y)
  · simp [c1]
  · by_cases c2 : b = true
    · by_cases c3 : x = y
      · simp [c2, c3]
      · simp [c1, c2, c3]
    · simp [c1, c2]
set_option maxHeartbeats 4000000 in
set_option maxRecDepth 100000 in
theorem k_MO_chain (l : Launch) {X : Lay} (hI : pw_I X) (hX : Dm X) (w : Wd) {tE : Nat → Bool} {cnt sz pt rk : Int32} {wd st lk : Nat → Int32} {tb sp : Nat → Int64} {a b : Nat} (ha : a + 4096 ≤ 61440) (hb : b + 4096 ≤ a) {A Bm : Nat → Nat → Nat} (hA : ∀ x, x < 64 → ∀ y, y < 64 → tb (a + 64 * x + y) = lN (A x y) ∧ A x y ≤ C15) (hB : ∀ x, x < 64 → ∀ y, y < 64 → tb (b + 64 * x + y) = lN (Bm x y) ∧ Bm x y ≤ C15) : CtV l y_MO_chain (pw_ws y_MO_chain c_MO_chain 9 none) { frames := 1, cells := 0, slots := 0, locals := 23 } X (m_w X w tE cnt wd sz st pt lk tb rk sp) [.ref (pw_a X 20 0), .int (nI a), .int (nI b)] (fun w1 => ∃ t1 s1, w1 = m_w X w tE cnt wd sz st pt lk t1 rk s1 ∧ (∀ x, x < 64 → ∀ y, y < 64 → t1 (a + 64 * x + y) = lN (cp_f (sg_f (fun z => A x z * Bm z y) 64))) ∧ ∀ z, (z < a ∨ a + 4096 ≤ z) → t1 z = tb z) := by
  refine pw_open (by decide) hI [some (.ref (pw_a X 20 0)), some (.int (nI a)), some (.int (nI b)), none, none, none, none, none, none] rfl (Nat.le_of_ble_eq_true rfl) ?_
  intro zp ze zs zm za zb zt zc hargs C zr zk hnm
  have L4 : ∀ k : Nat, k < 64 → ∀ s1 : Nat → Int64, (∀ y, y < 64 → s1 y = lN (cp_f (sg_f (fun z => A k z * Bm z y) 64))) → (∀ t1 : Nat → Int64, (∀ x, x < 64 → ∀ y, y < 64 → t1 (a + 64 * x + y) = if x < k + 1 then lN (cp_f (sg_f (fun z => A x z * Bm z y) 64)) else lN (A x y)) → (∀ z, (z < a ∨ a + 4096 ≤ z) → t1 z = tb z) → MW zp l ze ({ frames := 1, cells := 0, slots := 0, locals := 23 } : Room) zs zm za zb zt zc X 9 0 0 (MQ zb (va_Qv (fun w1 => ∃ t1 s1, w1 = m_w X w tE cnt wd sz st pt lk t1 rk s1 ∧ (∀ x, x < 64 → ∀ y, y < 64 → t1 (a + 64 * x + y) = lN (cp_f (sg_f (fun z => A x z * Bm z y) 64))) ∧ ∀ z, (z < a ∨ a + 4096 ≤ z) → t1 z = tb z) (pw_B X) (pw_F X)) za zs 0 0 (pw_F X)) (m_w X w tE cnt wd sz st pt lk t1 rk s1) 162 [some (.ref (pw_a X 20 0)), some (.int (nI a)), some (.int (nI b)), some (.ref (pw_a X 26 0)), some (.int (nI k)), none, none, none, none] []) → ∀ d q : Nat, q + d = 64 → ∀ t1 : Nat → Int64, (∀ x, x < 64 → ∀ y, y < 64 → t1 (a + 64 * x + y) = if x < k ∨ (x = k ∧ y < q) then lN (cp_f (sg_f (fun z => A x z * Bm z y) 64)) else lN (A x y)) → (∀ z, (z < a ∨ a + 4096 ≤ z) → t1 z = tb z) → MW zp l ze ({ frames := 1, cells := 0, slots := 0, locals := 23 } : Room) zs zm za zb zt zc X 9 0 0 (MQ zb (va_Qv (fun w1 => ∃ t1 s1, w1 = m_w X w tE cnt wd sz st pt lk t1 rk s1 ∧ (∀ x, x < 64 → ∀ y, y < 64 → t1 (a + 64 * x + y) = lN (cp_f (sg_f (fun z => A x z * Bm z y) 64))) ∧ ∀ z, (z < a ∨ a + 4096 ≤ z) → t1 z = tb z) (pw_B X) (pw_F X)) za zs 0 0 (pw_F X)) (m_w X w tE cnt wd sz st pt lk t1 rk s1) 130 [some (.ref (pw_a X 20 0)), some (.int (nI a)), some (.int (nI b)), some (.ref (pw_a X 26 0)), some (.int (nI k)), some (.int (nI q)), none, none, none] [] := by
    intro k hk s1 hs hcont d
    induction d with
    | zero =>
      intro q hqd t1 h1 h2
      refine pw_iload C d_MO_chain_130 rfl ?_
      refine pw_bipush C d_MO_chain_132 (v := 64) (by decide) ?_
      refine pw_icmp_ge C 162 d_MO_chain_134 (by decide) (fun h134 => ?_) (fun h134 => ?_)
      · refine MW.less (lv' := [some (.ref (pw_a X 20 0)), some (.int (nI a)), some (.int (nI b)), some (.ref (pw_a X 26 0)), some (.int (nI k)), none, none, none, none]) (by intro i v h; rcases i with _ | _ | _ | _ | _ | _ | _ | _ | _ | i <;> first | exact h | (simp at h)) (hcont t1 (fun x hx y hy => ?_) h2)
        rw [h1 x hx y hy]
        by_cases c : x < k + 1
        · rw [if_pos c, if_pos (by omega)]
        · rw [if_neg c, if_neg (by omega)]
      · exact absurd (nI_le (a := 64) (b := q) (by omega) (by omega)) h134
    | succ d ih =>
      intro q hqd t1 h1 h2
      refine pw_iload C d_MO_chain_130 rfl ?_
      refine pw_bipush C d_MO_chain_132 (v := 64) (by decide) ?_
      refine pw_icmp_ge C 162 d_MO_chain_134 (by decide) (fun h134 => ?_) (fun h134 => ?_)
      · exact absurd ((nI_leI (a := 64) (by decide) (by omega)).mp h134) (by omega)
      refine pw_aload_n C d_MO_chain_137 rfl ?_
      refine pw_get C d_MO_chain_138 (hX 20 0 rfl) rfl 7 rfl rfl (by decide) in_MO W_350 rfl ?_
      refine pw_iload_n C d_MO_chain_141 rfl ?_
      refine pw_bipush C d_MO_chain_142 (v := 64) (by decide) ?_
      refine pw_iload C d_MO_chain_144 rfl ?_
      refine pw_imul C d_MO_chain_146 ?_
      refine pw_iadd C d_MO_chain_147 ?_
      refine pw_iload C d_MO_chain_148 rfl ?_
      refine pw_iadd C d_MO_chain_150 ?_
      rw [ix3]
      refine pw_aload_n C d_MO_chain_151 rfl ?_
      refine pw_iload C d_MO_chain_152 rfl ?_
      refine pw_laldK C d_MO_chain_154 (hX 26 0 rfl) rfl (by omega) ?_
      refine pw_lastK C d_MO_chain_155 (hX 25 0 rfl) rfl (by omega) ?_
      rw [hs q (by omega)]
      refine MW.world m_u25 ?_
      refine pw_iinc1 C d_MO_chain_156 rfl (by decide) ?_
      refine pw_goto C 130 d_MO_chain_159 (by decide) ?_
      refine ih (q + 1) (by omega) _ (fun x hx y hy => ?_) (fun z hz => ?_)
      · by_cases c : x = k ∧ y = q
        · obtain ⟨rfl, rfl⟩ := c
          rw [pk_uLs, if_pos (by omega)]
        · rw [pk_uLn (by omega), h1 x hx y hy]
          by_cases c2 : x < k ∨ (x = k ∧ y < q)
          · rw [if_pos c2, if_pos (by omega)]
          · rw [if_neg c2, if_neg (by omega)]
      · rw [pk_uLn (by omega)]; exact h2 z hz
  have L3 : ∀ k q : Nat, k < 64 → q < 64 → ∀ t1 : Nat → Int64, (∀ x, x < 64 → ∀ y, y < 64 → t1 (a + 64 * x + y) = if x < k then lN (cp_f (sg_f (fun z => A x z * Bm z y) 64)) else lN (A x y)) → (∀ z, (z < a ∨ a + 4096 ≤ z) → t1 z = tb z) → (∀ s1 : Nat → Int64, (∀ y, y < 64 → s1 y = lN (cp_f (sg_f (fun z => A k z * Bm z y) (q + 1)))) → MW zp l ze ({ frames := 1, cells := 0, slots := 0, locals := 23 } : Room) zs zm za zb zt zc X 9 0 0 (MQ zb (va_Qv (fun w1 => ∃ t1 s1, w1 = m_w X w tE cnt wd sz st pt lk t1 rk s1 ∧ (∀ x, x < 64 → ∀ y, y < 64 → t1 (a + 64 * x + y) = lN (cp_f (sg_f (fun z => A x z * Bm z y) 64))) ∧ ∀ z, (z < a ∨ a + 4096 ≤ z) → t1 z = tb z) (pw_B X) (pw_F X)) za zs 0 0 (pw_F X)) (m_w X w tE cnt wd sz st pt lk t1 rk s1) 121 [some (.ref (pw_a X 20 0)), some (.int (nI a)), some (.int (nI b)), some (.ref (pw_a X 26 0)), some (.int (nI k)), some (.int (nI q)), none, none, none] []) → ∀ d u : Nat, u + d = 64 → ∀ s1 : Nat → Int64, (∀ y, y < 64 → s1 y = if y < u then lN (cp_f (sg_f (fun z => A k z * Bm z y) (q + 1))) else lN (cp_f (sg_f (fun z => A k z * Bm z y) q))) → MW zp l ze ({ frames := 1, cells := 0, slots := 0, locals := 23 } : Room) zs zm za zb zt zc X 9 0 0 (MQ zb (va_Qv (fun w1 => ∃ t1 s1, w1 = m_w X w tE cnt wd sz st pt lk t1 rk s1 ∧ (∀ x, x < 64 → ∀ y, y < 64 → t1 (a + 64 * x + y) = lN (cp_f (sg_f (fun z => A x z * Bm z y) 64))) ∧ ∀ z, (z < a ∨ a + 4096 ≤ z) → t1 z = tb z) (pw_B X) (pw_F X)) za zs 0 0 (pw_F X)) (m_w X w tE cnt wd sz st pt lk t1 rk s1) 76 [some (.ref (pw_a X 20 0)), some (.int (nI a)), some (.int (nI b)), some (.ref (pw_a X 26 0)), some (.int (nI k)), some (.int (nI q)), some (.long (lN (A k q))), none, some (.int (nI u))] [] := by
    intro k q hk hq t1 h1 h2 hcont d
    induction d with
    | zero =>
      intro u hud s1 hs
      refine pw_iload C d_MO_chain_76 rfl ?_
      refine pw_bipush C d_MO_chain_78 (v := 64) (by decide) ?_
      refine pw_icmp_ge C 121 d_MO_chain_80 (by decide) (fun h80 => ?_) (fun h80 => ?_)
      · exact MW.less (lv' := [some (.ref (pw_a X 20 0)), some (.int (nI a)), some (.int (nI b)), some (.ref (pw_a X 26 0)), some (.int (nI k)), some (.int (nI q)), none, none, none]) (by intro i v h; rcases i with _ | _ | _ | _ | _ | _ | _ | _ | _ | i <;> first | exact h | (simp at h)) (hcont s1 (fun y hy => by rw [hs y hy, if_pos (by omega)]))
      · exact absurd (nI_le (a := 64) (b := u) (by omega) (by omega)) h80
    | succ d ih =>
      intro u hud s1 hs
      have hu : u < 64 := by omega
      refine pw_iload C d_MO_chain_76 rfl ?_
      refine pw_bipush C d_MO_chain_78 (v := 64) (by decide) ?_
      refine pw_icmp_ge C 121 d_MO_chain_80 (by decide) (fun h80 => ?_) (fun h80 => ?_)
      · exact absurd ((nI_leI (a := 64) (by decide) (by omega)).mp h80) (by omega)
      refine pw_aload_n C d_MO_chain_83 rfl ?_
      refine pw_iload C d_MO_chain_84 rfl ?_
      refine pw_aload_n C d_MO_chain_86 rfl ?_
      refine pw_iload C d_MO_chain_87 rfl ?_
      refine pw_laldK C d_MO_chain_89 (hX 26 0 rfl) rfl hu ?_
      refine pw_lload C d_MO_chain_90 rfl ?_
      refine pw_aload_n C d_MO_chain_92 rfl ?_
      refine pw_get C d_MO_chain_93 (hX 20 0 rfl) rfl 7 rfl rfl (by decide) in_MO W_350 rfl ?_
      refine pw_iload_n C d_MO_chain_96 rfl ?_
      refine pw_bipush C d_MO_chain_97 (v := 64) (by decide) ?_
      refine pw_iload C d_MO_chain_99 rfl ?_
      refine pw_imul C d_MO_chain_101 ?_
      refine pw_iadd C d_MO_chain_102 ?_
      refine pw_iload C d_MO_chain_103 rfl ?_
      refine pw_iadd C d_MO_chain_105 ?_
      rw [ix3]
      refine pw_laldK C d_MO_chain_106 (hX 25 0 rfl) rfl (by omega) ?_
      rw [h2 _ (by omega), (hB q hq u hu).1]
      refine pw_callSl C (k_MO_product l hI _ (hA k hk q hq).2 (hB q hq u hu).2) ⟨pw_cb C 2 W_435 W_6 W_433 ⟨rfl, rfl⟩ (by decide +kernel) ⟨(Nat.le_of_ble_eq_true rfl), (Nat.le_of_ble_eq_true rfl)⟩, pw_w C W_434⟩ rfl rfl (Nat.le_of_ble_eq_true rfl) d_MO_chain_107 ⟨Nat.zero_le _, Nat.zero_le _⟩ (fun rp w9 hp => ?_)
      obtain ⟨e9, hp⟩ := hp
      subst hp
      refine MW.world e9 ?_
      refine pw_ladd C d_MO_chain_110 ?_
      rw [hs u hu, if_neg (by omega), lN_add]
      refine pw_callSl C (k_MO_least l hI _ (a := cp_f (sg_f (fun z => A k z * Bm z u) q) + cp_f (A k q * Bm q u)) (by have := cp_le (sg_f (fun z => A k z * Bm z u) q); have := cp_le (A k q * Bm q u); have := c15_63; unfold C15 at *; omega)) ⟨pw_cb C 1 W_439 W_6 W_437 ⟨rfl, rfl⟩ (by decide +kernel) ⟨(Nat.le_of_ble_eq_true rfl), (Nat.le_of_ble_eq_true rfl)⟩, pw_w C W_438⟩ rfl rfl (Nat.le_of_ble_eq_true rfl) d_MO_chain_111 ⟨Nat.zero_le _, Nat.zero_le _⟩ (fun rl w9 hp => ?_)
      obtain ⟨e9, hp⟩ := hp
      subst hp
      refine MW.world e9 ?_
      refine pw_lastK C d_MO_chain_114 (hX 26 0 rfl) rfl hu ?_
      refine MW.world m_u26 ?_
      refine pw_iinc1 C d_MO_chain_115 rfl (by decide) ?_
      refine pw_goto C 76 d_MO_chain_118 (by decide) ?_
      refine ih (u + 1) (by omega) _ (fun y hy => ?_)
      by_cases c : y = u
      · subst c
        rw [pk_uLs, if_pos (by omega), cp_add, cp_add']
        rfl
      · rw [pk_uLn c, hs y hy]
        by_cases c2 : y < u
        · rw [if_pos c2, if_pos (by omega)]
        · rw [if_neg c2, if_neg (by omega)]
  have L2 : ∀ k : Nat, k < 64 → ∀ t1 : Nat → Int64, (∀ x, x < 64 → ∀ y, y < 64 → t1 (a + 64 * x + y) = if x < k then lN (cp_f (sg_f (fun z => A x z * Bm z y) 64)) else lN (A x y)) → (∀ z, (z < a ∨ a + 4096 ≤ z) → t1 z = tb z) → (∀ s1 : Nat → Int64, (∀ y, y < 64 → s1 y = lN (cp_f (sg_f (fun z => A k z * Bm z y) 64))) → MW zp l ze ({ frames := 1, cells := 0, slots := 0, locals := 23 } : Room) zs zm za zb zt zc X 9 0 0 (MQ zb (va_Qv (fun w1 => ∃ t1 s1, w1 = m_w X w tE cnt wd sz st pt lk t1 rk s1 ∧ (∀ x, x < 64 → ∀ y, y < 64 → t1 (a + 64 * x + y) = lN (cp_f (sg_f (fun z => A x z * Bm z y) 64))) ∧ ∀ z, (z < a ∨ a + 4096 ≤ z) → t1 z = tb z) (pw_B X) (pw_F X)) za zs 0 0 (pw_F X)) (m_w X w tE cnt wd sz st pt lk t1 rk s1) 127 [some (.ref (pw_a X 20 0)), some (.int (nI a)), some (.int (nI b)), some (.ref (pw_a X 26 0)), some (.int (nI k)), none, none, none, none] []) → ∀ d q : Nat, q + d = 64 → ∀ s1 : Nat → Int64, (∀ y, y < 64 → s1 y = lN (cp_f (sg_f (fun z => A k z * Bm z y) q))) → MW zp l ze ({ frames := 1, cells := 0, slots := 0, locals := 23 } : Room) zs zm za zb zt zc X 9 0 0 (MQ zb (va_Qv (fun w1 => ∃ t1 s1, w1 = m_w X w tE cnt wd sz st pt lk t1 rk s1 ∧ (∀ x, x < 64 → ∀ y, y < 64 → t1 (a + 64 * x + y) = lN (cp_f (sg_f (fun z => A x z * Bm z y) 64))) ∧ ∀ z, (z < a ∨ a + 4096 ≤ z) → t1 z = tb z) (pw_B X) (pw_F X)) za zs 0 0 (pw_F X)) (m_w X w tE cnt wd sz st pt lk t1 rk s1) 39 [some (.ref (pw_a X 20 0)), some (.int (nI a)), some (.int (nI b)), some (.ref (pw_a X 26 0)), some (.int (nI k)), some (.int (nI q)), none, none, none] [] := by
    intro k hk t1 h1 h2 hcont d
    induction d with
    | zero =>
      intro q hqd s1 hs
      have hq64 : q = 64 := by omega
      subst hq64
      refine pw_iload C d_MO_chain_39 rfl ?_
      refine pw_bipush C d_MO_chain_41 (v := 64) (by decide) ?_
      refine pw_icmp_ge C 127 d_MO_chain_43 (by decide) (fun h43 => ?_) (fun h43 => ?_)
      · exact MW.less (lv' := [some (.ref (pw_a X 20 0)), some (.int (nI a)), some (.int (nI b)), some (.ref (pw_a X 26 0)), some (.int (nI k)), none, none, none, none]) (by intro i v h; rcases i with _ | _ | _ | _ | _ | _ | _ | _ | _ | i <;> first | exact h | (simp at h)) (hcont s1 hs)
      · exact absurd (nI_le (a := 64) (b := 64) (by omega) (by omega)) h43
    | succ d ih =>
      intro q hqd s1 hs
      have hq : q < 64 := by omega
      have e0 : t1 (a + 64 * k + q) = lN (A k q) := by rw [h1 k hk q hq, if_neg (by omega)]
      refine pw_iload C d_MO_chain_39 rfl ?_
      refine pw_bipush C d_MO_chain_41 (v := 64) (by decide) ?_
      refine pw_icmp_ge C 127 d_MO_chain_43 (by decide) (fun h43 => ?_) (fun h43 => ?_)
      · exact absurd ((nI_leI (a := 64) (by decide) (by omega)).mp h43) (by omega)
      refine pw_aload_n C d_MO_chain_46 rfl ?_
      refine pw_get C d_MO_chain_47 (hX 20 0 rfl) rfl 7 rfl rfl (by decide) in_MO W_350 rfl ?_
      refine pw_iload_n C d_MO_chain_50 rfl ?_
      refine pw_bipush C d_MO_chain_51 (v := 64) (by decide) ?_
      refine pw_iload C d_MO_chain_53 rfl ?_
      refine pw_imul C d_MO_chain_55 ?_
      refine pw_iadd C d_MO_chain_56 ?_
      refine pw_iload C d_MO_chain_57 rfl ?_
      refine pw_iadd C d_MO_chain_59 ?_
      rw [ix3]
      refine pw_laldK C d_MO_chain_60 (hX 25 0 rfl) rfl (by omega) ?_
      rw [e0]
      refine pw_lstore C d_MO_chain_61 (by decide) ?_
      refine pw_lload C d_MO_chain_63 rfl ?_
      refine pw_lconst C d_MO_chain_65 (v := 0) (by decide) ?_
      refine pw_lcmp C d_MO_chain_66 ?_
      refine pw_if_ne C 73 d_MO_chain_67 (by decide) (fun h67 => ?_) (fun h67 => ?_)
      · refine pw_iconst C d_MO_chain_73 (v := 0) (by decide) ?_
        refine pw_istore C d_MO_chain_74 (by decide) ?_
        refine L3 k q hk hq t1 h1 h2 ?_ 64 0 rfl s1 (fun y hy => by rw [if_neg (by omega)]; exact hs y hy)
        intro s2 g1
        refine pw_iinc1 C d_MO_chain_121 rfl (by decide) ?_
        refine pw_goto C 39 d_MO_chain_124 (by decide) ?_
        exact ih (q + 1) (by omega) s2 g1
      · refine pw_goto C 121 d_MO_chain_70 (by decide) ?_
        refine pw_iinc1 C d_MO_chain_121 rfl (by decide) ?_
        refine pw_goto C 39 d_MO_chain_124 (by decide) ?_
        refine MW.less (lv' := [some (.ref (pw_a X 20 0)), some (.int (nI a)), some (.int (nI b)), some (.ref (pw_a X 26 0)), some (.int (nI k)), some (.int (nI (q + 1))), none, none, none]) (by intro i v h; rcases i with _ | _ | _ | _ | _ | _ | _ | _ | _ | i <;> first | exact h | (simp at h)) ?_
        refine ih (q + 1) (by omega) s1 (fun y hy => ?_)
        rw [hs y hy]
        show _ = lN (cp_f (sg_f (fun z => A k z * Bm z y) q + A k q * Bm q y))
        rw [(lN_z (hA k hk q hq).2).mp ((lc_eq _ _).mp h67), Nat.zero_mul, Nat.add_zero]
  have L1 : ∀ k : Nat, k < 64 → ∀ t1 : Nat → Int64, (∀ s1 : Nat → Int64, (∀ y, y < 64 → s1 y = 0) → MW zp l ze ({ frames := 1, cells := 0, slots := 0, locals := 23 } : Room) zs zm za zb zt zc X 9 0 0 (MQ zb (va_Qv (fun w1 => ∃ t1 s1, w1 = m_w X w tE cnt wd sz st pt lk t1 rk s1 ∧ (∀ x, x < 64 → ∀ y, y < 64 → t1 (a + 64 * x + y) = lN (cp_f (sg_f (fun z => A x z * Bm z y) 64))) ∧ ∀ z, (z < a ∨ a + 4096 ≤ z) → t1 z = tb z) (pw_B X) (pw_F X)) za zs 0 0 (pw_F X)) (m_w X w tE cnt wd sz st pt lk t1 rk s1) 36 [some (.ref (pw_a X 20 0)), some (.int (nI a)), some (.int (nI b)), some (.ref (pw_a X 26 0)), some (.int (nI k)), none, none, none, none] []) → ∀ d q : Nat, q + d = 64 → ∀ s1 : Nat → Int64, (∀ y, y < q → s1 y = 0) → MW zp l ze ({ frames := 1, cells := 0, slots := 0, locals := 23 } : Room) zs zm za zb zt zc X 9 0 0 (MQ zb (va_Qv (fun w1 => ∃ t1 s1, w1 = m_w X w tE cnt wd sz st pt lk t1 rk s1 ∧ (∀ x, x < 64 → ∀ y, y < 64 → t1 (a + 64 * x + y) = lN (cp_f (sg_f (fun z => A x z * Bm z y) 64))) ∧ ∀ z, (z < a ∨ a + 4096 ≤ z) → t1 z = tb z) (pw_B X) (pw_F X)) za zs 0 0 (pw_F X)) (m_w X w tE cnt wd sz st pt lk t1 rk s1) 18 [some (.ref (pw_a X 20 0)), some (.int (nI a)), some (.int (nI b)), some (.ref (pw_a X 26 0)), some (.int (nI k)), some (.int (nI q)), none, none, none] [] := by
    intro k hk t1 hcont d
    induction d with
    | zero =>
      intro q hqd s1 hs
      refine pw_iload C d_MO_chain_18 rfl ?_
      refine pw_bipush C d_MO_chain_20 (v := 64) (by decide) ?_
      refine pw_icmp_ge C 36 d_MO_chain_22 (by decide) (fun h22 => ?_) (fun h22 => ?_)
      · exact MW.less (lv' := [some (.ref (pw_a X 20 0)), some (.int (nI a)), some (.int (nI b)), some (.ref (pw_a X 26 0)), some (.int (nI k)), none, none, none, none]) (by intro i v h; rcases i with _ | _ | _ | _ | _ | _ | _ | _ | _ | i <;> first | exact h | (simp at h)) (hcont s1 (fun y hy => hs y (by omega)))
      · exact absurd (nI_le (a := 64) (b := q) (by omega) (by omega)) h22
    | succ d ih =>
      intro q hqd s1 hs
      refine pw_iload C d_MO_chain_18 rfl ?_
      refine pw_bipush C d_MO_chain_20 (v := 64) (by decide) ?_
      refine pw_icmp_ge C 36 d_MO_chain_22 (by decide) (fun h22 => ?_) (fun h22 => ?_)
      · exact absurd ((nI_leI (a := 64) (by decide) (by omega)).mp h22) (by omega)
      refine pw_aload_n C d_MO_chain_25 rfl ?_
      refine pw_iload C d_MO_chain_26 rfl ?_
      refine pw_lconst C d_MO_chain_28 (v := 0) (by decide) ?_
      refine pw_lastK C d_MO_chain_29 (hX 26 0 rfl) rfl (by omega) ?_
      refine MW.world m_u26 ?_
      refine pw_iinc1 C d_MO_chain_30 rfl (by decide) ?_
      refine pw_goto C 18 d_MO_chain_33 (by decide) ?_
      refine ih (q + 1) (by omega) _ (fun y hy => ?_)
      by_cases c : y = q
      · subst c; exact pk_uLs
      · rw [pk_uLn c]; exact hs y (by omega)
  have L : ∀ d k : Nat, k + d = 64 → ∀ t1 s1 : Nat → Int64, (∀ x, x < 64 → ∀ y, y < 64 → t1 (a + 64 * x + y) = if x < k then lN (cp_f (sg_f (fun z => A x z * Bm z y) 64)) else lN (A x y)) → (∀ z, (z < a ∨ a + 4096 ≤ z) → t1 z = tb z) → MW zp l ze ({ frames := 1, cells := 0, slots := 0, locals := 23 } : Room) zs zm za zb zt zc X 9 0 0 (MQ zb (va_Qv (fun w1 => ∃ t1 s1, w1 = m_w X w tE cnt wd sz st pt lk t1 rk s1 ∧ (∀ x, x < 64 → ∀ y, y < 64 → t1 (a + 64 * x + y) = lN (cp_f (sg_f (fun z => A x z * Bm z y) 64))) ∧ ∀ z, (z < a ∨ a + 4096 ≤ z) → t1 z = tb z) (pw_B X) (pw_F X)) za zs 0 0 (pw_F X)) (m_w X w tE cnt wd sz st pt lk t1 rk s1) 8 [some (.ref (pw_a X 20 0)), some (.int (nI a)), some (.int (nI b)), some (.ref (pw_a X 26 0)), some (.int (nI k)), none, none, none, none] [] := by
    intro d
    induction d with
    | zero =>
      intro k hkd t1 s1 h1 h2
      refine pw_iload C d_MO_chain_8 rfl ?_
      refine pw_bipush C d_MO_chain_10 (v := 64) (by decide) ?_
      refine pw_icmp_ge C 168 d_MO_chain_12 (by decide) (fun h12 => ?_) (fun h12 => ?_)
      · refine pw_vret C zr zk d_MO_chain_168 ?_
        exact ⟨t1, s1, rfl, fun x hx y hy => by rw [h1 x hx y hy, if_pos (by omega)], h2⟩
      · exact absurd (nI_le (a := 64) (b := k) (by omega) (by omega)) h12
    | succ d ih =>
      intro k hkd t1 s1 h1 h2
      have hk : k < 64 := by omega
      refine pw_iload C d_MO_chain_8 rfl ?_
      refine pw_bipush C d_MO_chain_10 (v := 64) (by decide) ?_
      refine pw_icmp_ge C 168 d_MO_chain_12 (by decide) (fun h12 => ?_) (fun h12 => ?_)
      · exact absurd ((nI_leI (a := 64) (by decide) (by omega)).mp h12) (by omega)
      refine pw_iconst C d_MO_chain_15 (v := 0) (by decide) ?_
      refine pw_istore C d_MO_chain_16 (by decide) ?_
      refine L1 k hk t1 ?_ 64 0 rfl s1 (fun y hy => absurd hy (Nat.not_lt_zero y))
      intro s2 hs2
      refine pw_iconst C d_MO_chain_36 (v := 0) (by decide) ?_
      refine pw_istore C d_MO_chain_37 (by decide) ?_
      refine L2 k hk t1 h1 h2 ?_ 64 0 rfl s2 (fun y hy => hs2 y hy)
      intro s3 hs3
      refine pw_iconst C d_MO_chain_127 (v := 0) (by decide) ?_
      refine pw_istore C d_MO_chain_128 (by decide) ?_
      refine L4 k hk s3 hs3 ?_ 64 0 rfl t1 (fun x hx y hy => ?_) h2
      · intro t2 g1 g2
        refine pw_iinc1 C d_MO_chain_162 rfl (by decide) ?_
        refine pw_goto C 8 d_MO_chain_165 (by decide) ?_
        exact ih (k + 1) (by omega) t2 s3 g1 g2
      · rw [h1 x hx y hy]
        by_cases c : x < k
        · rw [if_pos c, if_pos (by omega)]
        · rw [if_neg c, if_neg (by omega)]
  refine pw_aload_n C d_MO_chain_0 rfl ?_
  refine pw_get C d_MO_chain_1 (hX 20 0 rfl) rfl 9 rfl rfl (by decide) in_MO W_352 rfl ?_
  refine pw_astore_n C d_MO_chain_4 (by decide) ?_
  refine pw_iconst C d_MO_chain_5 (v := 0) (by decide) ?_
  refine pw_istore C d_MO_chain_6 (by decide) ?_
  exact L 64 0 rfl tb sp (fun x hx y hy => by rw [if_neg (by omega)]; exact (hA x hx y hy).1) (fun z _ => rfl)
