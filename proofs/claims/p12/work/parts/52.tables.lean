/-! THE REFERENCE: products, and the loops over a table -/
theorem lc_gt (x y : Int64) : 0 < lg_cmp x y ↔ y < x := by
  unfold lg_cmp
  split
  · rename_i h; exact ⟨fun _ => h, fun _ => by decide⟩
  · rename_i h
    split
    · exact ⟨fun q => absurd q (by decide), fun q => absurd q h⟩
    · exact ⟨fun q => absurd q (by decide), fun q => absurd q h⟩
theorem lc_le (x y : Int64) : lg_cmp x y ≤ 0 ↔ ¬ y < x := by rw [← lc_gt, Int32.not_lt]
theorem ix3 (a x y : Nat) : nI a + 64 * nI x + nI y = nI (a + 64 * x + y) := by rw [show (64 : Int32) * nI x = nI (64 * x) from pk_mul 64 x, nI_add, nI_add]
theorem ix4 (l k : Nat) : 4096 * nI l + nI k = nI (4096 * l + k) := by rw [show (4096 : Int32) * nI l = nI (4096 * l) from pk_mul 4096 l, nI_add]
theorem c15_63 : C15 < 2 ^ 62 := by decide
theorem lN_z {a : Nat} (h : a ≤ C15) : lN a = 0 ↔ a = 0 := pk_lEQ (a := a) (b := 0) (Nat.lt_of_le_of_lt h (by decide)) (by decide)
theorem lN_p {a : Nat} (h : a ≤ C15) : 0 < lN a ↔ a ≠ 0 := by
  have := pk_lLT (a := 0) (b := a) (by decide) (Nat.lt_of_le_of_lt h (by decide))
  rw [show (0 : Int64) = lN 0 from rfl, this]
  omega
theorem pr_f {a b : Nat} (ha : a ≤ C15) (hb : b ≤ C15) (h0 : 0 < a) : (lN ((C15 : Nat)) / lN a < lN b ↔ C15 < a * b) := by
  rw [pk_lDiv (by decide) h0 (Nat.lt_of_le_of_lt ha (by decide))]
  rw [pk_lLT (Nat.lt_of_le_of_lt (Nat.div_le_self _ _) (by decide)) (Nat.lt_of_le_of_lt hb (by decide)), Nat.div_lt_iff_lt_mul h0, Nat.mul_comm]
set_option maxHeartbeats 4000000 in
set_option maxRecDepth 100000 in
theorem k_MO_product (l : Launch) {X : Lay} (hI : pw_I X) (w : Wd) {a b : Nat} (ha : a ≤ C15) (hb : b ≤ C15) : CtL l y_MO_product (pw_ws y_MO_product c_MO_product 4 (some .long)) { frames := 0, cells := 0, slots := 0, locals := 0 } X w [.long (lN a), .long (lN b)] (fun r w1 => w1 = w ∧ r = lN (cp_f (a * b))) := by
  refine pw_open (by decide) hI [some (.long (lN a)), none, some (.long (lN b)), none] rfl (Nat.le_of_ble_eq_true rfl) ?_
  intro zp ze zs zm za zb zt zc hargs C zr zk hnm
  refine pw_lload_n C d_MO_product_0 rfl ?_
  refine pw_lconst C d_MO_product_1 (v := 0) (by decide) ?_
  refine pw_lcmp C d_MO_product_2 ?_
  refine pw_if_eq C 12 d_MO_product_3 (by decide) (fun h3 => ?_) (fun h3 => ?_)
  · refine pw_lconst C d_MO_product_12 (v := 0) (by decide) ?_
    refine pw_goto C 35 d_MO_product_13 (by decide) ?_
    refine pw_lret C zr zk d_MO_product_35 ?_
    refine ⟨rfl, ?_⟩
    rw [(lN_z ha).mp ((lc_eq _ _).mp h3), Nat.zero_mul]
    rfl
  · refine pw_lload_n C d_MO_product_6 rfl ?_
    refine pw_lconst C d_MO_product_7 (v := 0) (by decide) ?_
    refine pw_lcmp C d_MO_product_8 ?_
    refine pw_if_ne C 16 d_MO_product_9 (by decide) (fun h9 => ?_) (fun h9 => ?_)
    · refine pw_lload_n C d_MO_product_16 rfl ?_
      refine pw_ldc2_w C d_MO_product_17 (v := 1000000000000000) W_436 ?_
      refine pw_lload_n C d_MO_product_20 rfl ?_
      refine pw_ldiv C d_MO_product_21 (fun q => h3 ((lc_eq _ _).mpr q)) ?_
      refine pw_lcmp C d_MO_product_22 ?_
      refine pw_if_le C 32 d_MO_product_23 (by decide) (fun h23 => ?_) (fun h23 => ?_)
      · refine pw_lload_n C d_MO_product_32 rfl ?_
        refine pw_lload_n C d_MO_product_33 rfl ?_
        refine pw_lmul C d_MO_product_34 ?_
        refine pw_lret C zr zk d_MO_product_35 ?_
        refine ⟨rfl, ?_⟩
        have h0 : 0 < a := Nat.pos_of_ne_zero (fun q => h3 ((lc_eq _ _).mpr ((lN_z ha).mpr q)))
        have := mt (pr_f ha hb h0).mpr ((lc_le _ _).mp h23)
        rw [cp_id (by omega), lN_mul]
      · refine pw_ldc2_w C d_MO_product_26 (v := 1000000000000000) W_436 ?_
        refine pw_goto C 35 d_MO_product_29 (by decide) ?_
        refine pw_lret C zr zk d_MO_product_35 ?_
        refine ⟨rfl, ?_⟩
        have h0 : 0 < a := Nat.pos_of_ne_zero (fun q => h3 ((lc_eq _ _).mpr ((lN_z ha).mpr q)))
        have h1 : lN ((C15 : Nat)) / lN a < lN b := Classical.byContradiction (fun q => h23 ((lc_le _ _).mpr q))
        have := (pr_f ha hb h0).mp h1
        rw [cp_big (by omega)]
        rfl
    · refine pw_lconst C d_MO_product_12 (v := 0) (by decide) ?_
      refine pw_goto C 35 d_MO_product_13 (by decide) ?_
      refine pw_lret C zr zk d_MO_product_35 ?_
      refine ⟨rfl, ?_⟩
      rw [(lN_z hb).mp ((lc_eq _ _).mp h9), Nat.mul_zero]
      rfl
set_option maxHeartbeats 4000000 in
set_option maxRecDepth 100000 in
theorem k_MO_fall (l : Launch) {X : Lay} (hI : pw_I X) (hX : Dm X) (w : Wd) {tE : Nat → Bool} {cnt sz pt rk : Int32} {wd st lk : Nat → Int32} {tb sp : Nat → Int64} {a : Nat} (ha : a + 8192 ≤ 61440) : CtV l y_MO_fall (pw_ws y_MO_fall c_MO_fall 3 none) { frames := 0, cells := 0, slots := 0, locals := 0 } X (m_w X w tE cnt wd sz st pt lk tb rk sp) [.ref (pw_a X 20 0), .int (nI (a + 4096))] (fun w1 => ∃ t1, w1 = m_w X w tE cnt wd sz st pt lk t1 rk sp ∧ (∀ i, i < 4096 → t1 (a + i) = tb (a + 4096 + i)) ∧ ∀ z, (z < a ∨ a + 4096 ≤ z) → t1 z = tb z) := by
  refine pw_open (by decide) hI [some (.ref (pw_a X 20 0)), some (.int (nI (a + 4096))), none] rfl (Nat.le_of_ble_eq_true rfl) ?_
  intro zp ze zs zm za zb zt zc hargs C zr zk hnm
  have L : ∀ d k : Nat, k + d = 4096 → ∀ t1 : Nat → Int64, (∀ i, i < k → t1 (a + i) = tb (a + 4096 + i)) → (∀ z, (z < a ∨ a + k ≤ z) → t1 z = tb z) → MW zp l ze ({ frames := 0, cells := 0, slots := 0, locals := 0 } : Room) zs zm za zb zt zc X 3 0 0 (MQ zb (va_Qv (fun w1 => ∃ t1, w1 = m_w X w tE cnt wd sz st pt lk t1 rk sp ∧ (∀ i, i < 4096 → t1 (a + i) = tb (a + 4096 + i)) ∧ ∀ z, (z < a ∨ a + 4096 ≤ z) → t1 z = tb z) (pw_B X) (pw_F X)) za zs 0 0 (pw_F X)) (m_w X w tE cnt wd sz st pt lk t1 rk sp) 2 [some (.ref (pw_a X 20 0)), some (.int (nI (a + 4096))), some (.int (nI k))] [] := by
    intro d
    induction d with
    | zero =>
      intro k hkd t1 h1 h2
      refine pw_iload_n C d_MO_fall_2 rfl ?_
      refine pw_sipush C d_MO_fall_3 (v := 4096) (by decide) ?_
      refine pw_icmp_ge C 35 d_MO_fall_6 (by decide) (fun h6 => ?_) (fun h6 => ?_)
      · refine pw_vret C zr zk d_MO_fall_35 ?_
        exact ⟨t1, rfl, fun i hi => h1 i (by omega), fun z hz => h2 z (by omega)⟩
      · exact absurd (nI_le (a := 4096) (b := k) (by omega) (by omega)) h6
    | succ d ih =>
      intro k hkd t1 h1 h2
      refine pw_iload_n C d_MO_fall_2 rfl ?_
      refine pw_sipush C d_MO_fall_3 (v := 4096) (by decide) ?_
      refine pw_icmp_ge C 35 d_MO_fall_6 (by decide) (fun h6 => ?_) (fun h6 => ?_)
      · exact absurd ((nI_leI (a := 4096) (by decide) (by omega)).mp h6) (by omega)
      refine pw_aload_n C d_MO_fall_9 rfl ?_
      refine pw_get C d_MO_fall_10 (hX 20 0 rfl) rfl 7 rfl rfl (by decide) in_MO W_350 rfl ?_
      refine pw_iload_n C d_MO_fall_13 rfl ?_
      refine pw_sipush C d_MO_fall_14 (v := 4096) (by decide) ?_
      refine pw_isub C d_MO_fall_17 ?_
      refine pw_iload_n C d_MO_fall_18 rfl ?_
      refine pw_iadd C d_MO_fall_19 ?_
      rw [show nI (a + 4096) - 4096 = nI a from by rw [show (4096 : Int32) = nI 4096 from rfl, pk_sub (by omega), Nat.add_sub_cancel], nI_add]
      refine pw_aload_n C d_MO_fall_20 rfl ?_
      refine pw_get C d_MO_fall_21 (hX 20 0 rfl) rfl 7 rfl rfl (by decide) in_MO W_350 rfl ?_
      refine pw_iload_n C d_MO_fall_24 rfl ?_
      refine pw_iload_n C d_MO_fall_25 rfl ?_
      refine pw_iadd C d_MO_fall_26 ?_
      rw [nI_add]
      refine pw_laldK C d_MO_fall_27 (hX 25 0 rfl) rfl (by omega) ?_
      refine pw_lastK C d_MO_fall_28 (hX 25 0 rfl) rfl (by omega) ?_
      refine MW.world m_u25 ?_
      refine pw_iinc1 C d_MO_fall_29 rfl (by decide) ?_
      refine pw_goto C 2 d_MO_fall_32 (by decide) ?_
      refine ih (k + 1) (by omega) _ (fun i hi => ?_) (fun z hz => ?_)
      · by_cases q : i = k
        · subst q; rw [pk_uLs, h2 _ (by omega)]
        · rw [pk_uLn (by omega)]; exact h1 i (by omega)
      · rw [pk_uLn (by omega)]; exact h2 z (by omega)
  refine pw_iconst C d_MO_fall_0 (v := 0) (by decide) ?_
  refine pw_istore_n C d_MO_fall_1 (by decide) ?_
  exact L 4096 0 rfl tb (fun i hi => absurd hi (Nat.not_lt_zero i)) (fun z _ => rfl)
set_option maxHeartbeats 4000000 in
set_option maxRecDepth 100000 in
theorem k_MO_mark (l : Launch) {X : Lay} (hI : pw_I X) (hX : Dm X) (w : Wd) {tE : Nat → Bool} {cnt sz pt rk : Int32} {wd st lk : Nat → Int32} {tb sp : Nat → Int64} {a : Nat} (ha : a + 4096 ≤ 61440) (b : Bool) : CtV l y_MO_mark (pw_ws y_MO_mark c_MO_mark 5 none) { frames := 0, cells := 0, slots := 0, locals := 0 } X (m_w X w tE cnt wd sz st pt lk tb rk sp) [.ref (pw_a X 20 0), .int (nI a), .int (bi_f b)] (fun w1 => ∃ t1, w1 = m_w X w tE cnt wd sz st pt lk t1 rk sp ∧ (∀ i, i < 4096 → t1 (a + i) = if 0 < tb (a + i) ∨ (b = true ∧ i / 64 = i % 64) then 1 else 0) ∧ ∀ z, (z < a ∨ a + 4096 ≤ z) → t1 z = tb z) := by
  refine pw_open (by decide) hI [some (.ref (pw_a X 20 0)), some (.int (nI a)), some (.int (bi_f b)), none, none] rfl (Nat.le_of_ble_eq_true rfl) ?_
  intro zp ze zs zm za zb zt zc hargs C zr zk hnm
  have L : ∀ d k : Nat, k + d = 4096 → ∀ t1 : Nat → Int64, (∀ i, i < k → t1 (a + i) = if 0 < tb (a + i) ∨ (b = true ∧ i / 64 = i % 64) then 1 else 0) → (∀ z, (z < a ∨ a + k ≤ z) → t1 z = tb z) → MW zp l ze ({ frames := 0, cells := 0, slots := 0, locals := 0 } : Room) zs zm za zb zt zc X 5 0 0 (MQ zb (va_Qv (fun w1 => ∃ t1, w1 = m_w X w tE cnt wd sz st pt lk t1 rk sp ∧ (∀ i, i < 4096 → t1 (a + i) = if 0 < tb (a + i) ∨ (b = true ∧ i / 64 = i % 64) then 1 else 0) ∧ ∀ z, (z < a ∨ a + 4096 ≤ z) → t1 z = tb z) (pw_B X) (pw_F X)) za zs 0 0 (pw_F X)) (m_w X w tE cnt wd sz st pt lk t1 rk sp) 2 [some (.ref (pw_a X 20 0)), some (.int (nI a)), some (.int (bi_f b)), some (.int (nI k)), none] [] := by
    intro d
    induction d with
    | zero =>
      intro k hkd t1 h1 h2
      refine pw_iload_n C d_MO_mark_2 rfl ?_
      refine pw_sipush C d_MO_mark_3 (v := 4096) (by decide) ?_
      refine pw_icmp_ge C 68 d_MO_mark_6 (by decide) (fun h6 => ?_) (fun h6 => ?_)
      · refine pw_vret C zr zk d_MO_mark_68 ?_
        exact ⟨t1, rfl, fun i hi => h1 i (by omega), fun z hz => h2 z (by omega)⟩
      · exact absurd (nI_le (a := 4096) (b := k) (by omega) (by omega)) h6
    | succ d ih =>
      intro k hkd t1 h1 h2
      have htk : t1 (a + k) = tb (a + k) := h2 _ (by omega)
      refine pw_iload_n C d_MO_mark_2 rfl ?_
      refine pw_sipush C d_MO_mark_3 (v := 4096) (by decide) ?_
      refine pw_icmp_ge C 68 d_MO_mark_6 (by decide) (fun h6 => ?_) (fun h6 => ?_)
      · exact absurd ((nI_leI (a := 4096) (by decide) (by omega)).mp h6) (by omega)
      refine pw_aload_n C d_MO_mark_9 rfl ?_
      refine pw_get C d_MO_mark_10 (hX 20 0 rfl) rfl 7 rfl rfl (by decide) in_MO W_350 rfl ?_
      refine pw_iload_n C d_MO_mark_13 rfl ?_
      refine pw_iload_n C d_MO_mark_14 rfl ?_
      refine pw_iadd C d_MO_mark_15 ?_
      rw [nI_add]
      refine pw_laldK C d_MO_mark_16 (hX 25 0 rfl) rfl (by omega) ?_
      refine pw_lconst C d_MO_mark_17 (v := 0) (by decide) ?_
      refine pw_lcmp C d_MO_mark_18 ?_
      refine pw_if_gt C 37 d_MO_mark_19 (by decide) (fun h19 => ?_) (fun h19 => ?_)
      · refine pw_iconst C d_MO_mark_37 (v := 1) (by decide) ?_
        refine pw_goto C 42 d_MO_mark_38 (by decide) ?_
        refine pw_istore C d_MO_mark_42 (by decide) ?_
        refine pw_aload_n C d_MO_mark_44 rfl ?_
        refine pw_get C d_MO_mark_45 (hX 20 0 rfl) rfl 7 rfl rfl (by decide) in_MO W_350 rfl ?_
        refine pw_iload_n C d_MO_mark_48 rfl ?_
        refine pw_iload_n C d_MO_mark_49 rfl ?_
        refine pw_iadd C d_MO_mark_50 ?_
        rw [nI_add]
        refine pw_iload C d_MO_mark_51 rfl ?_
        refine pw_if_eq C 60 d_MO_mark_53 (by decide) (fun h53 => ?_) (fun h53 => ?_)
        · exact absurd h53 (by decide)
        refine pw_lconst C d_MO_mark_56 (v := 1) (by decide) ?_
        refine pw_goto C 61 d_MO_mark_57 (by decide) ?_
        refine pw_lastK C d_MO_mark_61 (hX 25 0 rfl) rfl (by omega) ?_
        refine MW.world m_u25 ?_
        refine pw_iinc1 C d_MO_mark_62 rfl (by decide) ?_
        refine pw_goto C 2 d_MO_mark_65 (by decide) ?_
        refine MW.less (lv' := [some (.ref (pw_a X 20 0)), some (.int (nI a)), some (.int (bi_f b)), some (.int (nI (k + 1))), none]) (by intro i v h; rcases i with _ | _ | _ | _ | _ | i <;> first | exact h | (simp at h)) ?_
        refine ih (k + 1) (by omega) _ (fun i hi => ?_) (fun z hz => ?_)
        · by_cases q : i = k
          · subst q
            rw [pk_uLs]
            exact (if_pos (Or.inl (by rw [← htk]; exact (lc_gt _ _).mp h19))).symm
          · rw [pk_uLn (by omega)]; exact h1 i (by omega)
        · rw [pk_uLn (by omega)]; exact h2 z (by omega)
      · refine pw_iload_n C d_MO_mark_22 rfl ?_
        refine pw_if_eq C 41 d_MO_mark_23 (by decide) (fun h23 => ?_) (fun h23 => ?_)
        · refine pw_iconst C d_MO_mark_41 (v := 0) (by decide) ?_
          refine pw_istore C d_MO_mark_42 (by decide) ?_
          refine pw_aload_n C d_MO_mark_44 rfl ?_
          refine pw_get C d_MO_mark_45 (hX 20 0 rfl) rfl 7 rfl rfl (by decide) in_MO W_350 rfl ?_
          refine pw_iload_n C d_MO_mark_48 rfl ?_
          refine pw_iload_n C d_MO_mark_49 rfl ?_
          refine pw_iadd C d_MO_mark_50 ?_
          rw [nI_add]
          refine pw_iload C d_MO_mark_51 rfl ?_
          refine pw_if_eq C 60 d_MO_mark_53 (by decide) (fun h53 => ?_) (fun h53 => ?_)
          · refine pw_lconst C d_MO_mark_60 (v := 0) (by decide) ?_
            refine pw_lastK C d_MO_mark_61 (hX 25 0 rfl) rfl (by omega) ?_
            refine MW.world m_u25 ?_
            refine pw_iinc1 C d_MO_mark_62 rfl (by decide) ?_
            refine pw_goto C 2 d_MO_mark_65 (by decide) ?_
            refine MW.less (lv' := [some (.ref (pw_a X 20 0)), some (.int (nI a)), some (.int (bi_f b)), some (.int (nI (k + 1))), none]) (by intro i v h; rcases i with _ | _ | _ | _ | _ | i <;> first | exact h | (simp at h)) ?_
            refine ih (k + 1) (by omega) _ (fun i hi => ?_) (fun z hz => ?_)
            · by_cases q : i = k
              · subst q
                rw [pk_uLs]
                exact (if_neg (fun q => q.elim (fun q => h19 ((lc_gt _ _).mpr (by rw [htk]; exact q))) (fun q => by rw [q.1] at h23; exact absurd h23 (by decide)))).symm
              · rw [pk_uLn (by omega)]; exact h1 i (by omega)
            · rw [pk_uLn (by omega)]; exact h2 z (by omega)
          · exact absurd rfl h53
        · refine pw_iload_n C d_MO_mark_26 rfl ?_
          refine pw_bipush C d_MO_mark_27 (v := 64) (by decide) ?_
          refine pw_idiv C d_MO_mark_29 (by decide) ?_
          refine pw_iload_n C d_MO_mark_30 rfl ?_
          refine pw_bipush C d_MO_mark_31 (v := 64) (by decide) ?_
          refine pw_irem C d_MO_mark_33 (by decide) ?_
          rw [show (64 : Int32) = nI 64 from rfl, pk_rem (a := k) (d := 64) (by omega) (by decide) (by decide), pk_div (a := k) (d := 64) (by omega) (by decide) (by decide)]
          refine pw_icmp_ne C 41 d_MO_mark_34 (by decide) (fun h34 => ?_) (fun h34 => ?_)
          · refine pw_iconst C d_MO_mark_41 (v := 0) (by decide) ?_
            refine pw_istore C d_MO_mark_42 (by decide) ?_
            refine pw_aload_n C d_MO_mark_44 rfl ?_
            refine pw_get C d_MO_mark_45 (hX 20 0 rfl) rfl 7 rfl rfl (by decide) in_MO W_350 rfl ?_
            refine pw_iload_n C d_MO_mark_48 rfl ?_
            refine pw_iload_n C d_MO_mark_49 rfl ?_
            refine pw_iadd C d_MO_mark_50 ?_
            rw [nI_add]
            refine pw_iload C d_MO_mark_51 rfl ?_
            refine pw_if_eq C 60 d_MO_mark_53 (by decide) (fun h53 => ?_) (fun h53 => ?_)
            · refine pw_lconst C d_MO_mark_60 (v := 0) (by decide) ?_
              refine pw_lastK C d_MO_mark_61 (hX 25 0 rfl) rfl (by omega) ?_
              refine MW.world m_u25 ?_
              refine pw_iinc1 C d_MO_mark_62 rfl (by decide) ?_
              refine pw_goto C 2 d_MO_mark_65 (by decide) ?_
              refine MW.less (lv' := [some (.ref (pw_a X 20 0)), some (.int (nI a)), some (.int (bi_f b)), some (.int (nI (k + 1))), none]) (by intro i v h; rcases i with _ | _ | _ | _ | _ | i <;> first | exact h | (simp at h)) ?_
              refine ih (k + 1) (by omega) _ (fun i hi => ?_) (fun z hz => ?_)
              · by_cases q : i = k
                · subst q
                  rw [pk_uLs]
                  exact (if_neg (fun q => q.elim (fun q => h19 ((lc_gt _ _).mpr (by rw [htk]; exact q))) (fun q => h34 (by rw [q.2])))).symm
                · rw [pk_uLn (by omega)]; exact h1 i (by omega)
              · rw [pk_uLn (by omega)]; exact h2 z (by omega)
            · exact absurd rfl h53
          · refine pw_iconst C d_MO_mark_37 (v := 1) (by decide) ?_
            refine pw_goto C 42 d_MO_mark_38 (by decide) ?_
            refine pw_istore C d_MO_mark_42 (by decide) ?_
            refine pw_aload_n C d_MO_mark_44 rfl ?_
            refine pw_get C d_MO_mark_45 (hX 20 0 rfl) rfl 7 rfl rfl (by decide) in_MO W_350 rfl ?_
            refine pw_iload_n C d_MO_mark_48 rfl ?_
            refine pw_iload_n C d_MO_mark_49 rfl ?_
            refine pw_iadd C d_MO_mark_50 ?_
            rw [nI_add]
            refine pw_iload C d_MO_mark_51 rfl ?_
            refine pw_if_eq C 60 d_MO_mark_53 (by decide) (fun h53 => ?_) (fun h53 => ?_)
            · exact absurd h53 (by decide)
            refine pw_lconst C d_MO_mark_56 (v := 1) (by decide) ?_
            refine pw_goto C 61 d_MO_mark_57 (by decide) ?_
            refine pw_lastK C d_MO_mark_61 (hX 25 0 rfl) rfl (by omega) ?_
            refine MW.world m_u25 ?_
            refine pw_iinc1 C d_MO_mark_62 rfl (by decide) ?_
            refine pw_goto C 2 d_MO_mark_65 (by decide) ?_
            refine MW.less (lv' := [some (.ref (pw_a X 20 0)), some (.int (nI a)), some (.int (bi_f b)), some (.int (nI (k + 1))), none]) (by intro i v h; rcases i with _ | _ | _ | _ | _ | i <;> first | exact h | (simp at h)) ?_
            refine ih (k + 1) (by omega) _ (fun i hi => ?_) (fun z hz => ?_)
            · by_cases q : i = k
              · subst q
                rw [pk_uLs]
                exact (if_pos (Or.inr ⟨by cases b with
                  | true => rfl
                  | false => exact absurd rfl h23, (nI_eq (by omega) (by omega)).mp h34⟩)).symm
              · rw [pk_uLn (by omega)]; exact h1 i (by omega)
            · rw [pk_uLn (by omega)]; exact h2 z (by omega)
  refine pw_iconst C d_MO_mark_0 (v := 0) (by decide) ?_
  refine pw_istore_n C d_MO_mark_1 (by decide) ?_
  exact L 4096 0 rfl tb (fun i hi => absurd hi (Nat.not_lt_zero i)) (fun z _ => rfl)
set_option maxHeartbeats 4000000 in
set_option maxRecDepth 100000 in
theorem k_MO_edgesOf (l : Launch) {X : Lay} (hI : pw_I X) (hX : Dm X) (w : Wd) {tE : Nat → Bool} {cnt sz pt rk : Int32} {wd st lk : Nat → Int32} {tb sp : Nat → Int64} {a : Nat} (ha : a + 4096 ≤ 61440) (v : Int32) : CtV l y_MO_edgesOf (pw_ws y_MO_edgesOf c_MO_edgesOf 7 none) { frames := 0, cells := 0, slots := 0, locals := 0 } X (m_w X w tE cnt wd sz st pt lk tb rk sp) [.ref (pw_a X 20 0), .int (nI a), .int v] (fun w1 => ∃ t1, w1 = m_w X w tE cnt wd sz st pt lk t1 rk sp ∧ (∀ i, i < 4096 → t1 (a + i) = lN (sg_f (fun b => if (decide ((v >>> (nI b &&& 31)) &&& 1 = 1) && tE (4096 * b + i)) then 1 else 0) 8)) ∧ ∀ z, (z < a ∨ a + 4096 ≤ z) → t1 z = tb z) := by
  refine pw_open (by decide) hI [some (.ref (pw_a X 20 0)), some (.int (nI a)), some (.int v), none, none, none, none] rfl (Nat.le_of_ble_eq_true rfl) ?_
  intro zp ze zs zm za zb zt zc hargs C zr zk hnm
  have Li : ∀ k : Nat, k < 4096 → ∀ t1 : Nat → Int64, MW zp l ze ({ frames := 0, cells := 0, slots := 0, locals := 0 } : Room) zs zm za zb zt zc X 7 0 0 (MQ zb (va_Qv (fun w1 => ∃ t1, w1 = m_w X w tE cnt wd sz st pt lk t1 rk sp ∧ (∀ i, i < 4096 → t1 (a + i) = lN (sg_f (fun b => if (decide ((v >>> (nI b &&& 31)) &&& 1 = 1) && tE (4096 * b + i)) then 1 else 0) 8)) ∧ ∀ z, (z < a ∨ a + 4096 ≤ z) → t1 z = tb z) (pw_B X) (pw_F X)) za zs 0 0 (pw_F X)) (m_w X w tE cnt wd sz st pt lk t1 rk sp) 64 [some (.ref (pw_a X 20 0)), some (.int (nI a)), some (.int v), some (.int (nI k)), some (.long (lN (sg_f (fun b => if (decide ((v >>> (nI b &&& 31)) &&& 1 = 1) && tE (4096 * b + k)) then 1 else 0) 8))), none, none] [] → ∀ d q : Nat, q + d = 8 → MW zp l ze ({ frames := 0, cells := 0, slots := 0, locals := 0 } : Room) zs zm za zb zt zc X 7 0 0 (MQ zb (va_Qv (fun w1 => ∃ t1, w1 = m_w X w tE cnt wd sz st pt lk t1 rk sp ∧ (∀ i, i < 4096 → t1 (a + i) = lN (sg_f (fun b => if (decide ((v >>> (nI b &&& 31)) &&& 1 = 1) && tE (4096 * b + i)) then 1 else 0) 8)) ∧ ∀ z, (z < a ∨ a + 4096 ≤ z) → t1 z = tb z) (pw_B X) (pw_F X)) za zs 0 0 (pw_F X)) (m_w X w tE cnt wd sz st pt lk t1 rk sp) 15 [some (.ref (pw_a X 20 0)), some (.int (nI a)), some (.int v), some (.int (nI k)), some (.long (lN (sg_f (fun b => if (decide ((v >>> (nI b &&& 31)) &&& 1 = 1) && tE (4096 * b + k)) then 1 else 0) q))), none, some (.int (nI q))] [] := by
    intro k hk t1 hcont d
    induction d with
    | zero =>
      intro q hqd
      have hq8 : q = 8 := by omega
      subst hq8
      refine pw_iload C d_MO_edgesOf_15 rfl ?_
      refine pw_bipush C d_MO_edgesOf_17 (v := 8) (by decide) ?_
      refine pw_icmp_ge C 64 d_MO_edgesOf_19 (by decide) (fun h19 => ?_) (fun h19 => ?_)
      · exact MW.less (lv' := [some (.ref (pw_a X 20 0)), some (.int (nI a)), some (.int v), some (.int (nI k)), some (.long (lN (sg_f (fun b => if (decide ((v >>> (nI b &&& 31)) &&& 1 = 1) && tE (4096 * b + k)) then 1 else 0) 8))), none, none]) (by intro i v h; rcases i with _ | _ | _ | _ | _ | _ | _ | i <;> first | exact h | (simp at h)) hcont
      · exact absurd (nI_le (a := 8) (b := 8) (by omega) (by omega)) h19
    | succ d ih =>
      intro q hqd
      refine pw_iload C d_MO_edgesOf_15 rfl ?_
      refine pw_bipush C d_MO_edgesOf_17 (v := 8) (by decide) ?_
      refine pw_icmp_ge C 64 d_MO_edgesOf_19 (by decide) (fun h19 => ?_) (fun h19 => ?_)
      · exact absurd ((nI_leI (a := 8) (by decide) (by omega)).mp h19) (by omega)
      refine pw_lload C d_MO_edgesOf_22 rfl ?_
      refine pw_iload_n C d_MO_edgesOf_24 rfl ?_
      refine pw_iload C d_MO_edgesOf_25 rfl ?_
      refine pw_ishr C d_MO_edgesOf_27 ?_
      refine pw_iconst C d_MO_edgesOf_28 (v := 1) (by decide) ?_
      refine pw_iand C d_MO_edgesOf_29 ?_
      refine pw_iconst C d_MO_edgesOf_30 (v := 1) (by decide) ?_
      refine pw_icmp_ne C 54 d_MO_edgesOf_31 (by decide) (fun h31 => ?_) (fun h31 => ?_)
      · refine pw_lconst C d_MO_edgesOf_54 (v := 0) (by decide) ?_
        refine pw_ladd C d_MO_edgesOf_55 ?_
        rw [show lN (sg_f (fun b => if (decide ((v >>> (nI b &&& 31)) &&& 1 = 1) && tE (4096 * b + k)) then 1 else 0) q) + 0 = lN (sg_f (fun b => if (decide ((v >>> (nI b &&& 31)) &&& 1 = 1) && tE (4096 * b + k)) then 1 else 0) (q + 1)) from by
          show _ = lN (sg_f (fun b => if (decide ((v >>> (nI b &&& 31)) &&& 1 = 1) && tE (4096 * b + k)) then 1 else 0) q + (if (decide ((v >>> (nI q &&& 31)) &&& 1 = 1) && tE (4096 * q + k)) then 1 else 0))
          rw [if_neg (by simp [h31])]; exact Int64.add_zero _]
        refine pw_lstore C d_MO_edgesOf_56 (by decide) ?_
        refine pw_iinc1 C d_MO_edgesOf_58 rfl (by decide) ?_
        refine pw_goto C 15 d_MO_edgesOf_61 (by decide) ?_
        exact ih (q + 1) (by omega)
      · refine pw_aload_n C d_MO_edgesOf_34 rfl ?_
        refine pw_get C d_MO_edgesOf_35 (hX 20 0 rfl) rfl 0 rfl rfl (by decide) in_MO W_343 rfl ?_
        refine pw_sipush C d_MO_edgesOf_38 (v := 4096) (by decide) ?_
        refine pw_iload C d_MO_edgesOf_41 rfl ?_
        refine pw_imul C d_MO_edgesOf_43 ?_
        refine pw_iload_n C d_MO_edgesOf_44 rfl ?_
        refine pw_iadd C d_MO_edgesOf_45 ?_
        rw [ix4]
        refine pw_zald C d_MO_edgesOf_46 (hX 21 0 rfl) rfl (vp_in_nI (n := 4096 * q + k) (by omega) (by decide)) ?_
        rw [nI_clamp (by omega)]
        refine pw_if_eq C 54 d_MO_edgesOf_47 (by decide) (fun h47 => ?_) (fun h47 => ?_)
        · refine pw_lconst C d_MO_edgesOf_54 (v := 0) (by decide) ?_
          refine pw_ladd C d_MO_edgesOf_55 ?_
          rw [show lN (sg_f (fun b => if (decide ((v >>> (nI b &&& 31)) &&& 1 = 1) && tE (4096 * b + k)) then 1 else 0) q) + 0 = lN (sg_f (fun b => if (decide ((v >>> (nI b &&& 31)) &&& 1 = 1) && tE (4096 * b + k)) then 1 else 0) (q + 1)) from by
            show _ = lN (sg_f (fun b => if (decide ((v >>> (nI b &&& 31)) &&& 1 = 1) && tE (4096 * b + k)) then 1 else 0) q + (if (decide ((v >>> (nI q &&& 31)) &&& 1 = 1) && tE (4096 * q + k)) then 1 else 0))
            rw [if_neg (by simp [bi_0.mp h47])]; exact Int64.add_zero _]
          refine pw_lstore C d_MO_edgesOf_56 (by decide) ?_
          refine pw_iinc1 C d_MO_edgesOf_58 rfl (by decide) ?_
          refine pw_goto C 15 d_MO_edgesOf_61 (by decide) ?_
          exact ih (q + 1) (by omega)
        · refine pw_lconst C d_MO_edgesOf_50 (v := 1) (by decide) ?_
          refine pw_goto C 55 d_MO_edgesOf_51 (by decide) ?_
          refine pw_ladd C d_MO_edgesOf_55 ?_
          rw [show lN (sg_f (fun b => if (decide ((v >>> (nI b &&& 31)) &&& 1 = 1) && tE (4096 * b + k)) then 1 else 0) q) + 1 = lN (sg_f (fun b => if (decide ((v >>> (nI b &&& 31)) &&& 1 = 1) && tE (4096 * b + k)) then 1 else 0) (q + 1)) from by
            show _ = lN (sg_f (fun b => if (decide ((v >>> (nI b &&& 31)) &&& 1 = 1) && tE (4096 * b + k)) then 1 else 0) q + (if (decide ((v >>> (nI q &&& 31)) &&& 1 = 1) && tE (4096 * q + k)) then 1 else 0))
            rw [if_pos (by simp only [Bool.and_eq_true, decide_eq_true_eq]; exact ⟨h31, by cases hq : tE (4096 * q + k) with | true => rfl | false => exact absurd (bi_0.mpr hq) h47⟩)]; exact lN_1 _]
          refine pw_lstore C d_MO_edgesOf_56 (by decide) ?_
          refine pw_iinc1 C d_MO_edgesOf_58 rfl (by decide) ?_
          refine pw_goto C 15 d_MO_edgesOf_61 (by decide) ?_
          exact ih (q + 1) (by omega)
  have L : ∀ d k : Nat, k + d = 4096 → ∀ t1 : Nat → Int64, (∀ i, i < k → t1 (a + i) = lN (sg_f (fun b => if (decide ((v >>> (nI b &&& 31)) &&& 1 = 1) && tE (4096 * b + i)) then 1 else 0) 8)) → (∀ z, (z < a ∨ a + k ≤ z) → t1 z = tb z) → MW zp l ze ({ frames := 0, cells := 0, slots := 0, locals := 0 } : Room) zs zm za zb zt zc X 7 0 0 (MQ zb (va_Qv (fun w1 => ∃ t1, w1 = m_w X w tE cnt wd sz st pt lk t1 rk sp ∧ (∀ i, i < 4096 → t1 (a + i) = lN (sg_f (fun b => if (decide ((v >>> (nI b &&& 31)) &&& 1 = 1) && tE (4096 * b + i)) then 1 else 0) 8)) ∧ ∀ z, (z < a ∨ a + 4096 ≤ z) → t1 z = tb z) (pw_B X) (pw_F X)) za zs 0 0 (pw_F X)) (m_w X w tE cnt wd sz st pt lk t1 rk sp) 2 [some (.ref (pw_a X 20 0)), some (.int (nI a)), some (.int v), some (.int (nI k)), none, none, none] [] := by
    intro d
    induction d with
    | zero =>
      intro k hkd t1 h1 h2
      refine pw_iload_n C d_MO_edgesOf_2 rfl ?_
      refine pw_sipush C d_MO_edgesOf_3 (v := 4096) (by decide) ?_
      refine pw_icmp_ge C 80 d_MO_edgesOf_6 (by decide) (fun h6 => ?_) (fun h6 => ?_)
      · refine pw_vret C zr zk d_MO_edgesOf_80 ?_
        exact ⟨t1, rfl, fun i hi => h1 i (by omega), fun z hz => h2 z (by omega)⟩
      · exact absurd (nI_le (a := 4096) (b := k) (by omega) (by omega)) h6
    | succ d ih =>
      intro k hkd t1 h1 h2
      refine pw_iload_n C d_MO_edgesOf_2 rfl ?_
      refine pw_sipush C d_MO_edgesOf_3 (v := 4096) (by decide) ?_
      refine pw_icmp_ge C 80 d_MO_edgesOf_6 (by decide) (fun h6 => ?_) (fun h6 => ?_)
      · exact absurd ((nI_leI (a := 4096) (by decide) (by omega)).mp h6) (by omega)
      refine pw_lconst C d_MO_edgesOf_9 (v := 0) (by decide) ?_
      refine pw_lstore C d_MO_edgesOf_10 (by decide) ?_
      refine pw_iconst C d_MO_edgesOf_12 (v := 0) (by decide) ?_
      refine pw_istore C d_MO_edgesOf_13 (by decide) ?_
      refine Li k (by omega) t1 ?_ 8 0 rfl
      refine pw_aload_n C d_MO_edgesOf_64 rfl ?_
      refine pw_get C d_MO_edgesOf_65 (hX 20 0 rfl) rfl 7 rfl rfl (by decide) in_MO W_350 rfl ?_
      refine pw_iload_n C d_MO_edgesOf_68 rfl ?_
      refine pw_iload_n C d_MO_edgesOf_69 rfl ?_
      refine pw_iadd C d_MO_edgesOf_70 ?_
      rw [nI_add]
      refine pw_lload C d_MO_edgesOf_71 rfl ?_
      refine pw_lastK C d_MO_edgesOf_73 (hX 25 0 rfl) rfl (by omega) ?_
      refine MW.world m_u25 ?_
      refine pw_iinc1 C d_MO_edgesOf_74 rfl (by decide) ?_
      refine pw_goto C 2 d_MO_edgesOf_77 (by decide) ?_
      refine MW.less (lv' := [some (.ref (pw_a X 20 0)), some (.int (nI a)), some (.int v), some (.int (nI (k + 1))), none, none, none]) (by intro i v h; rcases i with _ | _ | _ | _ | _ | _ | _ | i <;> first | exact h | (simp at h)) ?_
      refine ih (k + 1) (by omega) _ (fun i hi => ?_) (fun z hz => ?_)
      · by_cases q : i = k
        · subst q; rw [pk_uLs]
        · rw [pk_uLn (by omega)]; exact h1 i (by omega)
      · rw [pk_uLn (by omega)]; exact h2 z (by omega)
  refine pw_iconst C d_MO_edgesOf_0 (v := 0) (by decide) ?_
  refine pw_istore_n C d_MO_edgesOf_1 (by decide) ?_
  exact L 4096 0 rfl tb (fun i hi => absurd hi (Nat.not_lt_zero i)) (fun z _ => rfl)
set_option maxHeartbeats 4000000 in
set_option maxRecDepth 100000 in
theorem k_MO_turn (l : Launch) {X : Lay} (hI : pw_I X) (hX : Dm X) (w : Wd) {tE : Nat → Bool} {cnt sz pt rk : Int32} {wd st lk : Nat → Int32} {tb sp : Nat → Int64} {a : Nat} (ha : a + 4096 ≤ 61440) : CtV l y_MO_turn (pw_ws y_MO_turn c_MO_turn 6 none) { frames := 0, cells := 0, slots := 0, locals := 0 } X (m_w X w tE cnt wd sz st pt lk tb rk sp) [.ref (pw_a X 20 0), .int (nI a)] (fun w1 => ∃ t1, w1 = m_w X w tE cnt wd sz st pt lk t1 rk sp ∧ (∀ x, x < 64 → ∀ y, y < 64 → t1 (a + 64 * x + y) = tb (a + 64 * y + x)) ∧ ∀ z, (z < a ∨ a + 4096 ≤ z) → t1 z = tb z) := by
  refine pw_open (by decide) hI [some (.ref (pw_a X 20 0)), some (.int (nI a)), none, none, none, none] rfl (Nat.le_of_ble_eq_true rfl) ?_
  intro zp ze zs zm za zb zt zc hargs C zr zk hnm
  have Li : ∀ k : Nat, k < 64 → (∀ t1 : Nat → Int64, (∀ x, x < 64 → ∀ y, y < 64 → t1 (a + 64 * x + y) = if x < k + 1 ∧ y < k + 1 then tb (a + 64 * y + x) else tb (a + 64 * x + y)) → (∀ z, (z < a ∨ a + 4096 ≤ z) → t1 z = tb z) → MW zp l ze ({ frames := 0, cells := 0, slots := 0, locals := 0 } : Room) zs zm za zb zt zc X 6 0 0 (MQ zb (va_Qv (fun w1 => ∃ t1, w1 = m_w X w tE cnt wd sz st pt lk t1 rk sp ∧ (∀ x, x < 64 → ∀ y, y < 64 → t1 (a + 64 * x + y) = tb (a + 64 * y + x)) ∧ ∀ z, (z < a ∨ a + 4096 ≤ z) → t1 z = tb z) (pw_B X) (pw_F X)) za zs 0 0 (pw_F X)) (m_w X w tE cnt wd sz st pt lk t1 rk sp) 77 [some (.ref (pw_a X 20 0)), some (.int (nI a)), some (.int (nI k)), none, none, none] []) → ∀ d q : Nat, q + d = k → ∀ t1 : Nat → Int64, (∀ x, x < 64 → ∀ y, y < 64 → t1 (a + 64 * x + y) = if (x < k ∧ y < k) ∨ (x = k ∧ y < q) ∨ (y = k ∧ x < q) then tb (a + 64 * y + x) else tb (a + 64 * x + y)) → (∀ z, (z < a ∨ a + 4096 ≤ z) → t1 z = tb z) → MW zp l ze ({ frames := 0, cells := 0, slots := 0, locals := 0 } : Room) zs zm za zb zt zc X 6 0 0 (MQ zb (va_Qv (fun w1 => ∃ t1, w1 = m_w X w tE cnt wd sz st pt lk t1 rk sp ∧ (∀ x, x < 64 → ∀ y, y < 64 → t1 (a + 64 * x + y) = tb (a + 64 * y + x)) ∧ ∀ z, (z < a ∨ a + 4096 ≤ z) → t1 z = tb z) (pw_B X) (pw_F X)) za zs 0 0 (pw_F X)) (m_w X w tE cnt wd sz st pt lk t1 rk sp) 10 [some (.ref (pw_a X 20 0)), some (.int (nI a)), some (.int (nI k)), some (.int (nI q)), none, none] [] := by
    intro k hk hcont d
    induction d with
    | zero =>
      intro q hqd t1 h1 h2
      have hqk : q = k := by omega
      subst hqk
      refine pw_iload_n C d_MO_turn_10 rfl ?_
      refine pw_iload_n C d_MO_turn_11 rfl ?_
      refine pw_icmp_ge C 77 d_MO_turn_12 (by decide) (fun h12 => ?_) (fun h12 => ?_)
      · refine MW.less (lv' := [some (.ref (pw_a X 20 0)), some (.int (nI a)), some (.int (nI q)), none, none, none]) (by intro i v h; rcases i with _ | _ | _ | _ | _ | _ | i <;> first | exact h | (simp at h)) (hcont t1 (fun x hx y hy => ?_) h2)
        rw [h1 x hx y hy]
        by_cases z : x = y
        · subst z; simp
        · by_cases c : x < q + 1 ∧ y < q + 1
          · rw [if_pos c, if_pos (by omega)]
          · rw [if_neg c, if_neg (by omega)]
      · exact absurd (nI_le (Nat.le_refl q) (by omega)) h12
    | succ d ih =>
      intro q hqd t1 h1 h2
      have hq64 : q < 64 := by omega
      refine pw_iload_n C d_MO_turn_10 rfl ?_
      refine pw_iload_n C d_MO_turn_11 rfl ?_
      refine pw_icmp_ge C 77 d_MO_turn_12 (by decide) (fun h12 => ?_) (fun h12 => ?_)
      · exact absurd ((nI_leI (by omega) (by omega)).mp h12) (by omega)
      refine pw_aload_n C d_MO_turn_15 rfl ?_
      refine pw_get C d_MO_turn_16 (hX 20 0 rfl) rfl 7 rfl rfl (by decide) in_MO W_350 rfl ?_
      refine pw_iload_n C d_MO_turn_19 rfl ?_
      refine pw_bipush C d_MO_turn_20 (v := 64) (by decide) ?_
      refine pw_iload_n C d_MO_turn_22 rfl ?_
      refine pw_imul C d_MO_turn_23 ?_
      refine pw_iadd C d_MO_turn_24 ?_
      refine pw_iload_n C d_MO_turn_25 rfl ?_
      refine pw_iadd C d_MO_turn_26 ?_
      rw [ix3]
      refine pw_laldK C d_MO_turn_27 (hX 25 0 rfl) rfl (by omega) ?_
      refine pw_lstore C d_MO_turn_28 (by decide) ?_
      refine pw_aload_n C d_MO_turn_30 rfl ?_
      refine pw_get C d_MO_turn_31 (hX 20 0 rfl) rfl 7 rfl rfl (by decide) in_MO W_350 rfl ?_
      refine pw_iload_n C d_MO_turn_34 rfl ?_
      refine pw_bipush C d_MO_turn_35 (v := 64) (by decide) ?_
      refine pw_iload_n C d_MO_turn_37 rfl ?_
      refine pw_imul C d_MO_turn_38 ?_
      refine pw_iadd C d_MO_turn_39 ?_
      refine pw_iload_n C d_MO_turn_40 rfl ?_
      refine pw_iadd C d_MO_turn_41 ?_
      rw [ix3]
      refine pw_aload_n C d_MO_turn_42 rfl ?_
      refine pw_get C d_MO_turn_43 (hX 20 0 rfl) rfl 7 rfl rfl (by decide) in_MO W_350 rfl ?_
      refine pw_iload_n C d_MO_turn_46 rfl ?_
      refine pw_bipush C d_MO_turn_47 (v := 64) (by decide) ?_
      refine pw_iload_n C d_MO_turn_49 rfl ?_
      refine pw_imul C d_MO_turn_50 ?_
      refine pw_iadd C d_MO_turn_51 ?_
      refine pw_iload_n C d_MO_turn_52 rfl ?_
      refine pw_iadd C d_MO_turn_53 ?_
      rw [ix3]
      refine pw_laldK C d_MO_turn_54 (hX 25 0 rfl) rfl (by omega) ?_
      refine pw_lastK C d_MO_turn_55 (hX 25 0 rfl) rfl (by omega) ?_
      refine MW.world m_u25 ?_
      refine pw_aload_n C d_MO_turn_56 rfl ?_
      refine pw_get C d_MO_turn_57 (hX 20 0 rfl) rfl 7 rfl rfl (by decide) in_MO W_350 rfl ?_
      refine pw_iload_n C d_MO_turn_60 rfl ?_
      refine pw_bipush C d_MO_turn_61 (v := 64) (by decide) ?_
      refine pw_iload_n C d_MO_turn_63 rfl ?_
      refine pw_imul C d_MO_turn_64 ?_
      refine pw_iadd C d_MO_turn_65 ?_
      refine pw_iload_n C d_MO_turn_66 rfl ?_
      refine pw_iadd C d_MO_turn_67 ?_
      rw [ix3]
      refine pw_lload C d_MO_turn_68 rfl ?_
      refine pw_lastK C d_MO_turn_70 (hX 25 0 rfl) rfl (by omega) ?_
      refine MW.world m_u25 ?_
      refine pw_iinc1 C d_MO_turn_71 rfl (by decide) ?_
      refine pw_goto C 10 d_MO_turn_74 (by decide) ?_
      refine MW.less (lv' := [some (.ref (pw_a X 20 0)), some (.int (nI a)), some (.int (nI k)), some (.int (nI (q + 1))), none, none]) (by intro i v h; rcases i with _ | _ | _ | _ | _ | _ | i <;> first | exact h | (simp at h)) ?_
      refine ih (q + 1) (by omega) _ (fun x hx y hy => ?_) (fun z hz => ?_)
      · have e1 : t1 (a + 64 * k + q) = tb (a + 64 * k + q) := by rw [h1 k hk q hq64, if_neg (by omega)]
        have e2 : t1 (a + 64 * q + k) = tb (a + 64 * q + k) := by rw [h1 q hq64 k hk, if_neg (by omega)]
        by_cases c1 : x = q ∧ y = k
        · obtain ⟨rfl, rfl⟩ := c1
          rw [pk_uLs, if_pos (by omega), e1]
        · rw [pk_uLn (by omega)]
          by_cases c2 : x = k ∧ y = q
          · obtain ⟨rfl, rfl⟩ := c2
            rw [pk_uLs, if_pos (by omega), e2]
          · rw [pk_uLn (by omega), h1 x hx y hy]
            by_cases c : (x < k ∧ y < k) ∨ (x = k ∧ y < q) ∨ (y = k ∧ x < q)
            · rw [if_pos c, if_pos (by omega)]
            · rw [if_neg c, if_neg (by omega)]
      · rw [pk_uLn (by omega), pk_uLn (by omega)]; exact h2 z hz
  have L : ∀ d k : Nat, k + d = 64 → ∀ t1 : Nat → Int64, (∀ x, x < 64 → ∀ y, y < 64 → t1 (a + 64 * x + y) = if x < k ∧ y < k then tb (a + 64 * y + x) else tb (a + 64 * x + y)) → (∀ z, (z < a ∨ a + 4096 ≤ z) → t1 z = tb z) → MW zp l ze ({ frames := 0, cells := 0, slots := 0, locals := 0 } : Room) zs zm za zb zt zc X 6 0 0 (MQ zb (va_Qv (fun w1 => ∃ t1, w1 = m_w X w tE cnt wd sz st pt lk t1 rk sp ∧ (∀ x, x < 64 → ∀ y, y < 64 → t1 (a + 64 * x + y) = tb (a + 64 * y + x)) ∧ ∀ z, (z < a ∨ a + 4096 ≤ z) → t1 z = tb z) (pw_B X) (pw_F X)) za zs 0 0 (pw_F X)) (m_w X w tE cnt wd sz st pt lk t1 rk sp) 2 [some (.ref (pw_a X 20 0)), some (.int (nI a)), some (.int (nI k)), none, none, none] [] := by
    intro d
    induction d with
    | zero =>
      intro k hkd t1 h1 h2
      refine pw_iload_n C d_MO_turn_2 rfl ?_
      refine pw_bipush C d_MO_turn_3 (v := 64) (by decide) ?_
      refine pw_icmp_ge C 83 d_MO_turn_5 (by decide) (fun h5 => ?_) (fun h5 => ?_)
      · refine pw_vret C zr zk d_MO_turn_83 ?_
        exact ⟨t1, rfl, fun x hx y hy => by rw [h1 x hx y hy, if_pos (by omega)], h2⟩
      · exact absurd (nI_le (a := 64) (b := k) (by omega) (by omega)) h5
    | succ d ih =>
      intro k hkd t1 h1 h2
      refine pw_iload_n C d_MO_turn_2 rfl ?_
      refine pw_bipush C d_MO_turn_3 (v := 64) (by decide) ?_
      refine pw_icmp_ge C 83 d_MO_turn_5 (by decide) (fun h5 => ?_) (fun h5 => ?_)
      · exact absurd ((nI_leI (a := 64) (by decide) (by omega)).mp h5) (by omega)
      refine pw_iconst C d_MO_turn_8 (v := 0) (by decide) ?_
      refine pw_istore_n C d_MO_turn_9 (by decide) ?_
      refine Li k (by omega) ?_ k 0 (by omega) t1 (fun x hx y hy => ?_) h2
      · intro t2 g1 g2
        refine pw_iinc1 C d_MO_turn_77 rfl (by decide) ?_
        refine pw_goto C 2 d_MO_turn_80 (by decide) ?_
        exact ih (k + 1) (by omega) t2 g1 g2
      · rw [h1 x hx y hy]
        by_cases c : x < k ∧ y < k
        · rw [if_pos c, if_pos (by omega)]
        · rw [if_neg c, if_neg (by omega)]
  refine pw_iconst C d_MO_turn_0 (v := 0) (by decide) ?_
  refine pw_istore_n C d_MO_turn_1 (by decide) ?_
  exact L 64 0 rfl tb (fun x hx y hy => by rw [if_neg (by omega)]) (fun z _ => rfl)
