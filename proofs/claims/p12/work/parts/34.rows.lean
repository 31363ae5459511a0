/-! RELATIONS: the loops over rows -/
set_option maxHeartbeats 4000000 in
set_option maxRecDepth 100000 in
theorem k_RE_add (l : Launch) {X : Lay} (hI : pw_I X) (w : Wd) {g i g2 i2 : Nat} {F G : Nat → Int64} (hd : pw_d X g i) (hw : w g i = aL X 64 F) (hd2 : pw_d X g2 i2) (hw2 : w g2 i2 = aL X 64 G) (hne : ¬ (g2 = g ∧ i2 = i)) : CtV l y_RE_add (pw_ws y_RE_add c_RE_add 3 none) { frames := 0, cells := 0, slots := 0, locals := 0 } X w [.ref (pw_a X g i), .ref (pw_a X g2 i2)] (fun w1 => ∃ f1, w1 = pw_up w g i (aL X 64 f1) ∧ ∀ x, x < 64 → f1 x = F x ||| G x) := by
  refine pw_open (by decide) hI [some (.ref (pw_a X g i)), some (.ref (pw_a X g2 i2)), none] rfl (Nat.le_of_ble_eq_true rfl) ?_
  intro zp ze zs zm za zb zt zc hargs C hr hlk hnm
  have L : ∀ d k : Nat, k + d = 64 → ∀ f1 : Nat → Int64, (∀ x, x < k → f1 x = F x ||| G x) → (∀ x, k ≤ x → f1 x = F x) → MW zp l ze ({ frames := 0, cells := 0, slots := 0, locals := 0 } : Room) zs zm za zb zt zc X 3 0 0 (MQ zb (va_Qv (fun w1 => ∃ f1, w1 = pw_up w g i (aL X 64 f1) ∧ ∀ x, x < 64 → f1 x = F x ||| G x) (pw_B X) (pw_F X)) za zs 0 0 (pw_F X)) (pw_up w g i (aL X 64 f1)) 2 [some (.ref (pw_a X g i)), some (.ref (pw_a X g2 i2)), (some (.int (nI k)))] [] := by
    intro d
    induction d with
    | zero =>
      intro k hkd f1 hf1 hf2
      refine pw_iload_n C d_RE_add_2 rfl ?_
      refine pw_bipush C d_RE_add_3 (v := 64) (by decide) ?_
      refine pw_icmp_ge C 23 d_RE_add_5 (by decide) (fun h5 => ?_) (fun h5 => ?_)
      · refine pw_vret C hr hlk d_RE_add_23 ?_
        exact ⟨f1, rfl, fun x hx => hf1 x (by omega)⟩
      · exact absurd (nI_le (a := 64) (b := k) (by omega) (by omega)) h5
    | succ d ih =>
      intro k hkd f1 hf1 hf2
      refine pw_iload_n C d_RE_add_2 rfl ?_
      refine pw_bipush C d_RE_add_3 (v := 64) (by decide) ?_
      refine pw_icmp_ge C 23 d_RE_add_5 (by decide) (fun h5 => ?_) (fun h5 => ?_)
      · exact absurd ((nI_leI (a := 64) (by decide) (by omega)).mp h5) (by omega)
      refine pw_aload_n C d_RE_add_8 rfl ?_
      refine pw_iload_n C d_RE_add_9 rfl ?_
      refine pw_dup2 C d_RE_add_10 rfl rfl ?_
      refine pw_laldK C d_RE_add_11 hd (pw_up_self w g i _) (by omega) ?_
      refine pw_aload_n C d_RE_add_12 rfl ?_
      refine pw_iload_n C d_RE_add_13 rfl ?_
      refine pw_laldK C d_RE_add_14 hd2 (by rw [pw_up_ne _ _ hne]; exact hw2) (by omega) ?_
      refine pw_lor C d_RE_add_15 ?_
      refine pw_lastK C d_RE_add_16 hd (pw_up_self w g i _) (by omega) ?_
      refine pw_iinc1 C d_RE_add_17 rfl (by decide) ?_
      refine pw_goto C 2 d_RE_add_20 (by decide) ?_
      rw [pw_up_up]
      refine ih (k + 1) (by omega) _ (fun x hx => ?_) (fun x hx => ?_)
      · by_cases q : x = k
        · subst q; rw [pk_uLs, hf2 x (Nat.le_refl x)]
        · rw [pk_uLn q]; exact hf1 x (by omega)
      · rw [pk_uLn (by omega)]; exact hf2 x (by omega)
  refine pw_iconst C d_RE_add_0 (v := 0) (by decide) ?_
  refine pw_istore_n C d_RE_add_1 (by decide) ?_
  refine MW.world (pw_up_id w hw).symm ?_
  exact L 64 0 rfl F (fun x hx => absurd hx (Nat.not_lt_zero x)) (fun x _ => rfl)
set_option maxHeartbeats 4000000 in
set_option maxRecDepth 100000 in
theorem k_RE_addStaying (l : Launch) {X : Lay} (hI : pw_I X) (w : Wd) {g i : Nat} {F : Nat → Int64} (hd : pw_d X g i) (hw : w g i = aL X 64 F) : CtV l y_RE_addStaying (pw_ws y_RE_addStaying c_RE_addStaying 2 none) { frames := 1, cells := 0, slots := 0, locals := 20 } X w [.ref (pw_a X g i)] (fun w1 => ∃ f1, w1 = pw_up w g i (aL X 64 f1) ∧ ∀ x, x < 64 → ∀ y, y < 64 → bt_f (f1 x) y = (bt_f (F x) y || decide (y = x))) := by
  refine pw_open (by decide) hI [some (.ref (pw_a X g i)), none] rfl (Nat.le_of_ble_eq_true rfl) ?_
  intro zp ze zs zm za zb zt zc hargs C hr hlk hnm
  have L : ∀ d k : Nat, k + d = 64 → ∀ f1 : Nat → Int64, (∀ x, x < k → ∀ y, y < 64 → bt_f (f1 x) y = (bt_f (F x) y || decide (y = x))) → (∀ x, k ≤ x → f1 x = F x) → MW zp l ze ({ frames := 1, cells := 0, slots := 0, locals := 20 } : Room) zs zm za zb zt zc X 2 0 0 (MQ zb (va_Qv (fun w1 => ∃ f1, w1 = pw_up w g i (aL X 64 f1) ∧ ∀ x, x < 64 → ∀ y, y < 64 → bt_f (f1 x) y = (bt_f (F x) y || decide (y = x))) (pw_B X) (pw_F X)) za zs 0 0 (pw_F X)) (pw_up w g i (aL X 64 f1)) 2 [some (.ref (pw_a X g i)), (some (.int (nI k)))] [] := by
    intro d
    induction d with
    | zero =>
      intro k hkd f1 hf1 hf2
      refine pw_iload_n C d_RE_addStaying_2 rfl ?_
      refine pw_bipush C d_RE_addStaying_3 (v := 64) (by decide) ?_
      refine pw_icmp_ge C 24 d_RE_addStaying_5 (by decide) (fun h5 => ?_) (fun h5 => ?_)
      · refine pw_vret C hr hlk d_RE_addStaying_24 ?_
        exact ⟨f1, rfl, fun x hx => hf1 x (by omega)⟩
      · exact absurd (nI_le (a := 64) (b := k) (by omega) (by omega)) h5
    | succ d ih =>
      intro k hkd f1 hf1 hf2
      refine pw_iload_n C d_RE_addStaying_2 rfl ?_
      refine pw_bipush C d_RE_addStaying_3 (v := 64) (by decide) ?_
      refine pw_icmp_ge C 24 d_RE_addStaying_5 (by decide) (fun h5 => ?_) (fun h5 => ?_)
      · exact absurd ((nI_leI (a := 64) (by decide) (by omega)).mp h5) (by omega)
      refine pw_aload_n C d_RE_addStaying_8 rfl ?_
      refine pw_iload_n C d_RE_addStaying_9 rfl ?_
      refine pw_dup2 C d_RE_addStaying_10 rfl rfl ?_
      refine pw_laldK C d_RE_addStaying_11 hd (pw_up_self w g i _) (by omega) ?_
      refine pw_iload_n C d_RE_addStaying_12 rfl ?_
      refine pw_callSNl C (k_PF_bit l hI _ k) ⟨pw_cn C 1 W_162 W_1 N_32 ⟨rfl, rfl⟩ (by decide +kernel) ⟨(Nat.le_of_ble_eq_true rfl), (Nat.le_of_ble_eq_true rfl)⟩, pw_w C W_161, trivial⟩ rfl rfl (Nat.le_of_ble_eq_true rfl) d_RE_addStaying_13 ⟨Nat.zero_le _, Nat.zero_le _⟩ (fun r w9 hp => ?_)
      obtain ⟨e9, hp⟩ := hp
      subst hp
      refine MW.world e9 ?_
      refine pw_lor C d_RE_addStaying_16 ?_
      refine pw_lastK C d_RE_addStaying_17 hd (pw_up_self w g i _) (by omega) ?_
      refine pw_iinc1 C d_RE_addStaying_18 rfl (by decide) ?_
      refine pw_goto C 2 d_RE_addStaying_21 (by decide) ?_
      rw [pw_up_up]
      refine ih (k + 1) (by omega) _ (fun x hx y hy => ?_) (fun x hx => ?_)
      · by_cases q : x = k
        · subst q; rw [pk_uLs, hf2 x (Nat.le_refl x), bt_or, bt_bit (by omega)]
        · rw [pk_uLn q]; exact hf1 x (by omega) y hy
      · rw [pk_uLn (by omega)]; exact hf2 x (by omega)
  refine pw_iconst C d_RE_addStaying_0 (v := 0) (by decide) ?_
  refine pw_istore_n C d_RE_addStaying_1 (by decide) ?_
  refine MW.world (pw_up_id w hw).symm ?_
  exact L 64 0 rfl F (fun x hx => absurd hx (Nat.not_lt_zero x)) (fun x _ => rfl)
/-- what is left of a set when all below u is done -/
def lf_s (r s : Int64) (u : Nat) : Prop := ∀ j, j < 64 → bt_f r j = (bt_f s j && decide (u ≤ j))
theorem lf_0 (s : Int64) : lf_s s s 0 := fun j _ => by simp
theorem lf_next {r s : Int64} {u : Nat} (h : lf_s r s u) (hr : ¬ r = 0) : ∃ j, j < 64 ∧ u ≤ j ∧ bt_f s j = true ∧ bt_f r j = true ∧ (∀ j1, j1 < j → bt_f r j1 = false) ∧ (∀ j1, u ≤ j1 → j1 < j → bt_f s j1 = false) ∧ lf_s (r &&& (r - 1)) s (j + 1) := by
  obtain ⟨j, hj, h1, h2⟩ := bt_least hr
  have hb := h j hj
  rw [h1] at hb
  have hb2 : bt_f s j = true ∧ u ≤ j := by simpa using hb.symm
  refine ⟨j, hj, hb2.2, hb2.1, h1, h2, fun j1 g1 g2 => ?_, fun j1 hj1 => ?_⟩
  · have := h j1 (by omega)
    rw [h2 j1 g2] at this
    simpa [g1] using this.symm
  · rw [bt_clear h1 h2 hj1, h j1 hj1]
    by_cases q : j < j1
    · have q1 : u ≤ j1 := by omega
      have q2 : j + 1 ≤ j1 := by omega
      simp [q, q1, q2]
    · have q2 : ¬ j + 1 ≤ j1 := by omega
      simp [q, q2]
theorem lf_end {r s : Int64} {u : Nat} (h : lf_s r s u) (hr : r = 0) {j : Nat} (hj : j < 64) (hu : u ≤ j) : bt_f s j = false := by
  have := h j hj
  rw [hr, bt_0] at this
  simpa [hu] using this.symm
theorem lf_big {r s : Int64} {u : Nat} (h : lf_s r s u) (hu : 64 ≤ u) : r = 0 := bt_ext (fun j hj => by
  rw [h j hj, bt_0]
  have : ¬ u ≤ j := by omega
  simp [this])
set_option maxHeartbeats 4000000 in
set_option maxRecDepth 100000 in
theorem k_RE_addTurned (l : Launch) {X : Lay} (hI : pw_I X) (w : Wd) {g i g2 i2 : Nat} {F G : Nat → Int64} (hd : pw_d X g i) (hw : w g i = aL X 64 F) (hd2 : pw_d X g2 i2) (hw2 : w g2 i2 = aL X 64 G) (hne : ¬ (g2 = g ∧ i2 = i)) : CtV l y_RE_addTurned (pw_ws y_RE_addTurned c_RE_addTurned 6 none) { frames := 2, cells := 0, slots := 0, locals := 43 } X w [.ref (pw_a X g i), .ref (pw_a X g2 i2)] (fun w1 => ∃ f1, w1 = pw_up w g i (aL X 64 f1) ∧ ∀ y, y < 64 → ∀ x, x < 64 → bt_f (f1 y) x = (bt_f (F y) x || bt_f (G x) y)) := by
  refine pw_open (by decide) hI [some (.ref (pw_a X g i)), some (.ref (pw_a X g2 i2)), none, none, none, none] rfl (Nat.le_of_ble_eq_true rfl) ?_
  intro zp ze zs zm za zb zt zc hargs C hr hlk hnm
  have Li : ∀ k : Nat, k < 64 → (∀ f1 : Nat → Int64, (∀ y, y < 64 → ∀ x, x < 64 → bt_f (f1 y) x = (bt_f (F y) x || (decide (x < k + 1) && bt_f (G x) y))) → MW zp l ze ({ frames := 2, cells := 0, slots := 0, locals := 43 } : Room) zs zm za zb zt zc X 6 0 0 (MQ zb (va_Qv (fun w1 => ∃ f1, w1 = pw_up w g i (aL X 64 f1) ∧ ∀ y, y < 64 → ∀ x, x < 64 → bt_f (f1 y) x = (bt_f (F y) x || bt_f (G x) y)) (pw_B X) (pw_F X)) za zs 0 0 (pw_F X)) (pw_up w g i (aL X 64 f1)) 53 [some (.ref (pw_a X g i)), some (.ref (pw_a X g2 i2)), some (.int (nI k)), none, none, none] []) → ∀ d u q : Nat, 64 ≤ u + d → q ≤ u → ∀ (r : Int64) (f1 : Nat → Int64), lf_s r (G k) u → (∀ y, y < 64 → ∀ x, x < 64 → bt_f (f1 y) x = (bt_f (F y) x || (decide (x < k) && bt_f (G x) y) || (decide (x = k ∧ y < u) && bt_f (G k) y))) → MW zp l ze ({ frames := 2, cells := 0, slots := 0, locals := 43 } : Room) zs zm za zb zt zc X 6 0 0 (MQ zb (va_Qv (fun w1 => ∃ f1, w1 = pw_up w g i (aL X 64 f1) ∧ ∀ y, y < 64 → ∀ x, x < 64 → bt_f (f1 y) x = (bt_f (F y) x || bt_f (G x) y)) (pw_B X) (pw_F X)) za zs 0 0 (pw_F X)) (pw_up w g i (aL X 64 f1)) 15 [some (.ref (pw_a X g i)), some (.ref (pw_a X g2 i2)), some (.int (nI k)), some (.long r), none, some (.int (nI q))] [] := by
    intro k hk hcont
    have fin : ∀ (u : Nat) (f1 : Nat → Int64), (∀ j, j < 64 → u ≤ j → bt_f (G k) j = false) → (∀ y, y < 64 → ∀ x, x < 64 → bt_f (f1 y) x = (bt_f (F y) x || (decide (x < k) && bt_f (G x) y) || (decide (x = k ∧ y < u) && bt_f (G k) y))) → (∀ y, y < 64 → ∀ x, x < 64 → bt_f (f1 y) x = (bt_f (F y) x || (decide (x < k + 1) && bt_f (G x) y))) := by
      intro u f1 hz hf y hy x hx
      rw [hf y hy x hx]
      by_cases q1 : x = k
      · subst q1
        by_cases q2 : y < u
        · simp [q2]
        · rw [hz y hy (by omega)]; simp
      · by_cases q2 : x < k
        · have q3 : x < k + 1 := by omega
          simp [q1, q2, q3]
        · have q3 : ¬ x < k + 1 := by omega
          simp [q1, q2, q3]
    intro d
    induction d with
    | zero =>
      intro u q hud hqu r f1 hr hf
      refine pw_iload C d_RE_addTurned_15 rfl ?_
      refine pw_bipush C d_RE_addTurned_17 (v := 64) (by decide) ?_
      refine pw_icmp_ge C 53 d_RE_addTurned_19 (by decide) (fun h19 => ?_) (fun h19 => ?_)
      · exact MW.less (lv' := [some (.ref (pw_a X g i)), some (.ref (pw_a X g2 i2)), some (.int (nI k)), none, none, none]) (by intro i v h; rcases i with _ | _ | _ | _ | _ | _ | _ | i <;> first | exact h | (simp at h)) (hcont f1 (fin u f1 (fun j hj hj2 => (by omega)) hf))
      · refine pw_lload_n C d_RE_addTurned_22 rfl ?_
        refine pw_lconst C d_RE_addTurned_23 (v := 0) (by decide) ?_
        refine pw_lcmp C d_RE_addTurned_24 ?_
        refine pw_if_eq C 53 d_RE_addTurned_25 (by decide) (fun h25 => ?_) (fun h25 => ?_)
        · exact MW.less (lv' := [some (.ref (pw_a X g i)), some (.ref (pw_a X g2 i2)), some (.int (nI k)), none, none, none]) (by intro i v h; rcases i with _ | _ | _ | _ | _ | _ | _ | i <;> first | exact h | (simp at h)) (hcont f1 (fin u f1 (fun j hj hj2 => (by omega)) hf))
        · exact absurd ((lc_eq _ _).mpr (lf_big hr (by omega))) h25
    | succ d ih =>
      intro u q hud hqu r f1 hr hf
      refine pw_iload C d_RE_addTurned_15 rfl ?_
      refine pw_bipush C d_RE_addTurned_17 (v := 64) (by decide) ?_
      refine pw_icmp_ge C 53 d_RE_addTurned_19 (by decide) (fun h19 => ?_) (fun h19 => ?_)
      · exact MW.less (lv' := [some (.ref (pw_a X g i)), some (.ref (pw_a X g2 i2)), some (.int (nI k)), none, none, none]) (by intro i v h; rcases i with _ | _ | _ | _ | _ | _ | _ | i <;> first | exact h | (simp at h)) (hcont f1 (fin u f1 (fun j hj hj2 => (by have := (nI_leI (a := 64) (by decide) (by omega)).mp h19; omega)) hf))
      · refine pw_lload_n C d_RE_addTurned_22 rfl ?_
        refine pw_lconst C d_RE_addTurned_23 (v := 0) (by decide) ?_
        refine pw_lcmp C d_RE_addTurned_24 ?_
        refine pw_if_eq C 53 d_RE_addTurned_25 (by decide) (fun h25 => ?_) (fun h25 => ?_)
        · exact MW.less (lv' := [some (.ref (pw_a X g i)), some (.ref (pw_a X g2 i2)), some (.int (nI k)), none, none, none]) (by intro i v h; rcases i with _ | _ | _ | _ | _ | _ | _ | i <;> first | exact h | (simp at h)) (hcont f1 (fin u f1 (fun j hj hj2 => lf_end hr ((lc_eq _ _).mp h25) hj hj2) hf))
        · obtain ⟨j, hj, huj, hsj, hjr, hlow, hgap, hnext⟩ := lf_next hr (fun q => h25 ((lc_eq _ _).mpr q))
          refine pw_aload_n C d_RE_addTurned_28 rfl ?_
          refine pw_lload_n C d_RE_addTurned_29 rfl ?_
          refine pw_callSi C (k_LO_ntz l hI _ hj hjr hlow) ⟨pw_cb C 1 W_262 W_8 W_260 ⟨rfl, rfl⟩ (by decide +kernel) ⟨(Nat.le_of_ble_eq_true rfl), (Nat.le_of_ble_eq_true rfl)⟩, pw_w C W_261⟩ rfl rfl (Nat.le_of_ble_eq_true rfl) d_RE_addTurned_30 ⟨Nat.zero_le _, Nat.zero_le _⟩ (fun rr w9 hp => ?_)
          obtain ⟨e9, hp⟩ := hp
          subst hp
          refine MW.world e9 ?_
          refine pw_dup2 C d_RE_addTurned_33 rfl rfl ?_
          refine pw_laldK C d_RE_addTurned_34 hd (pw_up_self w g i _) hj ?_
          refine pw_iload_n C d_RE_addTurned_35 rfl ?_
          refine pw_callSNl C (k_PF_bit l hI _ k) ⟨pw_cn C 1 W_162 W_1 N_32 ⟨rfl, rfl⟩ (by decide +kernel) ⟨(Nat.le_of_ble_eq_true rfl), (Nat.le_of_ble_eq_true rfl)⟩, pw_w C W_161, trivial⟩ rfl rfl (Nat.le_of_ble_eq_true rfl) d_RE_addTurned_36 ⟨Nat.zero_le _, Nat.zero_le _⟩ (fun rb w9 hp => ?_)
          obtain ⟨e9, hp⟩ := hp
          subst hp
          refine MW.world e9 ?_
          refine pw_lor C d_RE_addTurned_39 ?_
          refine pw_lastK C d_RE_addTurned_40 hd (pw_up_self w g i _) hj ?_
          refine pw_lload_n C d_RE_addTurned_41 rfl ?_
          refine pw_lload_n C d_RE_addTurned_42 rfl ?_
          refine pw_lconst C d_RE_addTurned_43 (v := 1) (by decide) ?_
          refine pw_lsub C d_RE_addTurned_44 ?_
          refine pw_land C d_RE_addTurned_45 ?_
          refine pw_lstore_n C d_RE_addTurned_46 (by decide) ?_
          refine pw_iinc1 C d_RE_addTurned_47 rfl (by decide) ?_
          refine pw_goto C 15 d_RE_addTurned_50 (by decide) ?_
          rw [pw_up_up]
          refine ih (j + 1) (q + 1) (by omega) (by omega) _ _ hnext (fun y hy x hx => ?_)
          by_cases q1 : y = j
          · subst q1
            rw [pk_uLs, bt_or, bt_bit hk, hf y hy x hx]
            by_cases q2 : x = k
            · subst q2; simp [hsj]
            · simp [q2]
          · rw [pk_uLn q1, hf y hy x hx]
            by_cases q2 : x = k
            · subst q2
              by_cases q3 : y < u
              · have q4 : y < j + 1 := by omega
                simp [q3, q4]
              · by_cases q4 : y < j + 1
                · have : bt_f (G x) y = false := hgap y (by omega) (by omega)
                  simp [this]
                · simp [q3, q4]
            · simp [q2]
  have L : ∀ d k : Nat, k + d = 64 → ∀ f1 : Nat → Int64, (∀ y, y < 64 → ∀ x, x < 64 → bt_f (f1 y) x = (bt_f (F y) x || (decide (x < k) && bt_f (G x) y))) → MW zp l ze ({ frames := 2, cells := 0, slots := 0, locals := 43 } : Room) zs zm za zb zt zc X 6 0 0 (MQ zb (va_Qv (fun w1 => ∃ f1, w1 = pw_up w g i (aL X 64 f1) ∧ ∀ y, y < 64 → ∀ x, x < 64 → bt_f (f1 y) x = (bt_f (F y) x || bt_f (G x) y)) (pw_B X) (pw_F X)) za zs 0 0 (pw_F X)) (pw_up w g i (aL X 64 f1)) 2 [some (.ref (pw_a X g i)), some (.ref (pw_a X g2 i2)), some (.int (nI k)), none, none, none] [] := by
    intro d
    induction d with
    | zero =>
      intro k hkd f1 hf
      refine pw_iload_n C d_RE_addTurned_2 rfl ?_
      refine pw_bipush C d_RE_addTurned_3 (v := 64) (by decide) ?_
      refine pw_icmp_ge C 59 d_RE_addTurned_5 (by decide) (fun h5 => ?_) (fun h5 => ?_)
      · refine pw_vret C hr hlk d_RE_addTurned_59 ?_
        exact ⟨f1, rfl, fun y hy x hx => by rw [hf y hy x hx]; simp [show x < k by omega]⟩
      · exact absurd (nI_le (a := 64) (b := k) (by omega) (by omega)) h5
    | succ d ih =>
      intro k hkd f1 hf
      refine pw_iload_n C d_RE_addTurned_2 rfl ?_
      refine pw_bipush C d_RE_addTurned_3 (v := 64) (by decide) ?_
      refine pw_icmp_ge C 59 d_RE_addTurned_5 (by decide) (fun h5 => ?_) (fun h5 => ?_)
      · exact absurd ((nI_leI (a := 64) (by decide) (by omega)).mp h5) (by omega)
      refine pw_aload_n C d_RE_addTurned_8 rfl ?_
      refine pw_iload_n C d_RE_addTurned_9 rfl ?_
      refine pw_laldK C d_RE_addTurned_10 hd2 (by rw [pw_up_ne _ _ hne]; exact hw2) (by omega) ?_
      refine pw_lstore_n C d_RE_addTurned_11 (by decide) ?_
      refine pw_iconst C d_RE_addTurned_12 (v := 0) (by decide) ?_
      refine pw_istore C d_RE_addTurned_13 (by decide) ?_
      refine Li k (by omega) ?_ 64 0 0 (by omega) (Nat.le_refl 0) (G k) f1 (lf_0 _) (fun y hy x hx => by rw [hf y hy x hx]; simp)
      intro f2 hf2
      refine pw_iinc1 C d_RE_addTurned_53 rfl (by decide) ?_
      refine pw_goto C 2 d_RE_addTurned_56 (by decide) ?_
      exact ih (k + 1) (by omega) f2 hf2
  refine pw_iconst C d_RE_addTurned_0 (v := 0) (by decide) ?_
  refine pw_istore_n C d_RE_addTurned_1 (by decide) ?_
  refine MW.world (pw_up_id w hw).symm ?_
  exact L 64 0 rfl F (fun y hy x hx => by simp)
