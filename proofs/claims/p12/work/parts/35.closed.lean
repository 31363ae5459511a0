/-! RELATIONS: joined rows, closed rows -/
set_option maxHeartbeats 4000000 in
set_option maxRecDepth 100000 in
theorem k_RE_addJoined (l : Launch) {X : Lay} (hI : pw_I X) (w : Wd) {g i g2 i2 g3 i3 : Nat} {F G S : Nat → Int64} (hd : pw_d X g i) (hw : w g i = aL X 64 F) (hd2 : pw_d X g2 i2) (hw2 : w g2 i2 = aL X 64 G) (hne2 : ¬ (g2 = g ∧ i2 = i)) (hd3 : pw_d X g3 i3) (hw3 : w g3 i3 = aL X 64 S) (hne3 : ¬ (g3 = g ∧ i3 = i)) : CtV l y_RE_addJoined (pw_ws y_RE_addJoined c_RE_addJoined 7 none) { frames := 2, cells := 0, slots := 0, locals := 43 } X w [.ref (pw_a X g i), .ref (pw_a X g2 i2), .ref (pw_a X g3 i3)] (fun w1 => ∃ f1, w1 = pw_up w g i (aL X 64 f1) ∧ ∀ x, x < 64 → ∀ y, y < 64 → (bt_f (f1 x) y = true ↔ (bt_f (F x) y = true ∨ ∃ z, z < 64 ∧ bt_f (G x) z = true ∧ bt_f (S z) y = true))) := by
  refine pw_open (by decide) hI [some (.ref (pw_a X g i)), some (.ref (pw_a X g2 i2)), some (.ref (pw_a X g3 i3)), none, none, none, none] rfl (Nat.le_of_ble_eq_true rfl) ?_
  intro zp ze zs zm za zb zt zc hargs C hr hlk hnm
  have Li : ∀ k : Nat, k < 64 → (∀ f1 : Nat → Int64, (∀ x, x < 64 → ∀ y, y < 64 → (bt_f (f1 x) y = true ↔ (bt_f (F x) y = true ∨ (x < k + 1 ∧ ∃ z, z < 64 ∧ bt_f (G x) z = true ∧ bt_f (S z) y = true)))) → MW zp l ze ({ frames := 2, cells := 0, slots := 0, locals := 43 } : Room) zs zm za zb zt zc X 7 0 0 (MQ zb (va_Qv (fun w1 => ∃ f1, w1 = pw_up w g i (aL X 64 f1) ∧ ∀ x, x < 64 → ∀ y, y < 64 → (bt_f (f1 x) y = true ↔ (bt_f (F x) y = true ∨ ∃ z, z < 64 ∧ bt_f (G x) z = true ∧ bt_f (S z) y = true))) (pw_B X) (pw_F X)) za zs 0 0 (pw_F X)) (pw_up w g i (aL X 64 f1)) 58 [some (.ref (pw_a X g i)), some (.ref (pw_a X g2 i2)), some (.ref (pw_a X g3 i3)), some (.int (nI k)), none, none, none] []) → ∀ d u q : Nat, 64 ≤ u + d → q ≤ u → ∀ (r : Int64) (f1 : Nat → Int64), lf_s r (G k) u → (∀ x, x < 64 → ∀ y, y < 64 → (bt_f (f1 x) y = true ↔ (bt_f (F x) y = true ∨ (x < k ∧ ∃ z, z < 64 ∧ bt_f (G x) z = true ∧ bt_f (S z) y = true) ∨ (x = k ∧ ∃ z, z < u ∧ z < 64 ∧ bt_f (G k) z = true ∧ bt_f (S z) y = true)))) → MW zp l ze ({ frames := 2, cells := 0, slots := 0, locals := 43 } : Room) zs zm za zb zt zc X 7 0 0 (MQ zb (va_Qv (fun w1 => ∃ f1, w1 = pw_up w g i (aL X 64 f1) ∧ ∀ x, x < 64 → ∀ y, y < 64 → (bt_f (f1 x) y = true ↔ (bt_f (F x) y = true ∨ ∃ z, z < 64 ∧ bt_f (G x) z = true ∧ bt_f (S z) y = true))) (pw_B X) (pw_F X)) za zs 0 0 (pw_F X)) (pw_up w g i (aL X 64 f1)) 16 [some (.ref (pw_a X g i)), some (.ref (pw_a X g2 i2)), some (.ref (pw_a X g3 i3)), some (.int (nI k)), some (.long r), none, some (.int (nI q))] [] := by
    intro k hk hcont
    have fin : ∀ (u : Nat) (f1 : Nat → Int64), (∀ j, j < 64 → u ≤ j → bt_f (G k) j = false) → (∀ x, x < 64 → ∀ y, y < 64 → (bt_f (f1 x) y = true ↔ (bt_f (F x) y = true ∨ (x < k ∧ ∃ z, z < 64 ∧ bt_f (G x) z = true ∧ bt_f (S z) y = true) ∨ (x = k ∧ ∃ z, z < u ∧ z < 64 ∧ bt_f (G k) z = true ∧ bt_f (S z) y = true)))) → (∀ x, x < 64 → ∀ y, y < 64 → (bt_f (f1 x) y = true ↔ (bt_f (F x) y = true ∨ (x < k + 1 ∧ ∃ z, z < 64 ∧ bt_f (G x) z = true ∧ bt_f (S z) y = true)))) := by
      intro u f1 hz hf x hx y hy
      rw [hf x hx y hy]
      constructor
      · rintro (a | ⟨a, b⟩ | ⟨a, z, b, c, d, e⟩)
        · exact Or.inl a
        · exact Or.inr ⟨by omega, b⟩
        · subst a; exact Or.inr ⟨by omega, z, c, d, e⟩
      · rintro (a | ⟨a, z, b, c, d⟩)
        · exact Or.inl a
        · by_cases q1 : x = k
          · subst q1
            refine Or.inr (Or.inr ⟨rfl, z, ?_, b, c, d⟩)
            rcases Nat.lt_or_ge z u with q2 | q2
            · exact q2
            · rw [hz z b q2] at c; cases c
          · exact Or.inr (Or.inl ⟨by omega, z, b, c, d⟩)
    intro d
    induction d with
    | zero =>
      intro u q hud hqu r f1 hr hf
      refine pw_iload C d_RE_addJoined_16 rfl ?_
      refine pw_bipush C d_RE_addJoined_18 (v := 64) (by decide) ?_
      refine pw_icmp_ge C 58 d_RE_addJoined_20 (by decide) (fun h20 => ?_) (fun h20 => ?_)
      · exact MW.less (lv' := [some (.ref (pw_a X g i)), some (.ref (pw_a X g2 i2)), some (.ref (pw_a X g3 i3)), some (.int (nI k)), none, none, none]) (by intro i v h; rcases i with _ | _ | _ | _ | _ | _ | _ | i <;> first | exact h | (simp at h)) (hcont f1 (fin u f1 (fun j hj hj2 => (by omega)) hf))
      · refine pw_lload C d_RE_addJoined_23 rfl ?_
        refine pw_lconst C d_RE_addJoined_25 (v := 0) (by decide) ?_
        refine pw_lcmp C d_RE_addJoined_26 ?_
        refine pw_if_eq C 58 d_RE_addJoined_27 (by decide) (fun h27 => ?_) (fun h27 => ?_)
        · exact MW.less (lv' := [some (.ref (pw_a X g i)), some (.ref (pw_a X g2 i2)), some (.ref (pw_a X g3 i3)), some (.int (nI k)), none, none, none]) (by intro i v h; rcases i with _ | _ | _ | _ | _ | _ | _ | i <;> first | exact h | (simp at h)) (hcont f1 (fin u f1 (fun j hj hj2 => (by omega)) hf))
        · exact absurd ((lc_eq _ _).mpr (lf_big hr (by omega))) h27
    | succ d ih =>
      intro u q hud hqu r f1 hr hf
      refine pw_iload C d_RE_addJoined_16 rfl ?_
      refine pw_bipush C d_RE_addJoined_18 (v := 64) (by decide) ?_
      refine pw_icmp_ge C 58 d_RE_addJoined_20 (by decide) (fun h20 => ?_) (fun h20 => ?_)
      · exact MW.less (lv' := [some (.ref (pw_a X g i)), some (.ref (pw_a X g2 i2)), some (.ref (pw_a X g3 i3)), some (.int (nI k)), none, none, none]) (by intro i v h; rcases i with _ | _ | _ | _ | _ | _ | _ | i <;> first | exact h | (simp at h)) (hcont f1 (fin u f1 (fun j hj hj2 => (by have := (nI_leI (a := 64) (by decide) (by omega)).mp h20; omega)) hf))
      · refine pw_lload C d_RE_addJoined_23 rfl ?_
        refine pw_lconst C d_RE_addJoined_25 (v := 0) (by decide) ?_
        refine pw_lcmp C d_RE_addJoined_26 ?_
        refine pw_if_eq C 58 d_RE_addJoined_27 (by decide) (fun h27 => ?_) (fun h27 => ?_)
        · exact MW.less (lv' := [some (.ref (pw_a X g i)), some (.ref (pw_a X g2 i2)), some (.ref (pw_a X g3 i3)), some (.int (nI k)), none, none, none]) (by intro i v h; rcases i with _ | _ | _ | _ | _ | _ | _ | i <;> first | exact h | (simp at h)) (hcont f1 (fin u f1 (fun j hj hj2 => lf_end hr ((lc_eq _ _).mp h27) hj hj2) hf))
        · obtain ⟨j, hj, huj, hsj, hjr, hlow, hgap, hnext⟩ := lf_next hr (fun q => h27 ((lc_eq _ _).mpr q))
          refine pw_aload_n C d_RE_addJoined_30 rfl ?_
          refine pw_iload_n C d_RE_addJoined_31 rfl ?_
          refine pw_dup2 C d_RE_addJoined_32 rfl rfl ?_
          refine pw_laldK C d_RE_addJoined_33 hd (pw_up_self w g i _) hk ?_
          refine pw_aload_n C d_RE_addJoined_34 rfl ?_
          refine pw_lload C d_RE_addJoined_35 rfl ?_
          refine pw_callSi C (k_LO_ntz l hI _ hj hjr hlow) ⟨pw_cb C 1 W_262 W_8 W_260 ⟨rfl, rfl⟩ (by decide +kernel) ⟨(Nat.le_of_ble_eq_true rfl), (Nat.le_of_ble_eq_true rfl)⟩, pw_w C W_261⟩ rfl rfl (Nat.le_of_ble_eq_true rfl) d_RE_addJoined_37 ⟨Nat.zero_le _, Nat.zero_le _⟩ (fun rr w9 hp => ?_)
          obtain ⟨e9, hp⟩ := hp
          subst hp
          refine MW.world e9 ?_
          refine pw_laldK C d_RE_addJoined_40 hd3 (by rw [pw_up_ne _ _ hne3]; exact hw3) hj ?_
          refine pw_lor C d_RE_addJoined_41 ?_
          refine pw_lastK C d_RE_addJoined_42 hd (pw_up_self w g i _) hk ?_
          refine pw_lload C d_RE_addJoined_43 rfl ?_
          refine pw_lload C d_RE_addJoined_45 rfl ?_
          refine pw_lconst C d_RE_addJoined_47 (v := 1) (by decide) ?_
          refine pw_lsub C d_RE_addJoined_48 ?_
          refine pw_land C d_RE_addJoined_49 ?_
          refine pw_lstore C d_RE_addJoined_50 (by decide) ?_
          refine pw_iinc1 C d_RE_addJoined_52 rfl (by decide) ?_
          refine pw_goto C 16 d_RE_addJoined_55 (by decide) ?_
          rw [pw_up_up]
          refine ih (j + 1) (q + 1) (by omega) (by omega) _ _ hnext (fun x hx y hy => ?_)
          by_cases q1 : x = k
          · subst q1
            rw [pk_uLs, bt_or, Bool.or_eq_true, hf x hx y hy]
            constructor
            · rintro ((a | ⟨a, b⟩ | ⟨a, z, b, c, d, e⟩) | a)
              · exact Or.inl a
              · exact Or.inr (Or.inl ⟨a, b⟩)
              · exact Or.inr (Or.inr ⟨rfl, z, by omega, c, d, e⟩)
              · exact Or.inr (Or.inr ⟨rfl, j, by omega, hj, hsj, a⟩)
            · rintro (a | ⟨a, b⟩ | ⟨a, z, b, c, d, e⟩)
              · exact Or.inl (Or.inl a)
              · exact Or.inl (Or.inr (Or.inl ⟨a, b⟩))
              · by_cases q2 : z = j
                · subst q2; exact Or.inr e
                · refine Or.inl (Or.inr (Or.inr ⟨rfl, z, ?_, c, d, e⟩))
                  rcases Nat.lt_or_ge z u with q3 | q3
                  · exact q3
                  · rw [hgap z q3 (by omega)] at d; cases d
          · rw [pk_uLn q1, hf x hx y hy]
            constructor
            · rintro (a | a | ⟨a, -⟩)
              · exact Or.inl a
              · exact Or.inr (Or.inl a)
              · exact absurd a q1
            · rintro (a | a | ⟨a, -⟩)
              · exact Or.inl a
              · exact Or.inr (Or.inl a)
              · exact absurd a q1
  have L : ∀ d k : Nat, k + d = 64 → ∀ f1 : Nat → Int64, (∀ x, x < 64 → ∀ y, y < 64 → (bt_f (f1 x) y = true ↔ (bt_f (F x) y = true ∨ (x < k ∧ ∃ z, z < 64 ∧ bt_f (G x) z = true ∧ bt_f (S z) y = true)))) → MW zp l ze ({ frames := 2, cells := 0, slots := 0, locals := 43 } : Room) zs zm za zb zt zc X 7 0 0 (MQ zb (va_Qv (fun w1 => ∃ f1, w1 = pw_up w g i (aL X 64 f1) ∧ ∀ x, x < 64 → ∀ y, y < 64 → (bt_f (f1 x) y = true ↔ (bt_f (F x) y = true ∨ ∃ z, z < 64 ∧ bt_f (G x) z = true ∧ bt_f (S z) y = true))) (pw_B X) (pw_F X)) za zs 0 0 (pw_F X)) (pw_up w g i (aL X 64 f1)) 2 [some (.ref (pw_a X g i)), some (.ref (pw_a X g2 i2)), some (.ref (pw_a X g3 i3)), some (.int (nI k)), none, none, none] [] := by
    intro d
    induction d with
    | zero =>
      intro k hkd f1 hf
      refine pw_iload_n C d_RE_addJoined_2 rfl ?_
      refine pw_bipush C d_RE_addJoined_3 (v := 64) (by decide) ?_
      refine pw_icmp_ge C 64 d_RE_addJoined_5 (by decide) (fun h5 => ?_) (fun h5 => ?_)
      · refine pw_vret C hr hlk d_RE_addJoined_64 ?_
        refine ⟨f1, rfl, fun x hx y hy => ?_⟩
        rw [hf x hx y hy]
        exact ⟨fun q => q.elim Or.inl (fun q => Or.inr q.2), fun q => q.elim Or.inl (fun q => Or.inr ⟨by omega, q⟩)⟩
      · exact absurd (nI_le (a := 64) (b := k) (by omega) (by omega)) h5
    | succ d ih =>
      intro k hkd f1 hf
      refine pw_iload_n C d_RE_addJoined_2 rfl ?_
      refine pw_bipush C d_RE_addJoined_3 (v := 64) (by decide) ?_
      refine pw_icmp_ge C 64 d_RE_addJoined_5 (by decide) (fun h5 => ?_) (fun h5 => ?_)
      · exact absurd ((nI_leI (a := 64) (by decide) (by omega)).mp h5) (by omega)
      refine pw_aload_n C d_RE_addJoined_8 rfl ?_
      refine pw_iload_n C d_RE_addJoined_9 rfl ?_
      refine pw_laldK C d_RE_addJoined_10 hd2 (by rw [pw_up_ne _ _ hne2]; exact hw2) (by omega) ?_
      refine pw_lstore C d_RE_addJoined_11 (by decide) ?_
      refine pw_iconst C d_RE_addJoined_13 (v := 0) (by decide) ?_
      refine pw_istore C d_RE_addJoined_14 (by decide) ?_
      refine Li k (by omega) ?_ 64 0 0 (by omega) (Nat.le_refl 0) (G k) f1 (lf_0 _) (fun x hx y hy => ?_)
      · intro f2 hf2
        refine pw_iinc1 C d_RE_addJoined_58 rfl (by decide) ?_
        refine pw_goto C 2 d_RE_addJoined_61 (by decide) ?_
        exact ih (k + 1) (by omega) f2 hf2
      · rw [hf x hx y hy]
        exact ⟨fun q => q.elim Or.inl (fun q => Or.inr (Or.inl q)), fun q => q.elim Or.inl (fun q => q.elim Or.inr (fun q => absurd q.2 (fun ⟨z, hz, _⟩ => Nat.not_lt_zero z hz)))⟩
  refine pw_iconst C d_RE_addJoined_0 (v := 0) (by decide) ?_
  refine pw_istore_n C d_RE_addJoined_1 (by decide) ?_
  refine MW.world (pw_up_id w hw).symm ?_
  exact L 64 0 rfl F (fun x hx y hy => ⟨Or.inl, fun q => q.elim id (fun q => absurd q.1 (Nat.not_lt_zero x))⟩)
set_option maxHeartbeats 4000000 in
set_option maxRecDepth 100000 in
theorem k_RE_close (l : Launch) {X : Lay} (hI : pw_I X) (w : Wd) {g i : Nat} {F : Nat → Int64} (hd : pw_d X g i) (hw : w g i = aL X 64 F) : CtV l y_RE_close (pw_ws y_RE_close c_RE_close 3 none) { frames := 1, cells := 0, slots := 0, locals := 22 } X w [.ref (pw_a X g i)] (fun w1 => ∃ f1, w1 = pw_up w g i (aL X 64 f1) ∧ ∀ x, x < 64 → ∀ y, y < 64 → bt_f (f1 x) y = wz_f (fun a b => bt_f (F a) b) 64 x y) := by
  refine pw_open (by decide) hI [some (.ref (pw_a X g i)), none, none] rfl (Nat.le_of_ble_eq_true rfl) ?_
  intro zp ze zs zm za zb zt zc hargs C hr hlk hnm
  generalize hrr : (fun a b => bt_f (F a) b) = rr
  have Li : ∀ k : Nat, k < 64 → (∀ f1 : Nat → Int64, (∀ x, x < 64 → ∀ y, y < 64 → bt_f (f1 x) y = wz_f rr (k + 1) x y) → MW zp l ze ({ frames := 1, cells := 0, slots := 0, locals := 22 } : Room) zs zm za zb zt zc X 3 0 0 (MQ zb (va_Qv (fun w1 => ∃ f1, w1 = pw_up w g i (aL X 64 f1) ∧ ∀ x, x < 64 → ∀ y, y < 64 → bt_f (f1 x) y = wz_f rr 64 x y) (pw_B X) (pw_F X)) za zs 0 0 (pw_F X)) (pw_up w g i (aL X 64 f1)) 41 [some (.ref (pw_a X g i)), some (.int (nI k)), none] []) → ∀ d q : Nat, q + d = 64 → ∀ f1 : Nat → Int64, (∀ x, x < q → ∀ y, y < 64 → bt_f (f1 x) y = wz_f rr (k + 1) x y) → (∀ x, q ≤ x → x < 64 → ∀ y, y < 64 → bt_f (f1 x) y = wz_f rr k x y) → MW zp l ze ({ frames := 1, cells := 0, slots := 0, locals := 22 } : Room) zs zm za zb zt zc X 3 0 0 (MQ zb (va_Qv (fun w1 => ∃ f1, w1 = pw_up w g i (aL X 64 f1) ∧ ∀ x, x < 64 → ∀ y, y < 64 → bt_f (f1 x) y = wz_f rr 64 x y) (pw_B X) (pw_F X)) za zs 0 0 (pw_F X)) (pw_up w g i (aL X 64 f1)) 10 [some (.ref (pw_a X g i)), some (.int (nI k)), some (.int (nI q))] [] := by
    intro k hk hcont d
    induction d with
    | zero =>
      intro q hqd f1 hf1 hf2
      refine pw_iload_n C d_RE_close_10 rfl ?_
      refine pw_bipush C d_RE_close_11 (v := 64) (by decide) ?_
      refine pw_icmp_ge C 41 d_RE_close_13 (by decide) (fun h13 => ?_) (fun h13 => ?_)
      · exact MW.less (lv' := [some (.ref (pw_a X g i)), some (.int (nI k)), none]) (by intro i v h; rcases i with _ | _ | _ | _ | _ | _ | _ | i <;> first | exact h | (simp at h)) (hcont f1 (fun x hx => hf1 x (by omega)))
      · exact absurd (nI_le (a := 64) (b := q) (by omega) (by omega)) h13
    | succ d ih =>
      intro q hqd f1 hf1 hf2
      refine pw_iload_n C d_RE_close_10 rfl ?_
      refine pw_bipush C d_RE_close_11 (v := 64) (by decide) ?_
      refine pw_icmp_ge C 41 d_RE_close_13 (by decide) (fun h13 => ?_) (fun h13 => ?_)
      · exact absurd ((nI_leI (a := 64) (by decide) (by omega)).mp h13) (by omega)
      refine pw_aload_n C d_RE_close_16 rfl ?_
      refine pw_iload_n C d_RE_close_17 rfl ?_
      refine pw_laldK C d_RE_close_18 hd (pw_up_self w g i _) (by omega) ?_
      refine pw_iload_n C d_RE_close_19 rfl ?_
      refine pw_callSNi C (k_PF_holds l hI _ _ hk) ⟨pw_cn C 2 W_159 W_1 N_31 ⟨rfl, rfl⟩ (by decide +kernel) ⟨(Nat.le_of_ble_eq_true rfl), (Nat.le_of_ble_eq_true rfl)⟩, pw_w C W_158, trivial⟩ rfl rfl (Nat.le_of_ble_eq_true rfl) d_RE_close_20 ⟨Nat.zero_le _, Nat.zero_le _⟩ (fun r w9 hp => ?_)
      obtain ⟨e9, hp⟩ := hp
      refine MW.world e9 ?_
      refine pw_if_eq C 35 d_RE_close_23 (by decide) (fun h23 => ?_) (fun h23 => ?_)
      · refine pw_iinc1 C d_RE_close_35 rfl (by decide) ?_
        refine pw_goto C 10 d_RE_close_38 (by decide) ?_
        refine ih (q + 1) (by omega) f1 (fun x hx y hy => ?_) (fun x hx hx2 y hy => hf2 x (by omega) hx2 y hy)
        by_cases q1 : x = q
        · subst q1
          have hz : wz_f rr k x k = false := by
            rw [← hf2 x (Nat.le_refl x) (by omega) k hk]
            cases hb : bt_f (f1 x) k with
            | false => rfl
            | true => exact absurd hb (yn_f hp h23)
          rw [hf2 x (Nat.le_refl x) (by omega) y hy]
          show wz_f rr k x y = (wz_f rr k x y || (wz_f rr k x k && wz_f rr k k y))
          rw [hz]; simp
        · exact hf1 x (by omega) y hy
      · refine pw_aload_n C d_RE_close_26 rfl ?_
        refine pw_iload_n C d_RE_close_27 rfl ?_
        refine pw_dup2 C d_RE_close_28 rfl rfl ?_
        refine pw_laldK C d_RE_close_29 hd (pw_up_self w g i _) (by omega) ?_
        refine pw_aload_n C d_RE_close_30 rfl ?_
        refine pw_iload_n C d_RE_close_31 rfl ?_
        refine pw_laldK C d_RE_close_32 hd (pw_up_self w g i _) hk ?_
        refine pw_lor C d_RE_close_33 ?_
        refine pw_lastK C d_RE_close_34 hd (pw_up_self w g i _) (by omega) ?_
        refine pw_iinc1 C d_RE_close_35 rfl (by decide) ?_
        refine pw_goto C 10 d_RE_close_38 (by decide) ?_
        rw [pw_up_up]
        refine ih (q + 1) (by omega) _ (fun x hx y hy => ?_) (fun x hx hx2 y hy => ?_)
        · by_cases q1 : x = q
          · subst q1
            have hz : wz_f rr k x k = true := by
              rw [← hf2 x (Nat.le_refl x) (by omega) k hk]
              exact yn_t hp h23
            have hk2 : bt_f (f1 k) y = wz_f rr k k y := by
              rcases Nat.lt_or_ge k x with q2 | q2
              · rw [hf1 k q2 y hy, wz_row]
              · exact hf2 k q2 hk y hy
            rw [pk_uLs, bt_or, hf2 x (Nat.le_refl x) (by omega) y hy, hk2]
            show _ = (wz_f rr k x y || (wz_f rr k x k && wz_f rr k k y))
            rw [hz]; simp
          · rw [pk_uLn q1]; exact hf1 x (by omega) y hy
        · rw [pk_uLn (by omega)]; exact hf2 x (by omega) hx2 y hy
  have L : ∀ d k : Nat, k + d = 64 → ∀ f1 : Nat → Int64, (∀ x, x < 64 → ∀ y, y < 64 → bt_f (f1 x) y = wz_f rr k x y) → MW zp l ze ({ frames := 1, cells := 0, slots := 0, locals := 22 } : Room) zs zm za zb zt zc X 3 0 0 (MQ zb (va_Qv (fun w1 => ∃ f1, w1 = pw_up w g i (aL X 64 f1) ∧ ∀ x, x < 64 → ∀ y, y < 64 → bt_f (f1 x) y = wz_f rr 64 x y) (pw_B X) (pw_F X)) za zs 0 0 (pw_F X)) (pw_up w g i (aL X 64 f1)) 2 [some (.ref (pw_a X g i)), some (.int (nI k)), none] [] := by
    intro d
    induction d with
    | zero =>
      intro k hkd f1 hf
      refine pw_iload_n C d_RE_close_2 rfl ?_
      refine pw_bipush C d_RE_close_3 (v := 64) (by decide) ?_
      refine pw_icmp_ge C 47 d_RE_close_5 (by decide) (fun h5 => ?_) (fun h5 => ?_)
      · refine pw_vret C hr hlk d_RE_close_47 ?_
        refine ⟨f1, rfl, fun x hx y hy => ?_⟩
        rw [hf x hx y hy, show k = 64 by omega]
      · exact absurd (nI_le (a := 64) (b := k) (by omega) (by omega)) h5
    | succ d ih =>
      intro k hkd f1 hf
      refine pw_iload_n C d_RE_close_2 rfl ?_
      refine pw_bipush C d_RE_close_3 (v := 64) (by decide) ?_
      refine pw_icmp_ge C 47 d_RE_close_5 (by decide) (fun h5 => ?_) (fun h5 => ?_)
      · exact absurd ((nI_leI (a := 64) (by decide) (by omega)).mp h5) (by omega)
      refine pw_iconst C d_RE_close_8 (v := 0) (by decide) ?_
      refine pw_istore_n C d_RE_close_9 (by decide) ?_
      refine Li k (by omega) ?_ 64 0 rfl f1 (fun x hx => absurd hx (Nat.not_lt_zero x)) (fun x _ hx => hf x hx)
      intro f2 hf2
      refine pw_iinc1 C d_RE_close_41 rfl (by decide) ?_
      refine pw_goto C 2 d_RE_close_44 (by decide) ?_
      exact ih (k + 1) (by omega) f2 hf2
  refine pw_iconst C d_RE_close_0 (v := 0) (by decide) ?_
  refine pw_istore_n C d_RE_close_1 (by decide) ?_
  refine MW.world (pw_up_id w hw).symm ?_
  exact L 64 0 rfl F (fun x hx y hy => by rw [← hrr]; rfl)
