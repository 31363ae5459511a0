/-! COUNTS: gather, spread, carryOver -/
/-- a row of times: each at most 10^15 -/
def tm_f (f : Nat → Int64) (c : Nat → Nat) : Prop := ∀ j, j < 64 → f j = lN (c j) ∧ c j ≤ C15
theorem sg_gap {f : Nat → Nat} {u j : Nat} (huj : u ≤ j) (h : ∀ i, u ≤ i → i < j → f i = 0) : sg_f f (j + 1) = sg_f f u + f j := by
  have : sg_f f j = sg_f f u := by
    obtain ⟨d, rfl⟩ : ∃ d, j = u + d := ⟨j - u, by omega⟩
    rw [sg_split]
    have : sg_f (fun i => f (u + i)) d = sg_f (fun _ => 0) d := sg_congr (fun i hi => h (u + i) (by omega) (by omega))
    rw [this, sg_zero, Nat.add_zero]
  show sg_f f j + f j = _
  rw [this]
theorem sg_rest {f : Nat → Nat} {u n : Nat} (hun : u ≤ n) (h : ∀ i, u ≤ i → i < n → f i = 0) : sg_f f n = sg_f f u := by
  obtain ⟨d, rfl⟩ : ∃ d, n = u + d := ⟨n - u, by omega⟩
  rw [sg_split]
  have : sg_f (fun i => f (u + i)) d = sg_f (fun _ => 0) d := sg_congr (fun i hi => h (u + i) (by omega) (by omega))
  rw [this, sg_zero, Nat.add_zero]
set_option maxHeartbeats 4000000 in
set_option maxRecDepth 100000 in
theorem k_CN_gather (l : Launch) {X : Lay} (hI : pw_I X) (w : Wd) {g i : Nat} {F : Nat → Int64} {cI : Nat → Nat} (s : Int64) (hd : pw_d X g i) (hw : w g i = aL X 64 F) (hF : tm_f F cI) : CtL l y_CN_gather (pw_ws y_CN_gather c_CN_gather 8 (some .long)) { frames := 2, cells := 0, slots := 0, locals := 43 } X w [.long s, .ref (pw_a X g i)] (fun r w1 => w1 = w ∧ r = lN (cp_f (sg_f (fun j => if bt_f s j then cI j else 0) 64))) := by
  refine pw_open (by decide) hI [some (.long s), none, some (.ref (pw_a X g i)), none, none, none, none, none] rfl (Nat.le_of_ble_eq_true rfl) ?_
  intro zp ze zs zm za zb zt zc hargs C zr zk hnm
  have Li : ∀ d u q : Nat, 64 ≤ u + d → u ≤ 64 → q ≤ u → ∀ r : Int64, lf_s r s u → MW zp l ze ({ frames := 2, cells := 0, slots := 0, locals := 43 } : Room) zs zm za zb zt zc X 8 0 0 (MQ zb (va_Ql (fun r w1 => w1 = w ∧ r = lN (cp_f (sg_f (fun j => if bt_f s j then cI j else 0) 64))) (pw_B X) (pw_F X)) za zs 0 0 (pw_F X)) w 8 [some (.long s), none, some (.ref (pw_a X g i)), some (.long (lN (cp_f (sg_f (fun j => if bt_f s j then cI j else 0) u)))), none, some (.long r), none, some (.int (nI q))] [] := by
    intro d
    induction d with
    | zero =>
      intro u q hud hu hqu r hr
      have hu64 : u = 64 := by omega
      subst hu64
      refine pw_iload C d_CN_gather_8 rfl ?_
      refine pw_bipush C d_CN_gather_10 (v := 64) (by decide) ?_
      refine pw_icmp_ge C 49 d_CN_gather_12 (by decide) (fun h12 => ?_) (fun h12 => ?_)
      · refine pw_lload_n C d_CN_gather_49 rfl ?_
        refine pw_lret C zr zk d_CN_gather_50 ?_
        exact ⟨rfl, rfl⟩
      · refine pw_lload C d_CN_gather_15 rfl ?_
        refine pw_lconst C d_CN_gather_17 (v := 0) (by decide) ?_
        refine pw_lcmp C d_CN_gather_18 ?_
        refine pw_if_eq C 49 d_CN_gather_19 (by decide) (fun h19 => ?_) (fun h19 => ?_)
        · refine pw_lload_n C d_CN_gather_49 rfl ?_
          refine pw_lret C zr zk d_CN_gather_50 ?_
          exact ⟨rfl, rfl⟩
        · exact absurd ((lc_eq _ _).mpr (lf_big hr (Nat.le_refl 64))) h19
    | succ d ih =>
      intro u q hud hu hqu r hr
      refine pw_iload C d_CN_gather_8 rfl ?_
      refine pw_bipush C d_CN_gather_10 (v := 64) (by decide) ?_
      refine pw_icmp_ge C 49 d_CN_gather_12 (by decide) (fun h12 => ?_) (fun h12 => ?_)
      · refine pw_lload_n C d_CN_gather_49 rfl ?_
        refine pw_lret C zr zk d_CN_gather_50 ?_
        refine ⟨rfl, ?_⟩
        have : u = 64 := by have := (nI_leI (a := 64) (by decide) (by omega)).mp h12; omega
        subst this
        rfl
      · refine pw_lload C d_CN_gather_15 rfl ?_
        refine pw_lconst C d_CN_gather_17 (v := 0) (by decide) ?_
        refine pw_lcmp C d_CN_gather_18 ?_
        refine pw_if_eq C 49 d_CN_gather_19 (by decide) (fun h19 => ?_) (fun h19 => ?_)
        · refine pw_lload_n C d_CN_gather_49 rfl ?_
          refine pw_lret C zr zk d_CN_gather_50 ?_
          refine ⟨rfl, ?_⟩
          rw [sg_rest hu (fun i h1 h2 => by rw [lf_end hr ((lc_eq _ _).mp h19) h2 h1]; rfl)]
        · obtain ⟨j, hj, huj, hsj, hjr, hlow, hgap, hnext⟩ := lf_next hr (fun q => h19 ((lc_eq _ _).mpr q))
          refine pw_lload_n C d_CN_gather_22 rfl ?_
          refine pw_aload_n C d_CN_gather_23 rfl ?_
          refine pw_lload C d_CN_gather_24 rfl ?_
          refine pw_callSi C (k_LO_ntz l hI _ hj hjr hlow) ⟨pw_cb C 1 W_262 W_8 W_293 ⟨rfl, rfl⟩ (by decide +kernel) ⟨(Nat.le_of_ble_eq_true rfl), (Nat.le_of_ble_eq_true rfl)⟩, pw_w C W_261⟩ rfl rfl (Nat.le_of_ble_eq_true rfl) d_CN_gather_26 ⟨Nat.zero_le _, Nat.zero_le _⟩ (fun rr w9 hp => ?_)
          obtain ⟨e9, hp⟩ := hp
          subst hp
          refine MW.world e9 ?_
          refine pw_laldK C d_CN_gather_29 hd hw hj ?_
          rw [(hF j hj).1]
          refine pw_callSNl C (k_PF_sumOf l hI _ (cp_le _) (hF j hj).2) ⟨pw_cn C 2 W_296 W_1 N_34 ⟨rfl, rfl⟩ (by decide +kernel) ⟨(Nat.le_of_ble_eq_true rfl), (Nat.le_of_ble_eq_true rfl)⟩, pw_w C W_295, trivial⟩ rfl rfl (Nat.le_of_ble_eq_true rfl) d_CN_gather_30 ⟨Nat.zero_le _, Nat.zero_le _⟩ (fun rs w9 hp => ?_)
          obtain ⟨e9, hp⟩ := hp
          subst hp
          refine MW.world e9 ?_
          refine pw_lstore_n C d_CN_gather_33 (by decide) ?_
          refine pw_lload C d_CN_gather_34 rfl ?_
          refine pw_lload C d_CN_gather_36 rfl ?_
          refine pw_lconst C d_CN_gather_38 (v := 1) (by decide) ?_
          refine pw_lsub C d_CN_gather_39 ?_
          refine pw_land C d_CN_gather_40 ?_
          refine pw_lstore C d_CN_gather_41 (by decide) ?_
          refine pw_iinc1 C d_CN_gather_43 rfl (by decide) ?_
          refine pw_goto C 8 d_CN_gather_46 (by decide) ?_
          have e : cp_f (cp_f (sg_f (fun j => if bt_f s j then cI j else 0) u) + cI j) = cp_f (sg_f (fun j => if bt_f s j then cI j else 0) (j + 1)) := by
            rw [cp_add, sg_gap huj (fun i h1 h2 => by rw [hgap i h1 h2]; rfl)]
            simp [hsj]
          rw [e]
          exact ih (j + 1) (q + 1) (by omega) (by omega) (by omega) _ hnext
  refine pw_lconst C d_CN_gather_0 (v := 0) (by decide) ?_
  refine pw_lstore_n C d_CN_gather_1 (by decide) ?_
  refine pw_lload_n C d_CN_gather_2 rfl ?_
  refine pw_lstore C d_CN_gather_3 (by decide) ?_
  refine pw_iconst C d_CN_gather_5 (v := 0) (by decide) ?_
  refine pw_istore C d_CN_gather_6 (by decide) ?_
  exact Li 64 0 0 (by omega) (by omega) (Nat.le_refl 0) s (lf_0 s)
set_option maxHeartbeats 4000000 in
set_option maxRecDepth 100000 in
theorem k_CN_spread (l : Launch) {X : Lay} (hI : pw_I X) (w : Wd) {g i : Nat} {F : Nat → Int64} {cO : Nat → Nat} {c : Nat} (s : Int64) (hc : c ≤ C15) (hd : pw_d X g i) (hw : w g i = aL X 64 F) (hF : tm_f F cO) : CtV l y_CN_spread (pw_ws y_CN_spread c_CN_spread 9 none) { frames := 2, cells := 0, slots := 0, locals := 43 } X w [.long s, .long (lN c), .ref (pw_a X g i)] (fun w1 => ∃ f1, w1 = pw_up w g i (aL X 64 f1) ∧ tm_f f1 (fun y => cp_f (cO y + if bt_f s y then c else 0))) := by
  refine pw_open (by decide) hI [some (.long s), none, some (.long (lN c)), none, some (.ref (pw_a X g i)), none, none, none, none] rfl (Nat.le_of_ble_eq_true rfl) ?_
  intro zp ze zs zm za zb zt zc hargs C zr zk hnm
  have fin : ∀ (u : Nat) (f1 : Nat → Int64), (∀ j, j < 64 → u ≤ j → bt_f s j = false) → tm_f f1 (fun y => cp_f (cO y + if bt_f s y && decide (y < u) then c else 0)) → tm_f f1 (fun y => cp_f (cO y + if bt_f s y then c else 0)) := by
    intro u f1 hz hf y hy
    have h := hf y hy
    by_cases q : y < u
    · simpa [q] using h
    · have := hz y hy (by omega)
      simpa [this] using h
  have Li : ∀ d u q : Nat, 64 ≤ u + d → u ≤ 64 → q ≤ u → ∀ (r : Int64) (f1 : Nat → Int64), lf_s r s u → tm_f f1 (fun y => cp_f (cO y + if bt_f s y && decide (y < u) then c else 0)) → MW zp l ze ({ frames := 2, cells := 0, slots := 0, locals := 43 } : Room) zs zm za zb zt zc X 9 0 0 (MQ zb (va_Qv (fun w1 => ∃ f1, w1 = pw_up w g i (aL X 64 f1) ∧ tm_f f1 (fun y => cp_f (cO y + if bt_f s y then c else 0))) (pw_B X) (pw_F X)) za zs 0 0 (pw_F X)) (pw_up w g i (aL X 64 f1)) 6 [some (.long s), none, some (.long (lN c)), none, some (.ref (pw_a X g i)), some (.long r), none, some (.int (nI q)), none] [] := by
    intro d
    induction d with
    | zero =>
      intro u q hud hu hqu r f1 hr hf
      refine pw_iload C d_CN_spread_6 rfl ?_
      refine pw_bipush C d_CN_spread_8 (v := 64) (by decide) ?_
      refine pw_icmp_ge C 56 d_CN_spread_10 (by decide) (fun h10 => ?_) (fun h10 => ?_)
      · refine pw_vret C zr zk d_CN_spread_56 ?_
        exact ⟨f1, rfl, fin u f1 (fun j h1 h2 => (by omega)) hf⟩
      · refine pw_lload C d_CN_spread_13 rfl ?_
        refine pw_lconst C d_CN_spread_15 (v := 0) (by decide) ?_
        refine pw_lcmp C d_CN_spread_16 ?_
        refine pw_if_eq C 56 d_CN_spread_17 (by decide) (fun h17 => ?_) (fun h17 => ?_)
        · refine pw_vret C zr zk d_CN_spread_56 ?_
          exact ⟨f1, rfl, fin u f1 (fun j h1 h2 => (by omega)) hf⟩
        · exact absurd ((lc_eq _ _).mpr (lf_big hr (by omega))) h17
    | succ d ih =>
      intro u q hud hu hqu r f1 hr hf
      refine pw_iload C d_CN_spread_6 rfl ?_
      refine pw_bipush C d_CN_spread_8 (v := 64) (by decide) ?_
      refine pw_icmp_ge C 56 d_CN_spread_10 (by decide) (fun h10 => ?_) (fun h10 => ?_)
      · refine pw_vret C zr zk d_CN_spread_56 ?_
        exact ⟨f1, rfl, fin u f1 (fun j h1 h2 => (by have := (nI_leI (a := 64) (by decide) (by omega)).mp h10; omega)) hf⟩
      · refine pw_lload C d_CN_spread_13 rfl ?_
        refine pw_lconst C d_CN_spread_15 (v := 0) (by decide) ?_
        refine pw_lcmp C d_CN_spread_16 ?_
        refine pw_if_eq C 56 d_CN_spread_17 (by decide) (fun h17 => ?_) (fun h17 => ?_)
        · refine pw_vret C zr zk d_CN_spread_56 ?_
          exact ⟨f1, rfl, fin u f1 (fun j h1 h2 => lf_end hr ((lc_eq _ _).mp h17) h1 h2) hf⟩
        · obtain ⟨j, hj, huj, hsj, hjr, hlow, hgap, hnext⟩ := lf_next hr (fun q => h17 ((lc_eq _ _).mpr q))
          refine pw_lload C d_CN_spread_20 rfl ?_
          refine pw_callSi C (k_LO_ntz l hI _ hj hjr hlow) ⟨pw_cb C 1 W_262 W_8 W_293 ⟨rfl, rfl⟩ (by decide +kernel) ⟨(Nat.le_of_ble_eq_true rfl), (Nat.le_of_ble_eq_true rfl)⟩, pw_w C W_261⟩ rfl rfl (Nat.le_of_ble_eq_true rfl) d_CN_spread_22 ⟨Nat.zero_le _, Nat.zero_le _⟩ (fun rr w9 hp => ?_)
          obtain ⟨e9, hp⟩ := hp
          subst hp
          refine MW.world e9 ?_
          refine pw_istore C d_CN_spread_25 (by decide) ?_
          refine pw_aload C d_CN_spread_27 rfl ?_
          refine pw_iload C d_CN_spread_29 rfl ?_
          refine pw_aload C d_CN_spread_31 rfl ?_
          refine pw_iload C d_CN_spread_33 rfl ?_
          refine pw_laldK C d_CN_spread_35 hd (pw_up_self w g i _) hj ?_
          refine pw_lload_n C d_CN_spread_36 rfl ?_
          rw [(hf j hj).1]
          refine pw_callSNl C (k_PF_sumOf l hI _ (hf j hj).2 hc) ⟨pw_cn C 2 W_296 W_1 N_34 ⟨rfl, rfl⟩ (by decide +kernel) ⟨(Nat.le_of_ble_eq_true rfl), (Nat.le_of_ble_eq_true rfl)⟩, pw_w C W_295, trivial⟩ rfl rfl (Nat.le_of_ble_eq_true rfl) d_CN_spread_37 ⟨Nat.zero_le _, Nat.zero_le _⟩ (fun rs w9 hp => ?_)
          obtain ⟨e9, hp⟩ := hp
          subst hp
          refine MW.world e9 ?_
          refine pw_lastK C d_CN_spread_40 hd (pw_up_self w g i _) hj ?_
          refine pw_lload C d_CN_spread_41 rfl ?_
          refine pw_lload C d_CN_spread_43 rfl ?_
          refine pw_lconst C d_CN_spread_45 (v := 1) (by decide) ?_
          refine pw_lsub C d_CN_spread_46 ?_
          refine pw_land C d_CN_spread_47 ?_
          refine pw_lstore C d_CN_spread_48 (by decide) ?_
          refine pw_iinc1 C d_CN_spread_50 rfl (by decide) ?_
          refine pw_goto C 6 d_CN_spread_53 (by decide) ?_
          refine MW.less (lv' := [some (.long s), none, some (.long (lN c)), none, some (.ref (pw_a X g i)), some (.long (r &&& (r - 1))), none, some (.int (nI (q + 1))), none]) (by intro i v h; rcases i with _ | _ | _ | _ | _ | _ | _ | _ | _ | i <;> first | exact h | (simp at h)) ?_
          rw [pw_up_up]
          refine ih (j + 1) (q + 1) (by omega) (by omega) (by omega) _ _ hnext (fun y hy => ?_)
          by_cases q1 : y = j
          · subst q1
            have hnu : ¬ y < u := by omega
            rw [pk_uLs]
            simp only [hsj, hnu, decide_false, Bool.and_false, Bool.true_and, if_false, Nat.add_zero, cp_add]
            simp [cp_le]
          · rw [pk_uLn q1]
            have h := hf y hy
            by_cases q2 : y < u
            · have q3 : y < j + 1 := by omega
              simpa [q2, q3] using h
            · by_cases q3 : y < j + 1
              · have := hgap y (by omega) (by omega)
                simpa [this] using h
              · simpa [q2, q3] using h
  refine pw_lload_n C d_CN_spread_0 rfl ?_
  refine pw_lstore C d_CN_spread_1 (by decide) ?_
  refine pw_iconst C d_CN_spread_3 (v := 0) (by decide) ?_
  refine pw_istore C d_CN_spread_4 (by decide) ?_
  refine MW.world (pw_up_id w hw).symm ?_
  exact Li 64 0 0 (by omega) (by omega) (Nat.le_refl 0) s F (lf_0 s) (fun y hy => ⟨by rw [(hF y hy).1]; simp [cp_id (hF y hy).2], cp_le _⟩)
