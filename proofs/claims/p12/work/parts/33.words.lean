/-! PATH: readWords, append, empty -/
/-- what look answers -/
def lk_f (wd : Nat → Int32) (n : Nat) : Int32 := match rd_f wd n 12 0 0 with
  | (true, b, _) => if b < n then -100 - nI b else 0
  | (false, f, _) => -100 - nI f
/-- the tables behind a reading of the whole path -/
def p_st (wd : Nat → Int32) (n t : Nat) (ks ls ss : Nat → Int32) : Prop := ∃ (ok : Bool) (b : Nat), rd_f wd n 12 0 0 = (ok, b, t) ∧ (ok = true → tb_f wd ks ls ss 12 0 0 b t)
set_option maxHeartbeats 4000000 in
set_option maxRecDepth 100000 in
theorem k_PA_readWords (l : Launch) {X : Lay} (hI : pw_I X) (hX : Dm X) (w : Wd) {wd ks ls ss : Nat → Int32} {n : Nat} {tt ft : Int32} (hn : n ≤ 60) : CtV l y_PA_readWords (pw_ws y_PA_readWords c_PA_readWords 2 none) { frames := 15, cells := 0, slots := 0, locals := 372 } X (p_w X w wd (nI n) tt ft ks ls ss) [.ref (pw_a X 4 0)] (fun w1 => ∃ t1 ks1 ls1 ss1, w1 = p_w X w wd (nI n) (nI t1) (lk_f wd n) ks1 ls1 ss1 ∧ p_st wd n t1 ks1 ls1 ss1) := by
  refine pw_open (by decide) hI [some (.ref (pw_a X 4 0)), none] rfl (Nat.le_of_ble_eq_true rfl) ?_
  intro zp ze zs zm za zb zt zc hargs C hr hlk hnm
  refine pw_aload_n C d_PA_readWords_0 rfl ?_
  refine pw_iconst C d_PA_readWords_1 (v := 0) (by decide) ?_
  refine pw_put C d_PA_readWords_2 (hX 4 0 rfl) rfl 5 (Nat.le_of_ble_eq_true rfl) rfl (by decide) in_PA t_PA tk_PA n_PA W_56 rfl rfl (tk_PA 5 (by decide)) rfl rfl ?_
  refine MW.world p_u4 ?_
  refine pw_aload_n C d_PA_readWords_5 rfl ?_
  refine pw_iconst C d_PA_readWords_6 (v := 0) (by decide) ?_
  refine pw_iconst C d_PA_readWords_7 (v := 1) (by decide) ?_
  refine pw_callVi C (k_PA_readPart l hI hX w wd ft hn 12 (Nat.le_refl 12) ks ls ss 0 0 (Nat.zero_le _) (by omega)) (hX 4 0 rfl) rfl rfl ⟨pw_cb C 2 W_195 W_3 W_192 ⟨rfl, rfl⟩ (by decide +kernel) ⟨(Nat.le_of_ble_eq_true rfl), (Nat.le_of_ble_eq_true rfl)⟩, pw_w C W_194, pw_w C V_5⟩ rfl rfl (Nat.le_of_ble_eq_true rfl) d_PA_readWords_8 ⟨Nat.zero_le _, Nat.zero_le _⟩ (fun r w4 hp4 => ?_)
  obtain ⟨ok1, b1, t2, ks1, ls1, ss1, hrd1, rfl, hsame1, hok1, hno1⟩ := hp4
  have hin1 := rd_in wd n 12 0 0 ok1 b1 t2 hrd1 (Nat.zero_le _) (by omega)
  refine pw_istore_n C d_PA_readWords_11 (by decide) ?_
  refine pw_iload_n C d_PA_readWords_12 rfl ?_
  refine pw_if_ge C 24 d_PA_readWords_13 (by decide) (fun h13 => ?_) (fun h13 => ?_)
  · have hT : ok1 = true := by
      cases ok1 with
      | false => rw [hno1 rfl] at h13; exact absurd (fc_neg b1 (by omega)) (Int32.not_lt.mpr h13)
      | true => rfl
    subst hT
    obtain ⟨hb1e, htb1⟩ := hok1 rfl
    subst hb1e
    refine pw_aload_n C d_PA_readWords_24 rfl ?_
    refine pw_iload_n C d_PA_readWords_25 rfl ?_
    refine pw_aload_n C d_PA_readWords_26 rfl ?_
    refine pw_get C d_PA_readWords_27 (hX 4 0 rfl) rfl 4 rfl rfl (by decide) in_PA W_53 rfl ?_
    refine pw_icmp_ge C 40 d_PA_readWords_30 (by decide) (fun h30 => ?_) (fun h30 => ?_)
    · refine pw_iconst C d_PA_readWords_40 (v := 0) (by decide) ?_
      refine pw_put C d_PA_readWords_41 (hX 4 0 rfl) rfl 6 (Nat.le_of_ble_eq_true rfl) rfl (by decide) in_PA t_PA tk_PA n_PA W_57 rfl rfl (tk_PA 6 (by decide)) rfl rfl ?_
      refine MW.world p_u4 ?_
      refine pw_vret C hr hlk d_PA_readWords_44 ?_
      refine ⟨t2, ks1, ls1, ss1, ?_, true, b1, hrd1, fun _ => htb1⟩
      have hlt : ¬ b1 < n := fun q => absurd h30 (nI_ge q (by omega))
      unfold lk_f
      rw [hrd1]
      dsimp only
      rw [if_neg hlt]
    · refine pw_iload_n C d_PA_readWords_33 rfl ?_
      refine pw_callSi C (k_PA_faultAt l hI _ _) ⟨pw_cb C 1 W_202 W_3 W_200 ⟨rfl, rfl⟩ (by decide +kernel) ⟨(Nat.le_of_ble_eq_true rfl), (Nat.le_of_ble_eq_true rfl)⟩, pw_w C W_201⟩ rfl rfl (Nat.le_of_ble_eq_true rfl) d_PA_readWords_34 ⟨Nat.zero_le _, Nat.zero_le _⟩ (fun r2 w9 hp2 => ?_)
      obtain ⟨e9, hp2⟩ := hp2
      refine MW.world e9 ?_
      refine pw_goto C 41 d_PA_readWords_37 (by decide) ?_
      refine pw_put C d_PA_readWords_41 (hX 4 0 rfl) rfl 6 (Nat.le_of_ble_eq_true rfl) rfl (by decide) in_PA t_PA tk_PA n_PA W_57 rfl rfl (tk_PA 6 (by decide)) rfl rfl ?_
      refine MW.world p_u4 ?_
      refine pw_vret C hr hlk d_PA_readWords_44 ?_
      refine ⟨t2, ks1, ls1, ss1, ?_, true, b1, hrd1, fun _ => htb1⟩
      have hlt : b1 < n := Nat.not_le.mp (fun q => h30 (nI_le q (by omega)))
      unfold lk_f
      rw [hrd1]
      dsimp only
      rw [if_pos hlt, hp2]
  · have hF : ok1 = false := by
      cases ok1 with
      | true => rw [(hok1 rfl).1] at h13; exact absurd (nI_pos' (by omega)) h13
      | false => rfl
    subst hF
    refine pw_aload_n C d_PA_readWords_16 rfl ?_
    refine pw_iload_n C d_PA_readWords_17 rfl ?_
    refine pw_put C d_PA_readWords_18 (hX 4 0 rfl) rfl 6 (Nat.le_of_ble_eq_true rfl) rfl (by decide) in_PA t_PA tk_PA n_PA W_57 rfl rfl (tk_PA 6 (by decide)) rfl rfl ?_
    refine pw_goto C 44 d_PA_readWords_21 (by decide) ?_
    refine MW.world p_u4 ?_
    refine pw_vret C hr hlk d_PA_readWords_44 ?_
    refine ⟨t2, ks1, ls1, ss1, ?_, false, b1, hrd1, fun q => (by cases q)⟩
    unfold lk_f
    rw [hrd1, hno1 rfl]
set_option maxHeartbeats 4000000 in
set_option maxRecDepth 100000 in
theorem k_PA_append (l : Launch) {X : Lay} (hI : pw_I X) (hX : Dm X) (w : Wd) {wd ks ls ss : Nat → Int32} {n : Nat} {tt ft : Int32} (hn : n ≤ 60) (v : Int32) : CtI l y_PA_append (pw_ws y_PA_append c_PA_append 2 (some .int)) { frames := 16, cells := 0, slots := 0, locals := 393 } X (p_w X w wd (nI n) tt ft ks ls ss) [.ref (pw_a X 4 0), .int v] (fun r w1 => (n = 60 ∧ r = -3 ∧ w1 = p_w X w wd (nI n) tt ft ks ls ss) ∨ (n < 60 ∧ r = nI (n + 1) ∧ ∃ t1 ks1 ls1 ss1, w1 = p_w X w (upd wd n v) (nI (n + 1)) (nI t1) (lk_f (upd wd n v) (n + 1)) ks1 ls1 ss1 ∧ p_st (upd wd n v) (n + 1) t1 ks1 ls1 ss1)) := by
  refine pw_open (by decide) hI [some (.ref (pw_a X 4 0)), some (.int v)] rfl (Nat.le_of_ble_eq_true rfl) ?_
  intro zp ze zs zm za zb zt zc hargs C hr hlk hnm
  refine pw_aload_n C d_PA_append_0 rfl ?_
  refine pw_get C d_PA_append_1 (hX 4 0 rfl) rfl 4 rfl rfl (by decide) in_PA W_53 rfl ?_
  refine pw_bipush C d_PA_append_4 (v := 60) (by decide) ?_
  refine pw_icmp_lt C 12 d_PA_append_6 (by decide) (fun h6 => ?_) (fun h6 => ?_)
  · have hlt : n < 60 := (nI_ltI (b := 60) (by omega) (by decide)).mp h6
    refine pw_aload_n C d_PA_append_12 rfl ?_
    refine pw_get C d_PA_append_13 (hX 4 0 rfl) rfl 0 rfl rfl (by decide) in_PA W_43 rfl ?_
    refine pw_aload_n C d_PA_append_16 rfl ?_
    refine pw_get C d_PA_append_17 (hX 4 0 rfl) rfl 4 rfl rfl (by decide) in_PA W_53 rfl ?_
    refine pw_iload_n C d_PA_append_20 rfl ?_
    refine pw_iastK C d_PA_append_21 (hX 5 0 rfl) rfl hlt ?_
    refine MW.world p_u5 ?_
    refine pw_aload_n C d_PA_append_22 rfl ?_
    refine pw_dup C d_PA_append_23 rfl ?_
    refine pw_get C d_PA_append_24 (hX 4 0 rfl) rfl 4 rfl rfl (by decide) in_PA W_53 rfl ?_
    refine pw_iconst C d_PA_append_27 (v := 1) (by decide) ?_
    refine pw_iadd C d_PA_append_28 ?_
    refine pw_put C d_PA_append_29 (hX 4 0 rfl) rfl 4 (Nat.le_of_ble_eq_true rfl) rfl (by decide) in_PA t_PA tk_PA n_PA W_53 rfl rfl (tk_PA 4 (by decide)) rfl rfl ?_
    refine MW.world p_u4 ?_
    rw [nI_1]
    refine pw_aload_n C d_PA_append_32 rfl ?_
    refine pw_callVv C (k_PA_readWords l hI hX w (n := n + 1) (by omega)) (hX 4 0 rfl) rfl rfl ⟨pw_cb C 0 W_191 W_3 W_188 ⟨rfl, rfl⟩ (by decide +kernel) ⟨(Nat.le_of_ble_eq_true rfl), (Nat.le_of_ble_eq_true rfl)⟩, pw_w C W_190, pw_w C V_4⟩ rfl rfl (Nat.le_of_ble_eq_true rfl) d_PA_append_33 ⟨Nat.zero_le _, Nat.zero_le _⟩ (fun w4 hp4 => ?_)
    obtain ⟨t1, ks1, ls1, ss1, rfl, hst⟩ := hp4
    refine pw_aload_n C d_PA_append_36 rfl ?_
    refine pw_get C d_PA_append_37 (hX 4 0 rfl) rfl 4 rfl rfl (by decide) in_PA W_53 rfl ?_
    refine pw_iret C hr hlk d_PA_append_40 ?_
    exact Or.inr ⟨hlt, rfl, t1, ks1, ls1, ss1, rfl, hst⟩
  · refine pw_bipush C d_PA_append_9 (v := -3) (by decide) ?_
    refine pw_iret C hr hlk d_PA_append_11 ?_
    refine Or.inl ⟨?_, rfl, rfl⟩
    have : ¬ n < 60 := fun q => h6 (nI_lt q (by decide))
    omega
set_option maxHeartbeats 4000000 in
set_option maxRecDepth 100000 in
theorem k_PA_empty (l : Launch) {X : Lay} (hI : pw_I X) (hX : Dm X) (w : Wd) {wd ks ls ss : Nat → Int32} {n : Nat} {tt ft : Int32} : CtI l y_PA_empty (pw_ws y_PA_empty c_PA_empty 2 (some .int)) { frames := 16, cells := 0, slots := 0, locals := 393 } X (p_w X w wd (nI n) tt ft ks ls ss) [.ref (pw_a X 4 0)] (fun r w1 => r = nI n ∧ ∃ t1 ks1 ls1 ss1, w1 = p_w X w wd (nI 0) (nI t1) (lk_f wd 0) ks1 ls1 ss1 ∧ p_st wd 0 t1 ks1 ls1 ss1) := by
  refine pw_open (by decide) hI [some (.ref (pw_a X 4 0)), none] rfl (Nat.le_of_ble_eq_true rfl) ?_
  intro zp ze zs zm za zb zt zc hargs C hr hlk hnm
  refine pw_aload_n C d_PA_empty_0 rfl ?_
  refine pw_get C d_PA_empty_1 (hX 4 0 rfl) rfl 4 rfl rfl (by decide) in_PA W_53 rfl ?_
  refine pw_istore_n C d_PA_empty_4 (by decide) ?_
  refine pw_aload_n C d_PA_empty_5 rfl ?_
  refine pw_iconst C d_PA_empty_6 (v := 0) (by decide) ?_
  refine pw_put C d_PA_empty_7 (hX 4 0 rfl) rfl 4 (Nat.le_of_ble_eq_true rfl) rfl (by decide) in_PA t_PA tk_PA n_PA W_53 rfl rfl (tk_PA 4 (by decide)) rfl rfl ?_
  refine MW.world (p_u4 (n1 := nI 0)) ?_
  refine pw_aload_n C d_PA_empty_10 rfl ?_
  refine pw_callVv C (k_PA_readWords l hI hX w (n := 0) (by omega)) (hX 4 0 rfl) rfl rfl ⟨pw_cb C 0 W_191 W_3 W_188 ⟨rfl, rfl⟩ (by decide +kernel) ⟨(Nat.le_of_ble_eq_true rfl), (Nat.le_of_ble_eq_true rfl)⟩, pw_w C W_190, pw_w C V_4⟩ rfl rfl (Nat.le_of_ble_eq_true rfl) d_PA_empty_11 ⟨Nat.zero_le _, Nat.zero_le _⟩ (fun w4 hp4 => ?_)
  obtain ⟨t1, ks1, ls1, ss1, rfl, hst⟩ := hp4
  refine pw_iload_n C d_PA_empty_14 rfl ?_
  refine pw_iret C hr hlk d_PA_empty_15 ?_
  exact ⟨rfl, t1, ks1, ls1, ss1, rfl, hst⟩
