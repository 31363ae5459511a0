/-! PATH: its methods, leaves first -/
set_option maxHeartbeats 4000000 in
set_option maxRecDepth 100000 in
theorem k_PA_faultAt (l : Launch) {X : Lay} (hI : pw_I X) (w : Wd) (a : Int32) : CtI l y_PA_faultAt (pw_ws y_PA_faultAt c_PA_faultAt 1 (some .int)) { frames := 0, cells := 0, slots := 0, locals := 0 } X w [.int a] (fun r w1 => w1 = w ∧ r = -100 - a) := by
  refine pw_open (by decide) hI [some (.int a)] rfl (Nat.le_of_ble_eq_true rfl) ?_
  intro zp ze zs zm za zb zt zc hargs C hr hlk hnm
  refine pw_bipush C d_PA_faultAt_0 (v := -100) (by decide) ?_
  refine pw_iload_n C d_PA_faultAt_2 rfl ?_
  refine pw_isub C d_PA_faultAt_3 ?_
  refine pw_iret C hr hlk d_PA_faultAt_4 ?_
  exact ⟨rfl, rfl⟩
set_option maxHeartbeats 4000000 in
set_option maxRecDepth 100000 in
theorem k_PA_isWithin (l : Launch) {X : Lay} (hI : pw_I X) (hX : Dm X) (w : Wd) {wd ks ls ss : Nat → Int32} {n : Nat} {tt ft : Int32} (hn : n ≤ 60) {a : Nat} (ha : a < 2 ^ 31) (lo hi : Int32) : CtI l y_PA_isWithin (pw_ws y_PA_isWithin c_PA_isWithin 4 (some .boolean)) { frames := 0, cells := 0, slots := 0, locals := 0 } X (p_w X w wd (nI n) tt ft ks ls ss) [.ref (pw_a X 4 0), .int (nI a), .int lo, .int hi] (fun r w1 => w1 = (p_w X w wd (nI n) tt ft ks ls ss) ∧ yn r (a < n ∧ lo ≤ wd a ∧ wd a ≤ hi)) := by
  refine pw_open (by decide) hI [some (.ref (pw_a X 4 0)), some (.int (nI a)), some (.int lo), some (.int hi)] rfl (Nat.le_of_ble_eq_true rfl) ?_
  intro zp ze zs zm za zb zt zc hargs C hr hlk hnm
  refine pw_iload_n C d_PA_isWithin_0 rfl ?_
  refine pw_if_lt C 36 d_PA_isWithin_1 (by decide) (fun h1 => ?_) (fun h1 => ?_)
  · exact absurd h1 (nI_pos ha)
  refine pw_iload_n C d_PA_isWithin_4 rfl ?_
  refine pw_aload_n C d_PA_isWithin_5 rfl ?_
  refine pw_get C d_PA_isWithin_6 (hX 4 0 rfl) rfl 4 rfl rfl (by decide) in_PA W_53 rfl ?_
  refine pw_icmp_ge C 36 d_PA_isWithin_9 (by decide) (fun h9 => ?_) (fun h9 => ?_)
  · refine pw_iconst C d_PA_isWithin_36 (v := 0) (by decide) ?_
    refine pw_zret C hr (by first | rfl | decide) hlk d_PA_isWithin_37 ?_
    refine ⟨rfl, yn_0 (fun q => ?_)⟩
    have := (nI_leI (by omega) ha).mp h9
    omega
  · have h9b : a < n := Nat.not_le.mp (fun q => h9 (nI_le q ha))
    refine pw_aload_n C d_PA_isWithin_12 rfl ?_
    refine pw_get C d_PA_isWithin_13 (hX 4 0 rfl) rfl 0 rfl rfl (by decide) in_PA W_43 rfl ?_
    refine pw_iload_n C d_PA_isWithin_16 rfl ?_
    refine pw_ialdK C d_PA_isWithin_17 (hX 5 0 rfl) rfl (by omega) ?_
    refine pw_iload_n C d_PA_isWithin_18 rfl ?_
    refine pw_icmp_lt C 36 d_PA_isWithin_19 (by decide) (fun h19 => ?_) (fun h19 => ?_)
    · refine pw_iconst C d_PA_isWithin_36 (v := 0) (by decide) ?_
      refine pw_zret C hr (by first | rfl | decide) hlk d_PA_isWithin_37 ?_
      exact ⟨rfl, yn_0 (fun q => Int32.not_le.mpr h19 q.2.1)⟩
    · refine pw_aload_n C d_PA_isWithin_22 rfl ?_
      refine pw_get C d_PA_isWithin_23 (hX 4 0 rfl) rfl 0 rfl rfl (by decide) in_PA W_43 rfl ?_
      refine pw_iload_n C d_PA_isWithin_26 rfl ?_
      refine pw_ialdK C d_PA_isWithin_27 (hX 5 0 rfl) rfl (by omega) ?_
      refine pw_iload_n C d_PA_isWithin_28 rfl ?_
      refine pw_icmp_gt C 36 d_PA_isWithin_29 (by decide) (fun h29 => ?_) (fun h29 => ?_)
      · refine pw_iconst C d_PA_isWithin_36 (v := 0) (by decide) ?_
        refine pw_zret C hr (by first | rfl | decide) hlk d_PA_isWithin_37 ?_
        exact ⟨rfl, yn_0 (fun q => Int32.not_le.mpr h29 q.2.2)⟩
      · refine pw_iconst C d_PA_isWithin_32 (v := 1) (by decide) ?_
        refine pw_goto C 37 d_PA_isWithin_33 (by decide) ?_
        refine pw_zret C hr (by first | rfl | decide) hlk d_PA_isWithin_37 ?_
        exact ⟨rfl, yn_1 ⟨h9b, Int32.not_lt.mp h19, Int32.not_lt.mp h29⟩⟩
set_option maxHeartbeats 4000000 in
set_option maxRecDepth 100000 in
theorem k_PA_isJust (l : Launch) {X : Lay} (hI : pw_I X) (hX : Dm X) (w : Wd) {wd ks ls ss : Nat → Int32} {nn tt ft : Int32} : CtI l y_PA_isJust (pw_ws y_PA_isJust c_PA_isJust 1 (some .boolean)) { frames := 0, cells := 0, slots := 0, locals := 0 } X (p_w X w wd nn tt ft ks ls ss) [.ref (pw_a X 4 0)] (fun r w1 => w1 = p_w X w wd nn tt ft ks ls ss ∧ yn r (ft = 0)) := by
  refine pw_open (by decide) hI [some (.ref (pw_a X 4 0))] rfl (Nat.le_of_ble_eq_true rfl) ?_
  intro zp ze zs zm za zb zt zc hargs C hr hlk hnm
  refine pw_aload_n C d_PA_isJust_0 rfl ?_
  refine pw_get C d_PA_isJust_1 (hX 4 0 rfl) rfl 6 rfl rfl (by decide) in_PA W_57 rfl ?_
  refine pw_if_ne C 11 d_PA_isJust_4 (by decide) (fun h4 => ?_) (fun h4 => ?_)
  · refine pw_iconst C d_PA_isJust_11 (v := 0) (by decide) ?_
    refine pw_zret C hr (by first | rfl | decide) hlk d_PA_isJust_12 ?_
    exact ⟨rfl, yn_0 h4⟩
  · refine pw_iconst C d_PA_isJust_7 (v := 1) (by decide) ?_
    refine pw_goto C 12 d_PA_isJust_8 (by decide) ?_
    refine pw_zret C hr (by first | rfl | decide) hlk d_PA_isJust_12 ?_
    exact ⟨rfl, yn_1 h4⟩
set_option maxHeartbeats 4000000 in
set_option maxRecDepth 100000 in
theorem k_PA_readLabels (l : Launch) {X : Lay} (hI : pw_I X) (hX : Dm X) (w : Wd) {wd ks ls ss : Nat → Int32} {n : Nat} {tt ft : Int32} (hn : n ≤ 60) {a t : Nat} (ha : a < 2 ^ 31) (ht : t < 40) : CtI l y_PA_readLabels (pw_ws y_PA_readLabels c_PA_readLabels 5 (some .int)) { frames := 1, cells := 0, slots := 0, locals := 23 } X (p_w X w wd (nI n) tt ft ks ls ss) [.ref (pw_a X 4 0), .int (nI t), .int (nI a)] (fun r w1 => (a < n ∧ 0 ≤ wd a ∧ wd a ≤ (if ks t = 0 then 7 else 255) ∧ r = nI (a + 1) ∧ w1 = p_w X w wd (nI n) tt ft ks (upd ls t (lb_f (ks t) (wd a))) ss) ∨ (¬ (a < n ∧ 0 ≤ wd a ∧ wd a ≤ (if ks t = 0 then 7 else 255)) ∧ r = -100 - nI a ∧ w1 = (p_w X w wd (nI n) tt ft ks ls ss))) := by
  refine pw_open (by decide) hI [some (.ref (pw_a X 4 0)), some (.int (nI t)), some (.int (nI a)), none, none] rfl (Nat.le_of_ble_eq_true rfl) ?_
  intro zp ze zs zm za zb zt zc hargs C hr hlk hnm
  refine pw_aload_n C d_PA_readLabels_0 rfl ?_
  refine pw_get C d_PA_readLabels_1 (hX 4 0 rfl) rfl 1 rfl rfl (by decide) in_PA W_44 rfl ?_
  refine pw_iload_n C d_PA_readLabels_4 rfl ?_
  refine pw_ialdK C d_PA_readLabels_5 (hX 6 0 rfl) rfl ht ?_
  refine pw_if_ne C 13 d_PA_readLabels_6 (by decide) (fun h6 => ?_) (fun h6 => ?_)
  · refine pw_iconst C d_PA_readLabels_13 (v := 0) (by decide) ?_
    refine pw_istore_n C d_PA_readLabels_14 (by decide) ?_
    refine pw_aload_n C d_PA_readLabels_15 rfl ?_
    refine pw_iload_n C d_PA_readLabels_16 rfl ?_
    refine pw_iconst C d_PA_readLabels_17 (v := 0) (by decide) ?_
    refine pw_iload_n C d_PA_readLabels_18 rfl ?_
    refine pw_if_eq C 27 d_PA_readLabels_19 (by decide) (fun h19 => ?_) (fun h19 => ?_)
    · refine pw_sipush C d_PA_readLabels_27 (v := 255) (by decide) ?_
      refine pw_callVi C (k_PA_isWithin l hI hX w hn ha _ _) (hX 4 0 rfl) rfl rfl ⟨pw_cb C 3 W_199 W_3 W_196 ⟨rfl, rfl⟩ (by decide +kernel) ⟨(Nat.le_of_ble_eq_true rfl), (Nat.le_of_ble_eq_true rfl)⟩, pw_w C W_198, pw_w C V_6⟩ rfl rfl (Nat.le_of_ble_eq_true rfl) d_PA_readLabels_30 ⟨Nat.zero_le _, Nat.zero_le _⟩ (fun r w9 hp => ?_)
      obtain ⟨e9, hp⟩ := hp
      refine MW.world e9 ?_
      refine pw_if_ne C 41 d_PA_readLabels_33 (by decide) (fun h33 => ?_) (fun h33 => ?_)
      · obtain ⟨hy1, hy2, hy3⟩ := yn_t hp h33
        refine pw_aload_n C d_PA_readLabels_41 rfl ?_
        refine pw_get C d_PA_readLabels_42 (hX 4 0 rfl) rfl 0 rfl rfl (by decide) in_PA W_43 rfl ?_
        refine pw_iload_n C d_PA_readLabels_45 rfl ?_
        refine pw_ialdK C d_PA_readLabels_46 (hX 5 0 rfl) rfl (by omega) ?_
        refine pw_istore C d_PA_readLabels_47 (by decide) ?_
        refine pw_aload_n C d_PA_readLabels_49 rfl ?_
        refine pw_get C d_PA_readLabels_50 (hX 4 0 rfl) rfl 2 rfl rfl (by decide) in_PA W_47 rfl ?_
        refine pw_iload_n C d_PA_readLabels_53 rfl ?_
        refine pw_iload_n C d_PA_readLabels_54 rfl ?_
        refine pw_if_eq C 65 d_PA_readLabels_55 (by decide) (fun h55 => ?_) (fun h55 => ?_)
        · refine pw_sipush C d_PA_readLabels_65 (v := 255) (by decide) ?_
          refine pw_iload C d_PA_readLabels_68 rfl ?_
          refine pw_isub C d_PA_readLabels_70 ?_
          refine pw_iastK C d_PA_readLabels_71 (hX 7 0 rfl) rfl ht ?_
          refine MW.world p_u7 ?_
          refine pw_iload_n C d_PA_readLabels_72 rfl ?_
          refine pw_iconst C d_PA_readLabels_73 (v := 1) (by decide) ?_
          refine pw_iadd C d_PA_readLabels_74 ?_
          refine pw_iret C hr hlk d_PA_readLabels_75 ?_
          refine Or.inl ⟨hy1, hy2, by rw [if_neg h6]; exact hy3, nI_1 a, ?_⟩
          show p_w X w wd (nI n) tt ft ks (upd ls t _) ss = p_w X w wd (nI n) tt ft ks (upd ls t (lb_f (ks t) (wd a))) ss
          rw [show lb_f (ks t) (wd a) = 255 - wd a from if_neg h6]
        · exact absurd rfl h55
      · refine pw_iload_n C d_PA_readLabels_36 rfl ?_
        refine pw_callSi C (k_PA_faultAt l hI _ _) ⟨pw_cb C 1 W_202 W_3 W_200 ⟨rfl, rfl⟩ (by decide +kernel) ⟨(Nat.le_of_ble_eq_true rfl), (Nat.le_of_ble_eq_true rfl)⟩, pw_w C W_201⟩ rfl rfl (Nat.le_of_ble_eq_true rfl) d_PA_readLabels_37 ⟨Nat.zero_le _, Nat.zero_le _⟩ (fun r2 w9 hp2 => ?_)
        obtain ⟨e9, hp2⟩ := hp2
        refine MW.world e9 ?_
        refine pw_iret C hr hlk d_PA_readLabels_40 ?_
        refine Or.inr ⟨fun q => yn_f hp h33 ⟨q.1, q.2.1, ?_⟩, hp2, rfl⟩
        have q3 := q.2.2
        rw [if_neg h6] at q3
        exact q3
    · exact absurd rfl h19
  · refine pw_iconst C d_PA_readLabels_9 (v := 1) (by decide) ?_
    refine pw_goto C 14 d_PA_readLabels_10 (by decide) ?_
    refine pw_istore_n C d_PA_readLabels_14 (by decide) ?_
    refine pw_aload_n C d_PA_readLabels_15 rfl ?_
    refine pw_iload_n C d_PA_readLabels_16 rfl ?_
    refine pw_iconst C d_PA_readLabels_17 (v := 0) (by decide) ?_
    refine pw_iload_n C d_PA_readLabels_18 rfl ?_
    refine pw_if_eq C 27 d_PA_readLabels_19 (by decide) (fun h19 => ?_) (fun h19 => ?_)
    · exact absurd h19 (by decide)
    refine pw_bipush C d_PA_readLabels_22 (v := 7) (by decide) ?_
    refine pw_goto C 30 d_PA_readLabels_24 (by decide) ?_
    refine pw_callVi C (k_PA_isWithin l hI hX w hn ha _ _) (hX 4 0 rfl) rfl rfl ⟨pw_cb C 3 W_199 W_3 W_196 ⟨rfl, rfl⟩ (by decide +kernel) ⟨(Nat.le_of_ble_eq_true rfl), (Nat.le_of_ble_eq_true rfl)⟩, pw_w C W_198, pw_w C V_6⟩ rfl rfl (Nat.le_of_ble_eq_true rfl) d_PA_readLabels_30 ⟨Nat.zero_le _, Nat.zero_le _⟩ (fun r w9 hp => ?_)
    obtain ⟨e9, hp⟩ := hp
    refine MW.world e9 ?_
    refine pw_if_ne C 41 d_PA_readLabels_33 (by decide) (fun h33 => ?_) (fun h33 => ?_)
    · obtain ⟨hy1, hy2, hy3⟩ := yn_t hp h33
      refine pw_aload_n C d_PA_readLabels_41 rfl ?_
      refine pw_get C d_PA_readLabels_42 (hX 4 0 rfl) rfl 0 rfl rfl (by decide) in_PA W_43 rfl ?_
      refine pw_iload_n C d_PA_readLabels_45 rfl ?_
      refine pw_ialdK C d_PA_readLabels_46 (hX 5 0 rfl) rfl (by omega) ?_
      refine pw_istore C d_PA_readLabels_47 (by decide) ?_
      refine pw_aload_n C d_PA_readLabels_49 rfl ?_
      refine pw_get C d_PA_readLabels_50 (hX 4 0 rfl) rfl 2 rfl rfl (by decide) in_PA W_47 rfl ?_
      refine pw_iload_n C d_PA_readLabels_53 rfl ?_
      refine pw_iload_n C d_PA_readLabels_54 rfl ?_
      refine pw_if_eq C 65 d_PA_readLabels_55 (by decide) (fun h55 => ?_) (fun h55 => ?_)
      · exact absurd h55 (by decide)
      refine pw_iconst C d_PA_readLabels_58 (v := 1) (by decide) ?_
      refine pw_iload C d_PA_readLabels_59 rfl ?_
      refine pw_ishl C d_PA_readLabels_61 ?_
      refine pw_goto C 71 d_PA_readLabels_62 (by decide) ?_
      refine pw_iastK C d_PA_readLabels_71 (hX 7 0 rfl) rfl ht ?_
      refine MW.world p_u7 ?_
      refine pw_iload_n C d_PA_readLabels_72 rfl ?_
      refine pw_iconst C d_PA_readLabels_73 (v := 1) (by decide) ?_
      refine pw_iadd C d_PA_readLabels_74 ?_
      refine pw_iret C hr hlk d_PA_readLabels_75 ?_
      refine Or.inl ⟨hy1, hy2, by rw [if_pos h6]; exact hy3, nI_1 a, ?_⟩
      show p_w X w wd (nI n) tt ft ks (upd ls t _) ss = p_w X w wd (nI n) tt ft ks (upd ls t (lb_f (ks t) (wd a))) ss
      rw [show lb_f (ks t) (wd a) = (1 : Int32) <<< (wd a &&& 31) from if_pos h6]
    · refine pw_iload_n C d_PA_readLabels_36 rfl ?_
      refine pw_callSi C (k_PA_faultAt l hI _ _) ⟨pw_cb C 1 W_202 W_3 W_200 ⟨rfl, rfl⟩ (by decide +kernel) ⟨(Nat.le_of_ble_eq_true rfl), (Nat.le_of_ble_eq_true rfl)⟩, pw_w C W_201⟩ rfl rfl (Nat.le_of_ble_eq_true rfl) d_PA_readLabels_37 ⟨Nat.zero_le _, Nat.zero_le _⟩ (fun r2 w9 hp2 => ?_)
      obtain ⟨e9, hp2⟩ := hp2
      refine MW.world e9 ?_
      refine pw_iret C hr hlk d_PA_readLabels_40 ?_
      refine Or.inr ⟨fun q => yn_f hp h33 ⟨q.1, q.2.1, ?_⟩, hp2, rfl⟩
      have q3 := q.2.2
      rw [if_pos h6] at q3
      exact q3
/-- what the reading of a part answers, and leaves -/
def rp_post (X : Lay) (w : Wd) (wd : Nat → Int32) (n : Nat) (ft : Int32) (ks ls ss : Nat → Int32) (d a t : Nat) (r : Int32) (w1 : Wd) : Prop :=
  ∃ (ok : Bool) (b t1 : Nat) (ks1 ls1 ss1 : Nat → Int32), rd_f wd n d a t = (ok, b, t1) ∧ w1 = p_w X w wd (nI n) (nI t1) ft ks1 ls1 ss1 ∧ (∀ p, p < t → ks1 p = ks p ∧ ls1 p = ls p ∧ ss1 p = ss p) ∧ (ok = true → r = nI b ∧ tb_f wd ks1 ls1 ss1 d a t b t1) ∧ (ok = false → r = -100 - nI b)
set_option maxHeartbeats 4000000 in
set_option maxRecDepth 100000 in
theorem k_PA_readPart (l : Launch) {X : Lay} (hI : pw_I X) (hX : Dm X) (w : Wd) (wd : Nat → Int32) {n : Nat} (ft : Int32) (hn : n ≤ 60) : ∀ (d : Nat), d ≤ 12 → ∀ (ks ls ss : Nat → Int32) (a t : Nat), a ≤ n → t ≤ 40 → CtI l y_PA_readPart (pw_ws y_PA_readPart c_PA_readPart 6 (some .int)) { frames := d + 2, cells := 0, slots := 0, locals := 25 * d + 47 } X (p_w X w wd (nI n) (nI t) ft ks ls ss) [.ref (pw_a X 4 0), .int (nI a), .int (nI (13 - d))] (rp_post X w wd n ft ks ls ss d a t) := by
  intro d
  induction d with
  | zero =>
    intro hd12 ks ls ss a t ha ht
    refine pw_open (by decide) hI [some (.ref (pw_a X 4 0)), some (.int (nI a)), some (.int (nI 13)), none, none, none] rfl (Nat.le_of_ble_eq_true rfl) ?_
    intro zp ze zs zm za zb zt zc hargs C hr hlk hnm
    refine pw_iload_n C d_PA_readPart_0 rfl ?_
    refine pw_bipush C d_PA_readPart_1 (v := 12) (by decide) ?_
    refine pw_icmp_gt C 26 d_PA_readPart_3 (by decide) (fun h3 => ?_) (fun h3 => ?_)
    · refine pw_iload_n C d_PA_readPart_26 rfl ?_
      refine pw_callSi C (k_PA_faultAt l hI _ _) ⟨pw_cb C 1 W_202 W_3 W_200 ⟨rfl, rfl⟩ (by decide +kernel) ⟨by show 0 + 1 ≤ 0 + 2; omega, by show 8 + (1 + 11) + 0 ≤ 25 * 0 + 47; omega⟩, pw_w C W_201⟩ rfl rfl (Nat.le_of_ble_eq_true rfl) d_PA_readPart_27 ⟨Nat.zero_le _, Nat.zero_le _⟩ (fun r w9 hp => ?_)
      obtain ⟨e9, hp⟩ := hp
      refine MW.world e9 ?_
      refine pw_iret C hr hlk d_PA_readPart_30 ?_
      exact ⟨false, a, t, ks, ls, ss, rfl, rfl, fun p _ => ⟨rfl, rfl, rfl⟩, fun q => (by cases q), fun _ => hp⟩
    · exact absurd (show (12 : Int32) < nI 13 by decide) h3
  | succ d ih =>
    intro hd12 ks ls ss a t ha ht
    have ih := ih (by omega)
    refine pw_open (by decide) hI [some (.ref (pw_a X 4 0)), some (.int (nI a)), some (.int (nI (13 - (d + 1)))), none, none, none] rfl (Nat.le_of_ble_eq_true rfl) ?_
    intro zp ze zs zm za zb zt zc hargs C hr hlk hnm
    refine pw_iload_n C d_PA_readPart_0 rfl ?_
    refine pw_bipush C d_PA_readPart_1 (v := 12) (by decide) ?_
    refine pw_icmp_gt C 26 d_PA_readPart_3 (by decide) (fun h3 => ?_) (fun h3 => ?_)
    · exact absurd ((nI_ltI (a := 12) (by decide) (by omega)).mp h3) (by omega)
    refine pw_aload_n C d_PA_readPart_6 rfl ?_
    refine pw_get C d_PA_readPart_7 (hX 4 0 rfl) rfl 5 rfl rfl (by decide) in_PA W_56 rfl ?_
    refine pw_bipush C d_PA_readPart_10 (v := 40) (by decide) ?_
    refine pw_icmp_ge C 26 d_PA_readPart_12 (by decide) (fun h12 => ?_) (fun h12 => ?_)
    · refine pw_iload_n C d_PA_readPart_26 rfl ?_
      refine pw_callSi C (k_PA_faultAt l hI _ _) ⟨pw_cb C 1 W_202 W_3 W_200 ⟨rfl, rfl⟩ (by decide +kernel) ⟨by show 0 + 1 ≤ d + 1 + 2; omega, by show 8 + (1 + 11) + 0 ≤ 25 * (d + 1) + 47; omega⟩, pw_w C W_201⟩ rfl rfl (Nat.le_of_ble_eq_true rfl) d_PA_readPart_27 ⟨Nat.zero_le _, Nat.zero_le _⟩ (fun r2 w9 hp2 => ?_)
      obtain ⟨e9, hp2⟩ := hp2
      refine MW.world e9 ?_
      refine pw_iret C hr hlk d_PA_readPart_30 ?_
      refine ⟨false, a, t, ks, ls, ss, rd_no (fun q => ?_), rfl, fun p _ => ⟨rfl, rfl, rfl⟩, fun q => (by cases q), fun _ => hp2⟩
      have := (nI_leI (a := 40) (by decide) (by omega)).mp h12
      omega
    · have ht40 : t < 40 := Nat.not_le.mp (fun q => h12 (nI_le q (by omega)))
      refine pw_aload_n C d_PA_readPart_15 rfl ?_
      refine pw_iload_n C d_PA_readPart_16 rfl ?_
      refine pw_iconst C d_PA_readPart_17 (v := 0) (by decide) ?_
      refine pw_bipush C d_PA_readPart_18 (v := 7) (by decide) ?_
      refine pw_callVi C (k_PA_isWithin l hI hX w hn (by omega) _ _) (hX 4 0 rfl) rfl rfl ⟨pw_cb C 3 W_199 W_3 W_196 ⟨rfl, rfl⟩ (by decide +kernel) ⟨by show 0 + 1 ≤ d + 1 + 2; omega, by show 8 + (4 + 11) + 0 ≤ 25 * (d + 1) + 47; omega⟩, pw_w C W_198, pw_w C V_6⟩ rfl rfl (Nat.le_of_ble_eq_true rfl) d_PA_readPart_20 ⟨Nat.zero_le _, Nat.zero_le _⟩ (fun r1 w9 hp1 => ?_)
      obtain ⟨e9, hp1⟩ := hp1
      refine MW.world e9 ?_
      refine pw_if_ne C 31 d_PA_readPart_23 (by decide) (fun h23 => ?_) (fun h23 => ?_)
      · obtain ⟨hy1, hy2, hy3⟩ := yn_t hp1 h23
        have hok : t < 40 ∧ a < n ∧ 0 ≤ wd a ∧ wd a ≤ 7 := ⟨ht40, hy1, hy2, hy3⟩
        refine pw_aload_n C d_PA_readPart_31 rfl ?_
        refine pw_get C d_PA_readPart_32 (hX 4 0 rfl) rfl 5 rfl rfl (by decide) in_PA W_56 rfl ?_
        refine pw_istore_n C d_PA_readPart_35 (by decide) ?_
        refine pw_aload_n C d_PA_readPart_36 rfl ?_
        refine pw_get C d_PA_readPart_37 (hX 4 0 rfl) rfl 0 rfl rfl (by decide) in_PA W_43 rfl ?_
        refine pw_iload_n C d_PA_readPart_40 rfl ?_
        refine pw_ialdK C d_PA_readPart_41 (hX 5 0 rfl) rfl (by omega) ?_
        refine pw_istore C d_PA_readPart_42 (by decide) ?_
        refine pw_aload_n C d_PA_readPart_44 rfl ?_
        refine pw_dup C d_PA_readPart_45 rfl ?_
        refine pw_get C d_PA_readPart_46 (hX 4 0 rfl) rfl 5 rfl rfl (by decide) in_PA W_56 rfl ?_
        refine pw_iconst C d_PA_readPart_49 (v := 1) (by decide) ?_
        refine pw_iadd C d_PA_readPart_50 ?_
        refine pw_put C d_PA_readPart_51 (hX 4 0 rfl) rfl 5 (Nat.le_of_ble_eq_true rfl) rfl (by decide) in_PA t_PA tk_PA n_PA W_56 rfl rfl (tk_PA 5 (by decide)) rfl rfl ?_
        refine MW.world p_u4 ?_
        rw [nI_1]
        refine pw_aload_n C d_PA_readPart_54 rfl ?_
        refine pw_get C d_PA_readPart_55 (hX 4 0 rfl) rfl 1 rfl rfl (by decide) in_PA W_44 rfl ?_
        refine pw_iload_n C d_PA_readPart_58 rfl ?_
        refine pw_iload C d_PA_readPart_59 rfl ?_
        refine pw_iastK C d_PA_readPart_61 (hX 6 0 rfl) rfl ht40 ?_
        refine MW.world p_u6 ?_
        refine pw_aload_n C d_PA_readPart_62 rfl ?_
        refine pw_get C d_PA_readPart_63 (hX 4 0 rfl) rfl 2 rfl rfl (by decide) in_PA W_47 rfl ?_
        refine pw_iload_n C d_PA_readPart_66 rfl ?_
        refine pw_iconst C d_PA_readPart_67 (v := 0) (by decide) ?_
        refine pw_iastK C d_PA_readPart_68 (hX 7 0 rfl) rfl ht40 ?_
        refine MW.world p_u7 ?_
        refine pw_aload_n C d_PA_readPart_69 rfl ?_
        refine pw_get C d_PA_readPart_70 (hX 4 0 rfl) rfl 3 rfl rfl (by decide) in_PA W_50 rfl ?_
        refine pw_iload_n C d_PA_readPart_73 rfl ?_
        refine pw_iload_n C d_PA_readPart_74 rfl ?_
        refine pw_iastK C d_PA_readPart_75 (hX 8 0 rfl) rfl ht40 ?_
        refine MW.world p_u8 ?_
        refine pw_iload C d_PA_readPart_76 rfl ?_
        refine pw_if_eq C 88 d_PA_readPart_78 (by decide) (fun h78 => ?_) (fun h78 => ?_)
        · refine pw_aload_n C d_PA_readPart_88 rfl ?_
          refine pw_iload_n C d_PA_readPart_89 rfl ?_
          refine pw_iload_n C d_PA_readPart_90 rfl ?_
          refine pw_iconst C d_PA_readPart_91 (v := 1) (by decide) ?_
          refine pw_iadd C d_PA_readPart_92 ?_
          rw [nI_1]
          refine pw_callVi C (k_PA_readLabels l hI hX w hn (a := a + 1) (by omega) ht40) (hX 4 0 rfl) rfl rfl ⟨pw_cb C 2 W_206 W_3 W_203 ⟨rfl, rfl⟩ (by decide +kernel) ⟨by show 1 + 1 ≤ d + 1 + 2; omega, by show 8 + (5 + 11) + 23 ≤ 25 * (d + 1) + 47; omega⟩, pw_w C W_205, pw_w C V_7⟩ rfl rfl (Nat.le_of_ble_eq_true rfl) d_PA_readPart_93 ⟨Nat.zero_le _, Nat.zero_le _⟩ (fun r3 w3 hp3 => ?_)
          refine pw_iret C hr hlk d_PA_readPart_96 ?_
          have hleaf : wd a = 0 ∨ wd a = 7 := Or.inl h78
          have hke : upd ks t (wd a) t = wd a := pk_us
          rw [hke] at hp3
          rcases hp3 with ⟨g1, g2, g3, rfl, rfl⟩ | ⟨g1, rfl, rfl⟩
          · refine ⟨true, a + 2, t + 1, _, _, _, by rw [rd_leaf hok hleaf, if_pos ⟨g1, g2, g3⟩], rfl, fun p hp => ?_, fun _ => ⟨rfl, hke, fun _ => ⟨rfl, rfl, pk_us⟩, fun q => absurd hleaf q, fun q => absurd hleaf q⟩, fun q => (by cases q)⟩
            have hne : p ≠ t := by omega
            exact ⟨pk_un hne, by rw [pk_un hne, pk_un hne], pk_un hne⟩
          · refine ⟨false, a + 1, t + 1, _, _, _, by rw [rd_leaf hok hleaf, if_neg g1], rfl, fun p hp => ?_, fun q => (by cases q), fun _ => rfl⟩
            have hne : p ≠ t := by omega
            exact ⟨pk_un hne, pk_un hne, pk_un hne⟩
        · refine pw_iload C d_PA_readPart_81 rfl ?_
          refine pw_bipush C d_PA_readPart_83 (v := 7) (by decide) ?_
          refine pw_icmp_ne C 97 d_PA_readPart_85 (by decide) (fun h85 => ?_) (fun h85 => ?_)
          · refine pw_aload_n C d_PA_readPart_97 rfl ?_
            refine pw_iload_n C d_PA_readPart_98 rfl ?_
            refine pw_iconst C d_PA_readPart_99 (v := 1) (by decide) ?_
            refine pw_iadd C d_PA_readPart_100 ?_
            refine pw_iload_n C d_PA_readPart_101 rfl ?_
            refine pw_iconst C d_PA_readPart_102 (v := 1) (by decide) ?_
            refine pw_iadd C d_PA_readPart_103 ?_
            rw [nI_1 a, show nI (13 - (d + 1)) + 1 = nI (13 - d) from by rw [nI_1]; congr 1; omega]
            refine pw_callVi C (ih _ _ _ (a + 1) (t + 1) (by omega) (by omega)) (hX 4 0 rfl) rfl rfl ⟨pw_cb C 2 W_195 W_3 W_192 ⟨rfl, rfl⟩ (by decide +kernel) ⟨by show (d + 2) + 1 ≤ d + 1 + 2; omega, by show 8 + (6 + 11) + (25 * d + 47) ≤ 25 * (d + 1) + 47; omega⟩, pw_w C W_194, pw_w C V_5⟩ rfl rfl (Nat.le_of_ble_eq_true rfl) d_PA_readPart_104 ⟨Nat.zero_le _, Nat.zero_le _⟩ (fun r4 w4 hp4 => ?_)
            obtain ⟨ok1, b1, t2, ks1, ls1, ss1, hrd1, rfl, hsame1, hok1, hno1⟩ := hp4
            have hin1 := rd_in wd n d (a + 1) (t + 1) ok1 b1 t2 hrd1 (by omega) (by omega)
            have hleaf : ¬ (wd a = 0 ∨ wd a = 7) := fun q => q.elim h78 h85
            refine pw_istore C d_PA_readPart_107 (by decide) ?_
            refine pw_iload C d_PA_readPart_109 rfl ?_
            refine pw_if_lt C 126 d_PA_readPart_111 (by decide) (fun h111 => ?_) (fun h111 => ?_)
            · refine pw_iload C d_PA_readPart_126 rfl ?_
              refine pw_iret C hr hlk d_PA_readPart_128 ?_
              have hsame : ∀ p, p < t → ks1 p = ks p ∧ ls1 p = ls p ∧ ss1 p = ss p := fun p hp => by
                obtain ⟨e1, e2, e3⟩ := hsame1 p (by omega)
                have hne : p ≠ t := by omega
                exact ⟨by rw [e1, pk_un hne], by rw [e2, pk_un hne], by rw [e3, pk_un hne]⟩
              have hkt : ks1 t = wd a := by rw [(hsame1 t (by omega)).1]; exact pk_us
              cases ok1 with
              | true => rw [(hok1 rfl).1] at h111; exact absurd h111 (nI_pos (by omega))
              | false =>
                exact ⟨false, b1, t2, ks1, ls1, ss1, rd_f1 hok hleaf hrd1, rfl, hsame, fun q => (by cases q), hno1⟩
            · refine pw_iload C d_PA_readPart_114 rfl ?_
              refine pw_iconst C d_PA_readPart_116 (v := 2) (by decide) ?_
              refine pw_icmp_eq C 129 d_PA_readPart_117 (by decide) (fun h117 => ?_) (fun h117 => ?_)
              · have hokT : ok1 = true := by
                  cases ok1 with
                  | false => rw [hno1 rfl] at h111; exact absurd (fc_neg b1 (by omega)) h111
                  | true => rfl
                subst hokT
                obtain ⟨hb1e, htb1⟩ := hok1 rfl
                subst hb1e
                refine pw_aload_n C d_PA_readPart_129 rfl ?_
                refine pw_get C d_PA_readPart_130 (hX 4 0 rfl) rfl 3 rfl rfl (by decide) in_PA W_50 rfl ?_
                refine pw_iload_n C d_PA_readPart_133 rfl ?_
                refine pw_aload_n C d_PA_readPart_134 rfl ?_
                refine pw_get C d_PA_readPart_135 (hX 4 0 rfl) rfl 5 rfl rfl (by decide) in_PA W_56 rfl ?_
                refine pw_iastK C d_PA_readPart_138 (hX 8 0 rfl) rfl ht40 ?_
                refine MW.world p_u8 ?_
                refine pw_aload_n C d_PA_readPart_139 rfl ?_
                refine pw_iload C d_PA_readPart_140 rfl ?_
                refine pw_iload_n C d_PA_readPart_142 rfl ?_
                refine pw_iconst C d_PA_readPart_143 (v := 1) (by decide) ?_
                refine pw_iadd C d_PA_readPart_144 ?_
                rw [show nI (13 - (d + 1)) + 1 = nI (13 - d) from by rw [nI_1]; congr 1; omega]
                refine pw_callVi C (ih _ _ _ b1 t2 (by omega) (by omega)) (hX 4 0 rfl) rfl rfl ⟨pw_cb C 2 W_195 W_3 W_192 ⟨rfl, rfl⟩ (by decide +kernel) ⟨by show (d + 2) + 1 ≤ d + 1 + 2; omega, by show 8 + (6 + 11) + (25 * d + 47) ≤ 25 * (d + 1) + 47; omega⟩, pw_w C W_194, pw_w C V_5⟩ rfl rfl (Nat.le_of_ble_eq_true rfl) d_PA_readPart_145 ⟨Nat.zero_le _, Nat.zero_le _⟩ (fun r5 w5 hp5 => ?_)
                refine pw_iret C hr hlk d_PA_readPart_148 ?_
                have hsame : ∀ p, p < t → ks1 p = ks p ∧ ls1 p = ls p ∧ ss1 p = ss p := fun p hp => by
                  obtain ⟨e1, e2, e3⟩ := hsame1 p (by omega)
                  have hne : p ≠ t := by omega
                  exact ⟨by rw [e1, pk_un hne], by rw [e2, pk_un hne], by rw [e3, pk_un hne]⟩
                have hkt : ks1 t = wd a := by rw [(hsame1 t (by omega)).1]; exact pk_us
                have hbi : wd a = 2 ∨ wd a = 3 := Or.inl h117
                obtain ⟨ok2, b2, t3, ks2, ls2, ss2, hrd2, rfl, hsame2, hok2, hno2⟩ := hp5
                have hin2 := rd_in wd n d b1 t2 ok2 b2 t3 hrd2 (by omega) (by omega)
                have e2 : ∀ p, p < t2 → p ≠ t → ks2 p = ks1 p ∧ ls2 p = ls1 p ∧ ss2 p = ss1 p := fun p hp hne => by
                  obtain ⟨f1, f2, f3⟩ := hsame2 p hp
                  exact ⟨f1, f2, by rw [f3, pk_un hne]⟩
                have et := hsame2 t (by omega)
                refine ⟨ok2, b2, t3, ks2, ls2, ss2, by rw [rd_b hok hleaf hrd1 hbi]; exact hrd2, rfl, fun p hp => ?_, fun q => ⟨(hok2 q).1, et.1.trans hkt, fun q => absurd q hleaf, fun _ _ => ⟨b1, t2, ?_, by rw [et.2.2]; exact pk_us, (hok2 q).2⟩, fun _ q => absurd hbi q⟩, hno2⟩
                · obtain ⟨f1, f2, f3⟩ := e2 p (by omega) (by omega)
                  obtain ⟨k1, k2, k3⟩ := hsame p hp
                  exact ⟨f1.trans k1, f2.trans k2, f3.trans k3⟩
                · exact tb_congr wd ks1 ls1 ss1 ks2 ls2 ss2 d _ _ _ _ htb1 (fun p hp1 hp2 => e2 p hp2 (by omega))
              · refine pw_iload C d_PA_readPart_120 rfl ?_
                refine pw_iconst C d_PA_readPart_122 (v := 3) (by decide) ?_
                refine pw_icmp_eq C 129 d_PA_readPart_123 (by decide) (fun h123 => ?_) (fun h123 => ?_)
                · have hokT : ok1 = true := by
                    cases ok1 with
                    | false => rw [hno1 rfl] at h111; exact absurd (fc_neg b1 (by omega)) h111
                    | true => rfl
                  subst hokT
                  obtain ⟨hb1e, htb1⟩ := hok1 rfl
                  subst hb1e
                  refine pw_aload_n C d_PA_readPart_129 rfl ?_
                  refine pw_get C d_PA_readPart_130 (hX 4 0 rfl) rfl 3 rfl rfl (by decide) in_PA W_50 rfl ?_
                  refine pw_iload_n C d_PA_readPart_133 rfl ?_
                  refine pw_aload_n C d_PA_readPart_134 rfl ?_
                  refine pw_get C d_PA_readPart_135 (hX 4 0 rfl) rfl 5 rfl rfl (by decide) in_PA W_56 rfl ?_
                  refine pw_iastK C d_PA_readPart_138 (hX 8 0 rfl) rfl ht40 ?_
                  refine MW.world p_u8 ?_
                  refine pw_aload_n C d_PA_readPart_139 rfl ?_
                  refine pw_iload C d_PA_readPart_140 rfl ?_
                  refine pw_iload_n C d_PA_readPart_142 rfl ?_
                  refine pw_iconst C d_PA_readPart_143 (v := 1) (by decide) ?_
                  refine pw_iadd C d_PA_readPart_144 ?_
                  rw [show nI (13 - (d + 1)) + 1 = nI (13 - d) from by rw [nI_1]; congr 1; omega]
                  refine pw_callVi C (ih _ _ _ b1 t2 (by omega) (by omega)) (hX 4 0 rfl) rfl rfl ⟨pw_cb C 2 W_195 W_3 W_192 ⟨rfl, rfl⟩ (by decide +kernel) ⟨by show (d + 2) + 1 ≤ d + 1 + 2; omega, by show 8 + (6 + 11) + (25 * d + 47) ≤ 25 * (d + 1) + 47; omega⟩, pw_w C W_194, pw_w C V_5⟩ rfl rfl (Nat.le_of_ble_eq_true rfl) d_PA_readPart_145 ⟨Nat.zero_le _, Nat.zero_le _⟩ (fun r5 w5 hp5 => ?_)
                  refine pw_iret C hr hlk d_PA_readPart_148 ?_
                  have hsame : ∀ p, p < t → ks1 p = ks p ∧ ls1 p = ls p ∧ ss1 p = ss p := fun p hp => by
                    obtain ⟨e1, e2, e3⟩ := hsame1 p (by omega)
                    have hne : p ≠ t := by omega
                    exact ⟨by rw [e1, pk_un hne], by rw [e2, pk_un hne], by rw [e3, pk_un hne]⟩
                  have hkt : ks1 t = wd a := by rw [(hsame1 t (by omega)).1]; exact pk_us
                  have hbi : wd a = 2 ∨ wd a = 3 := Or.inr h123
                  obtain ⟨ok2, b2, t3, ks2, ls2, ss2, hrd2, rfl, hsame2, hok2, hno2⟩ := hp5
                  have hin2 := rd_in wd n d b1 t2 ok2 b2 t3 hrd2 (by omega) (by omega)
                  have e2 : ∀ p, p < t2 → p ≠ t → ks2 p = ks1 p ∧ ls2 p = ls1 p ∧ ss2 p = ss1 p := fun p hp hne => by
                    obtain ⟨f1, f2, f3⟩ := hsame2 p hp
                    exact ⟨f1, f2, by rw [f3, pk_un hne]⟩
                  have et := hsame2 t (by omega)
                  refine ⟨ok2, b2, t3, ks2, ls2, ss2, by rw [rd_b hok hleaf hrd1 hbi]; exact hrd2, rfl, fun p hp => ?_, fun q => ⟨(hok2 q).1, et.1.trans hkt, fun q => absurd q hleaf, fun _ _ => ⟨b1, t2, ?_, by rw [et.2.2]; exact pk_us, (hok2 q).2⟩, fun _ q => absurd hbi q⟩, hno2⟩
                  · obtain ⟨f1, f2, f3⟩ := e2 p (by omega) (by omega)
                    obtain ⟨k1, k2, k3⟩ := hsame p hp
                    exact ⟨f1.trans k1, f2.trans k2, f3.trans k3⟩
                  · exact tb_congr wd ks1 ls1 ss1 ks2 ls2 ss2 d _ _ _ _ htb1 (fun p hp1 hp2 => e2 p hp2 (by omega))
                · refine pw_iload C d_PA_readPart_126 rfl ?_
                  refine pw_iret C hr hlk d_PA_readPart_128 ?_
                  have hsame : ∀ p, p < t → ks1 p = ks p ∧ ls1 p = ls p ∧ ss1 p = ss p := fun p hp => by
                    obtain ⟨e1, e2, e3⟩ := hsame1 p (by omega)
                    have hne : p ≠ t := by omega
                    exact ⟨by rw [e1, pk_un hne], by rw [e2, pk_un hne], by rw [e3, pk_un hne]⟩
                  have hkt : ks1 t = wd a := by rw [(hsame1 t (by omega)).1]; exact pk_us
                  cases ok1 with
                  | false => rw [hno1 rfl] at h111; exact absurd (fc_neg b1 (by omega)) h111
                  | true =>
                    have hbi : ¬ (wd a = 2 ∨ wd a = 3) := fun q => q.elim h117 h123
                    exact ⟨true, b1, t2, ks1, ls1, ss1, rd_u hok hleaf hrd1 hbi, rfl, hsame, fun _ => ⟨(hok1 rfl).1, hkt, fun q => absurd q hleaf, fun _ q => absurd q hbi, fun _ _ => ⟨by rw [(hsame1 t (by omega)).2.2]; exact pk_us, (hok1 rfl).2⟩⟩, fun q => (by cases q)⟩
          · refine pw_aload_n C d_PA_readPart_88 rfl ?_
            refine pw_iload_n C d_PA_readPart_89 rfl ?_
            refine pw_iload_n C d_PA_readPart_90 rfl ?_
            refine pw_iconst C d_PA_readPart_91 (v := 1) (by decide) ?_
            refine pw_iadd C d_PA_readPart_92 ?_
            rw [nI_1]
            refine pw_callVi C (k_PA_readLabels l hI hX w hn (a := a + 1) (by omega) ht40) (hX 4 0 rfl) rfl rfl ⟨pw_cb C 2 W_206 W_3 W_203 ⟨rfl, rfl⟩ (by decide +kernel) ⟨by show 1 + 1 ≤ d + 1 + 2; omega, by show 8 + (5 + 11) + 23 ≤ 25 * (d + 1) + 47; omega⟩, pw_w C W_205, pw_w C V_7⟩ rfl rfl (Nat.le_of_ble_eq_true rfl) d_PA_readPart_93 ⟨Nat.zero_le _, Nat.zero_le _⟩ (fun r3 w3 hp3 => ?_)
            refine pw_iret C hr hlk d_PA_readPart_96 ?_
            have hleaf : wd a = 0 ∨ wd a = 7 := Or.inr h85
            have hke : upd ks t (wd a) t = wd a := pk_us
            rw [hke] at hp3
            rcases hp3 with ⟨g1, g2, g3, rfl, rfl⟩ | ⟨g1, rfl, rfl⟩
            · refine ⟨true, a + 2, t + 1, _, _, _, by rw [rd_leaf hok hleaf, if_pos ⟨g1, g2, g3⟩], rfl, fun p hp => ?_, fun _ => ⟨rfl, hke, fun _ => ⟨rfl, rfl, pk_us⟩, fun q => absurd hleaf q, fun q => absurd hleaf q⟩, fun q => (by cases q)⟩
              have hne : p ≠ t := by omega
              exact ⟨pk_un hne, by rw [pk_un hne, pk_un hne], pk_un hne⟩
            · refine ⟨false, a + 1, t + 1, _, _, _, by rw [rd_leaf hok hleaf, if_neg g1], rfl, fun p hp => ?_, fun q => (by cases q), fun _ => rfl⟩
              have hne : p ≠ t := by omega
              exact ⟨pk_un hne, pk_un hne, pk_un hne⟩
      · refine pw_iload_n C d_PA_readPart_26 rfl ?_
        refine pw_callSi C (k_PA_faultAt l hI _ _) ⟨pw_cb C 1 W_202 W_3 W_200 ⟨rfl, rfl⟩ (by decide +kernel) ⟨by show 0 + 1 ≤ d + 1 + 2; omega, by show 8 + (1 + 11) + 0 ≤ 25 * (d + 1) + 47; omega⟩, pw_w C W_201⟩ rfl rfl (Nat.le_of_ble_eq_true rfl) d_PA_readPart_27 ⟨Nat.zero_le _, Nat.zero_le _⟩ (fun r2 w9 hp2 => ?_)
        obtain ⟨e9, hp2⟩ := hp2
        refine MW.world e9 ?_
        refine pw_iret C hr hlk d_PA_readPart_30 ?_
        exact ⟨false, a, t, ks, ls, ss, rd_no (fun q => yn_f hp1 h23 ⟨q.2.1, q.2.2.1, q.2.2.2⟩), rfl, fun p _ => ⟨rfl, rfl, rfl⟩, fun q => (by cases q), fun _ => hp2⟩
