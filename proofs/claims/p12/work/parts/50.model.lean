/-! THE REFERENCE: its cells, its small methods -/
def m_w (X : Lay) (w : Wd) (tE : Nat → Bool) (cnt : Int32) (wd : Nat → Int32) (sz : Int32) (st : Nat → Int32) (pt : Int32) (lk : Nat → Int32) (tb : Nat → Int64) (rk : Int32) (sp : Nat → Int64) : Wd := fun g i => if i = 0 then (if g = 20 then oB 5 [.ref (pw_a X 21 0), .int cnt, .ref (pw_a X 22 0), .int sz, .ref (pw_a X 23 0), .int pt, .ref (pw_a X 24 0), .ref (pw_a X 25 0), .int rk, .ref (pw_a X 26 0)] else if g = 21 then aZ X 32768 (fun m => bi_f (tE m)) else if g = 22 then aI X 60 wd else if g = 23 then aI X 41 st else if g = 24 then aI X 16 lk else if g = 25 then aL X 61440 tb else if g = 26 then aL X 64 sp else w g i) else w g i
theorem m_u20 {X : Lay} {w : Wd} {tE : Nat → Bool} {cnt sz pt rk : Int32} {wd st lk : Nat → Int32} {tb sp : Nat → Int64} {c1 s1 p1 r1 : Int32} : pw_up (m_w X w tE cnt wd sz st pt lk tb rk sp) 20 0 (oB 5 [.ref (pw_a X 21 0), .int c1, .ref (pw_a X 22 0), .int s1, .ref (pw_a X 23 0), .int p1, .ref (pw_a X 24 0), .ref (pw_a X 25 0), .int r1, .ref (pw_a X 26 0)]) = m_w X w tE c1 wd s1 st p1 lk tb r1 sp := by
  funext g i
  by_cases hi : i = 0
  · by_cases hg : g = 20
    · subst hi; subst hg; rfl
    · rw [pw_up_ne _ _ (fun q => hg q.1)]
      simp only [m_w, hi, hg, if_true, if_false]
  · rw [pw_up_ne _ _ (fun q => hi q.2)]
    simp only [m_w, hi, if_false]
theorem m_u21 {X : Lay} {w : Wd} {tE : Nat → Bool} {cnt sz pt rk : Int32} {wd st lk : Nat → Int32} {tb sp : Nat → Int64} {f : Nat → Bool} : pw_up (m_w X w tE cnt wd sz st pt lk tb rk sp) 21 0 (aZ X 32768 (fun m => bi_f (f m))) = m_w X w f cnt wd sz st pt lk tb rk sp := by
  funext g i
  by_cases hi : i = 0
  · by_cases hg : g = 21
    · subst hi; subst hg; rfl
    · rw [pw_up_ne _ _ (fun q => hg q.1)]
      simp only [m_w, hi, hg, if_true, if_false]
  · rw [pw_up_ne _ _ (fun q => hi q.2)]
    simp only [m_w, hi, if_false]
theorem m_u22 {X : Lay} {w : Wd} {tE : Nat → Bool} {cnt sz pt rk : Int32} {wd st lk : Nat → Int32} {tb sp : Nat → Int64} {f : Nat → Int32} : pw_up (m_w X w tE cnt wd sz st pt lk tb rk sp) 22 0 (aI X 60 f) = m_w X w tE cnt f sz st pt lk tb rk sp := by
  funext g i
  by_cases hi : i = 0
  · by_cases hg : g = 22
    · subst hi; subst hg; rfl
    · rw [pw_up_ne _ _ (fun q => hg q.1)]
      simp only [m_w, hi, hg, if_true, if_false]
  · rw [pw_up_ne _ _ (fun q => hi q.2)]
    simp only [m_w, hi, if_false]
theorem m_u23 {X : Lay} {w : Wd} {tE : Nat → Bool} {cnt sz pt rk : Int32} {wd st lk : Nat → Int32} {tb sp : Nat → Int64} {f : Nat → Int32} : pw_up (m_w X w tE cnt wd sz st pt lk tb rk sp) 23 0 (aI X 41 f) = m_w X w tE cnt wd sz f pt lk tb rk sp := by
  funext g i
  by_cases hi : i = 0
  · by_cases hg : g = 23
    · subst hi; subst hg; rfl
    · rw [pw_up_ne _ _ (fun q => hg q.1)]
      simp only [m_w, hi, hg, if_true, if_false]
  · rw [pw_up_ne _ _ (fun q => hi q.2)]
    simp only [m_w, hi, if_false]
theorem m_u24 {X : Lay} {w : Wd} {tE : Nat → Bool} {cnt sz pt rk : Int32} {wd st lk : Nat → Int32} {tb sp : Nat → Int64} {f : Nat → Int32} : pw_up (m_w X w tE cnt wd sz st pt lk tb rk sp) 24 0 (aI X 16 f) = m_w X w tE cnt wd sz st pt f tb rk sp := by
  funext g i
  by_cases hi : i = 0
  · by_cases hg : g = 24
    · subst hi; subst hg; rfl
    · rw [pw_up_ne _ _ (fun q => hg q.1)]
      simp only [m_w, hi, hg, if_true, if_false]
  · rw [pw_up_ne _ _ (fun q => hi q.2)]
    simp only [m_w, hi, if_false]
theorem m_u25 {X : Lay} {w : Wd} {tE : Nat → Bool} {cnt sz pt rk : Int32} {wd st lk : Nat → Int32} {tb sp : Nat → Int64} {f : Nat → Int64} : pw_up (m_w X w tE cnt wd sz st pt lk tb rk sp) 25 0 (aL X 61440 f) = m_w X w tE cnt wd sz st pt lk f rk sp := by
  funext g i
  by_cases hi : i = 0
  · by_cases hg : g = 25
    · subst hi; subst hg; rfl
    · rw [pw_up_ne _ _ (fun q => hg q.1)]
      simp only [m_w, hi, hg, if_true, if_false]
  · rw [pw_up_ne _ _ (fun q => hi q.2)]
    simp only [m_w, hi, if_false]
theorem m_u26 {X : Lay} {w : Wd} {tE : Nat → Bool} {cnt sz pt rk : Int32} {wd st lk : Nat → Int32} {tb sp : Nat → Int64} {f : Nat → Int64} : pw_up (m_w X w tE cnt wd sz st pt lk tb rk sp) 26 0 (aL X 64 f) = m_w X w tE cnt wd sz st pt lk tb rk f := by
  funext g i
  by_cases hi : i = 0
  · by_cases hg : g = 26
    · subst hi; subst hg; rfl
    · rw [pw_up_ne _ _ (fun q => hg q.1)]
      simp only [m_w, hi, hg, if_true, if_false]
  · rw [pw_up_ne _ _ (fun q => hi q.2)]
    simp only [m_w, hi, if_false]
theorem m_row {X : Lay} {w : Wd} {tE : Nat → Bool} {cnt sz pt rk : Int32} {wd st lk : Nat → Int32} {tb sp : Nat → Int64} {g : Nat} (h : g < 20 ∨ 26 < g) : m_w X w tE cnt wd sz st pt lk tb rk sp g = w g := by
  funext i
  by_cases hi : i = 0
  · simp only [m_w, hi, if_true, show ¬ g = 20 by omega, show ¬ g = 21 by omega, show ¬ g = 22 by omega, show ¬ g = 23 by omega, show ¬ g = 24 by omega, show ¬ g = 25 by omega, show ¬ g = 26 by omega, if_false]
  · simp only [m_w, hi, if_false]
theorem th_up {tE : Nat → Bool} {k : Nat} {v : Int32} {b : Bool} (h : v = bi_f b) : upd (fun m => bi_f (tE m)) k v = fun m => bi_f (va_up tE k b m) := by
  funext m
  by_cases q : m = k
  · subst q; rw [pk_us, vu_self]; exact h
  · rw [pk_un q, vu_ne q]
theorem bi_0 {b : Bool} : bi_f b = 0 ↔ b = false := by cases b <;> simp [bi_f]
def ix_f (k i j : Nat) : Nat := 4096 * k + 64 * i + j
theorem ix_lt {k i j : Nat} (hk : k < 8) (hi : i < 64) (hj : j < 64) : ix_f k i j < 32768 := by unfold ix_f; omega
theorem ix_inj {k i j k1 i1 j1 : Nat} (hi : i < 64) (hj : j < 64) (hi1 : i1 < 64) (hj1 : j1 < 64) (h : ix_f k i j = ix_f k1 i1 j1) : k = k1 ∧ i = i1 ∧ j = j1 := by
  unfold ix_f at h; omega
set_option maxHeartbeats 4000000 in
set_option maxRecDepth 100000 in
theorem k_MO_isEdge (l : Launch) {X : Lay} (hI : pw_I X) (w : Wd) (a b c : Int32) : CtI l y_MO_isEdge (pw_ws y_MO_isEdge c_MO_isEdge 3 (some .boolean)) { frames := 1, cells := 0, slots := 0, locals := 20 } X w [.int a, .int b, .int c] (fun r w1 => w1 = w ∧ yn r (is_n a 64 ∧ is_n b 8 ∧ is_n c 64)) := by
  refine pw_open (by decide) hI [some (.int a), some (.int b), some (.int c)] rfl (Nat.le_of_ble_eq_true rfl) ?_
  intro zp ze zs zm za zb zt zc hargs C zr zk hnm
  refine pw_iload_n C d_MO_isEdge_0 rfl ?_
  refine pw_callSi C (k_MO_isPoint l hI _ a) ⟨pw_cb C 1 W_384 W_6 W_382 ⟨rfl, rfl⟩ (by decide +kernel) ⟨(Nat.le_of_ble_eq_true rfl), (Nat.le_of_ble_eq_true rfl)⟩, pw_w C W_383⟩ rfl rfl (Nat.le_of_ble_eq_true rfl) d_MO_isEdge_1 ⟨Nat.zero_le _, Nat.zero_le _⟩ (fun r w9 hp1 => ?_)
  obtain ⟨e9, hp1⟩ := hp1
  refine MW.world e9 ?_
  refine pw_if_eq C 28 d_MO_isEdge_4 (by decide) (fun h4 => ?_) (fun h4 => ?_)
  · refine pw_iconst C d_MO_isEdge_28 (v := 0) (by decide) ?_
    refine pw_zret C zr (by first | rfl | decide) zk d_MO_isEdge_29 ?_
    exact ⟨rfl, yn_0 (fun q => yn_f hp1 h4 q.1)⟩
  · refine pw_iload_n C d_MO_isEdge_7 rfl ?_
    refine pw_callSi C (k_MO_isPoint l hI _ c) ⟨pw_cb C 1 W_384 W_6 W_382 ⟨rfl, rfl⟩ (by decide +kernel) ⟨(Nat.le_of_ble_eq_true rfl), (Nat.le_of_ble_eq_true rfl)⟩, pw_w C W_383⟩ rfl rfl (Nat.le_of_ble_eq_true rfl) d_MO_isEdge_8 ⟨Nat.zero_le _, Nat.zero_le _⟩ (fun r w9 hp3 => ?_)
    obtain ⟨e9, hp3⟩ := hp3
    refine MW.world e9 ?_
    refine pw_if_eq C 28 d_MO_isEdge_11 (by decide) (fun h11 => ?_) (fun h11 => ?_)
    · refine pw_iconst C d_MO_isEdge_28 (v := 0) (by decide) ?_
      refine pw_zret C zr (by first | rfl | decide) zk d_MO_isEdge_29 ?_
      exact ⟨rfl, yn_0 (fun q => yn_f hp3 h11 q.2.2)⟩
    · refine pw_iload_n C d_MO_isEdge_14 rfl ?_
      refine pw_if_lt C 28 d_MO_isEdge_15 (by decide) (fun h15 => ?_) (fun h15 => ?_)
      · refine pw_iconst C d_MO_isEdge_28 (v := 0) (by decide) ?_
        refine pw_zret C zr (by first | rfl | decide) zk d_MO_isEdge_29 ?_
        exact ⟨rfl, yn_0 (fun q => is_neg (by decide) h15 q.2.1)⟩
      · refine pw_iload_n C d_MO_isEdge_18 rfl ?_
        refine pw_bipush C d_MO_isEdge_19 (v := 8) (by decide) ?_
        refine pw_icmp_ge C 28 d_MO_isEdge_21 (by decide) (fun h21 => ?_) (fun h21 => ?_)
        · refine pw_iconst C d_MO_isEdge_28 (v := 0) (by decide) ?_
          refine pw_zret C zr (by first | rfl | decide) zk d_MO_isEdge_29 ?_
          exact ⟨rfl, yn_0 (fun q => is_big (by decide) h21 q.2.1)⟩
        · refine pw_iconst C d_MO_isEdge_24 (v := 1) (by decide) ?_
          refine pw_goto C 29 d_MO_isEdge_25 (by decide) ?_
          refine pw_zret C zr (by first | rfl | decide) zk d_MO_isEdge_29 ?_
          exact ⟨rfl, yn_1 ⟨yn_t hp1 h4, is_of (by decide) h15 h21, yn_t hp3 h11⟩⟩
set_option maxHeartbeats 4000000 in
set_option maxRecDepth 100000 in
theorem k_MO_place (l : Launch) {X : Lay} (hI : pw_I X) (w : Wd) (i k j : Nat) : CtI l y_MO_place (pw_ws y_MO_place c_MO_place 3 (some .int)) { frames := 0, cells := 0, slots := 0, locals := 0 } X w [.int (nI i), .int (nI k), .int (nI j)] (fun r w1 => w1 = w ∧ r = nI (ix_f k i j)) := by
  refine pw_open (by decide) hI [some (.int (nI i)), some (.int (nI k)), some (.int (nI j))] rfl (Nat.le_of_ble_eq_true rfl) ?_
  intro zp ze zs zm za zb zt zc hargs C zr zk hnm
  refine pw_sipush C d_MO_place_0 (v := 4096) (by decide) ?_
  refine pw_iload_n C d_MO_place_3 rfl ?_
  refine pw_imul C d_MO_place_4 ?_
  refine pw_bipush C d_MO_place_5 (v := 64) (by decide) ?_
  refine pw_iload_n C d_MO_place_7 rfl ?_
  refine pw_imul C d_MO_place_8 ?_
  refine pw_iadd C d_MO_place_9 ?_
  refine pw_iload_n C d_MO_place_10 rfl ?_
  refine pw_iadd C d_MO_place_11 ?_
  refine pw_iret C zr zk d_MO_place_12 ?_
  refine ⟨rfl, ?_⟩
  rw [show (4096 : Int32) * nI k = nI (4096 * k) from pk_mul 4096 k, show (64 : Int32) * nI i = nI (64 * i) from pk_mul 64 i, nI_add, nI_add]
  rfl
def ch_f (v : Int32) : Nat := if v = 2 ∨ v = 3 then 2 else if v = 0 ∨ v = 7 then 0 else 1
set_option maxHeartbeats 4000000 in
set_option maxRecDepth 100000 in
theorem k_MO_children (l : Launch) {X : Lay} (hI : pw_I X) (w : Wd) (v : Int32) : CtI l y_MO_children (pw_ws y_MO_children c_MO_children 1 (some .int)) { frames := 0, cells := 0, slots := 0, locals := 0 } X w [.int v] (fun r w1 => w1 = w ∧ r = nI (ch_f v)) := by
  refine pw_open (by decide) hI [some (.int v)] rfl (Nat.le_of_ble_eq_true rfl) ?_
  intro zp ze zs zm za zb zt zc hargs C zr zk hnm
  refine pw_iload_n C d_MO_children_0 rfl ?_
  refine pw_iconst C d_MO_children_1 (v := 2) (by decide) ?_
  refine pw_icmp_eq C 10 d_MO_children_2 (by decide) (fun h2 => ?_) (fun h2 => ?_)
  · refine pw_iconst C d_MO_children_10 (v := 2) (by decide) ?_
    refine pw_goto C 29 d_MO_children_11 (by decide) ?_
    refine pw_iret C zr zk d_MO_children_29 ?_
    refine ⟨rfl, ?_⟩
    unfold ch_f; rw [if_pos (Or.inl h2)]; rfl
  · refine pw_iload_n C d_MO_children_5 rfl ?_
    refine pw_iconst C d_MO_children_6 (v := 3) (by decide) ?_
    refine pw_icmp_ne C 14 d_MO_children_7 (by decide) (fun h7 => ?_) (fun h7 => ?_)
    · refine pw_iload_n C d_MO_children_14 rfl ?_
      refine pw_if_eq C 24 d_MO_children_15 (by decide) (fun h15 => ?_) (fun h15 => ?_)
      · refine pw_iconst C d_MO_children_24 (v := 0) (by decide) ?_
        refine pw_goto C 29 d_MO_children_25 (by decide) ?_
        refine pw_iret C zr zk d_MO_children_29 ?_
        refine ⟨rfl, ?_⟩
        unfold ch_f; rw [if_neg (fun q => q.elim h2 h7), if_pos (Or.inl h15)]; rfl
      · refine pw_iload_n C d_MO_children_18 rfl ?_
        refine pw_bipush C d_MO_children_19 (v := 7) (by decide) ?_
        refine pw_icmp_ne C 28 d_MO_children_21 (by decide) (fun h21 => ?_) (fun h21 => ?_)
        · refine pw_iconst C d_MO_children_28 (v := 1) (by decide) ?_
          refine pw_iret C zr zk d_MO_children_29 ?_
          refine ⟨rfl, ?_⟩
          unfold ch_f; rw [if_neg (fun q => q.elim h2 h7), if_neg (fun q => q.elim h15 h21)]; rfl
        · refine pw_iconst C d_MO_children_24 (v := 0) (by decide) ?_
          refine pw_goto C 29 d_MO_children_25 (by decide) ?_
          refine pw_iret C zr zk d_MO_children_29 ?_
          refine ⟨rfl, ?_⟩
          unfold ch_f; rw [if_neg (fun q => q.elim h2 h7), if_pos (Or.inr h21)]; rfl
    · refine pw_iconst C d_MO_children_10 (v := 2) (by decide) ?_
      refine pw_goto C 29 d_MO_children_11 (by decide) ?_
      refine pw_iret C zr zk d_MO_children_29 ?_
      refine ⟨rfl, ?_⟩
      unfold ch_f; rw [if_pos (Or.inr h7)]; rfl
theorem le_15 {a : Nat} (ha : a < 2 ^ 62) : (lg_cmp (lN a) 1000000000000000 ≤ 0 ↔ a ≤ C15) := by
  rw [← Int32.not_lt, show (0 : Int32) < lg_cmp (lN a) 1000000000000000 ↔ (1000000000000000 : Int64) < lN a from ?_]
  · have := pk_lLT (a := 1000000000000000) (b := a) (by decide) (by omega)
    rw [show (1000000000000000 : Int64) = lN 1000000000000000 from rfl, this]
    unfold C15; omega
  · unfold lg_cmp
    split
    · rename_i h; exact ⟨fun _ => h, fun _ => by decide⟩
    · rename_i h
      split
      · exact ⟨fun q => absurd q (by decide), fun q => absurd q h⟩
      · exact ⟨fun q => absurd q (by decide), fun q => absurd q h⟩
set_option maxHeartbeats 4000000 in
set_option maxRecDepth 100000 in
theorem k_MO_least (l : Launch) {X : Lay} (hI : pw_I X) (w : Wd) {a : Nat} (ha : a < 2 ^ 62) : CtL l y_MO_least (pw_ws y_MO_least c_MO_least 2 (some .long)) { frames := 0, cells := 0, slots := 0, locals := 0 } X w [.long (lN a)] (fun r w1 => w1 = w ∧ r = lN (cp_f a)) := by
  refine pw_open (by decide) hI [some (.long (lN a)), none] rfl (Nat.le_of_ble_eq_true rfl) ?_
  intro zp ze zs zm za zb zt zc hargs C zr zk hnm
  refine pw_lload_n C d_MO_least_0 rfl ?_
  refine pw_ldc2_w C d_MO_least_1 (v := 1000000000000000) W_436 ?_
  refine pw_lcmp C d_MO_least_4 ?_
  refine pw_if_le C 14 d_MO_least_5 (by decide) (fun h5 => ?_) (fun h5 => ?_)
  · refine pw_lload_n C d_MO_least_14 rfl ?_
    refine pw_lret C zr zk d_MO_least_15 ?_
    refine ⟨rfl, ?_⟩
    rw [cp_id ((le_15 ha).mp h5)]
  · refine pw_ldc2_w C d_MO_least_8 (v := 1000000000000000) W_436 ?_
    refine pw_goto C 15 d_MO_least_11 (by decide) ?_
    refine pw_lret C zr zk d_MO_least_15 ?_
    refine ⟨rfl, ?_⟩
    have := mt (le_15 ha).mpr h5
    rw [cp_big (by omega)]
    rfl
set_option maxHeartbeats 4000000 in
set_option maxRecDepth 100000 in
theorem k_MO_edge (l : Launch) {X : Lay} (hI : pw_I X) (hX : Dm X) (w : Wd) {tE : Nat → Bool} {cnt sz pt rk : Int32} {wd st lk : Nat → Int32} {tb sp : Nat → Int64} (a b c : Int32) : CtI l y_MO_edge (pw_ws y_MO_edge c_MO_edge 4 (some .int)) { frames := 2, cells := 0, slots := 0, locals := 42 } X (m_w X w tE cnt wd sz st pt lk tb rk sp) [.ref (pw_a X 20 0), .int a, .int b, .int c] (fun r w1 => (¬ (is_n a 64 ∧ is_n b 8 ∧ is_n c 64) ∧ r = -1 ∧ w1 = m_w X w tE cnt wd sz st pt lk tb rk sp) ∨ ∃ i k j : Nat, i < 64 ∧ k < 8 ∧ j < 64 ∧ a = nI i ∧ b = nI k ∧ c = nI j ∧ ((tE (ix_f k i j) = true ∧ r = 0 ∧ w1 = m_w X w tE cnt wd sz st pt lk tb rk sp) ∨ (tE (ix_f k i j) = false ∧ r = 1 ∧ w1 = m_w X w (va_up tE (ix_f k i j) true) (cnt + 1) wd sz st pt lk tb 0 sp))) := by
  refine pw_open (by decide) hI [some (.ref (pw_a X 20 0)), some (.int a), some (.int b), some (.int c)] rfl (Nat.le_of_ble_eq_true rfl) ?_
  intro zp ze zs zm za zb zt zc hargs C zr zk hnm
  refine pw_iload_n C d_MO_edge_0 rfl ?_
  refine pw_iload_n C d_MO_edge_1 rfl ?_
  refine pw_iload_n C d_MO_edge_2 rfl ?_
  refine pw_callSi C (k_MO_isEdge l hI _ a b c) ⟨pw_cb C 3 W_381 W_6 W_379 ⟨rfl, rfl⟩ (by decide +kernel) ⟨(Nat.le_of_ble_eq_true rfl), (Nat.le_of_ble_eq_true rfl)⟩, pw_w C W_380⟩ rfl rfl (Nat.le_of_ble_eq_true rfl) d_MO_edge_3 ⟨Nat.zero_le _, Nat.zero_le _⟩ (fun r w9 hp => ?_)
  obtain ⟨e9, hp⟩ := hp
  refine MW.world e9 ?_
  refine pw_if_ne C 11 d_MO_edge_6 (by decide) (fun h6 => ?_) (fun h6 => ?_)
  · obtain ⟨⟨i, hi, rfl⟩, ⟨k, hk, rfl⟩, ⟨j, hj, rfl⟩⟩ := yn_t hp h6
    have hix := ix_lt hk hi hj
    have hcl : (nI (ix_f k i j)).toNatClampNeg = ix_f k i j := nI_clamp (by omega)
    refine pw_aload_n C d_MO_edge_11 rfl ?_
    refine pw_get C d_MO_edge_12 (hX 20 0 rfl) rfl 0 rfl rfl (by decide) in_MO W_343 rfl ?_
    refine pw_iload_n C d_MO_edge_15 rfl ?_
    refine pw_iload_n C d_MO_edge_16 rfl ?_
    refine pw_iload_n C d_MO_edge_17 rfl ?_
    refine pw_callSi C (k_MO_place l hI _ i k j) ⟨pw_cb C 3 W_387 W_6 W_385 ⟨rfl, rfl⟩ (by decide +kernel) ⟨(Nat.le_of_ble_eq_true rfl), (Nat.le_of_ble_eq_true rfl)⟩, pw_w C W_386⟩ rfl rfl (Nat.le_of_ble_eq_true rfl) d_MO_edge_18 ⟨Nat.zero_le _, Nat.zero_le _⟩ (fun r2 w9 hp2 => ?_)
    obtain ⟨e9, hp2⟩ := hp2
    subst hp2
    refine MW.world e9 ?_
    refine pw_zald C d_MO_edge_21 (hX 21 0 rfl) rfl (vp_in_nI hix (by decide)) ?_
    rw [hcl]
    refine pw_if_eq C 27 d_MO_edge_22 (by decide) (fun h22 => ?_) (fun h22 => ?_)
    · refine pw_aload_n C d_MO_edge_27 rfl ?_
      refine pw_get C d_MO_edge_28 (hX 20 0 rfl) rfl 0 rfl rfl (by decide) in_MO W_343 rfl ?_
      refine pw_iload_n C d_MO_edge_31 rfl ?_
      refine pw_iload_n C d_MO_edge_32 rfl ?_
      refine pw_iload_n C d_MO_edge_33 rfl ?_
      refine pw_callSi C (k_MO_place l hI _ i k j) ⟨pw_cb C 3 W_387 W_6 W_385 ⟨rfl, rfl⟩ (by decide +kernel) ⟨(Nat.le_of_ble_eq_true rfl), (Nat.le_of_ble_eq_true rfl)⟩, pw_w C W_386⟩ rfl rfl (Nat.le_of_ble_eq_true rfl) d_MO_edge_34 ⟨Nat.zero_le _, Nat.zero_le _⟩ (fun r2 w9 hp2 => ?_)
      obtain ⟨e9, hp2⟩ := hp2
      subst hp2
      refine MW.world e9 ?_
      refine pw_iconst C d_MO_edge_37 (v := 1) (by decide) ?_
      refine pw_zast C d_MO_edge_38 (hX 21 0 rfl) rfl (vp_in_nI hix (by decide)) ?_
      rw [hcl, th_up (b := true) (by decide)]
      refine MW.world m_u21 ?_
      refine pw_aload_n C d_MO_edge_39 rfl ?_
      refine pw_dup C d_MO_edge_40 rfl ?_
      refine pw_get C d_MO_edge_41 (hX 20 0 rfl) rfl 1 rfl rfl (by decide) in_MO W_344 rfl ?_
      refine pw_iconst C d_MO_edge_44 (v := 1) (by decide) ?_
      refine pw_iadd C d_MO_edge_45 ?_
      refine pw_put C d_MO_edge_46 (hX 20 0 rfl) rfl 1 (Nat.le_of_ble_eq_true rfl) rfl (by decide) in_MO t_MO tk_MO n_MO W_344 rfl rfl (tk_MO 1 (by decide)) rfl rfl ?_
      refine MW.world m_u20 ?_
      refine pw_aload_n C d_MO_edge_49 rfl ?_
      refine pw_iconst C d_MO_edge_50 (v := 0) (by decide) ?_
      refine pw_put C d_MO_edge_51 (hX 20 0 rfl) rfl 8 (Nat.le_of_ble_eq_true rfl) rfl (by decide) in_MO t_MO tk_MO n_MO W_351 rfl rfl (tk_MO 8 (by decide)) rfl rfl ?_
      refine MW.world m_u20 ?_
      refine pw_iconst C d_MO_edge_54 (v := 1) (by decide) ?_
      refine pw_iret C zr zk d_MO_edge_55 ?_
      exact Or.inr ⟨i, k, j, hi, hk, hj, rfl, rfl, rfl, Or.inr ⟨bi_0.mp h22, rfl, rfl⟩⟩
    · refine pw_iconst C d_MO_edge_25 (v := 0) (by decide) ?_
      refine pw_iret C zr zk d_MO_edge_26 ?_
      refine Or.inr ⟨i, k, j, hi, hk, hj, rfl, rfl, rfl, Or.inl ⟨?_, rfl, rfl⟩⟩
      cases q : tE (ix_f k i j) with
      | true => rfl
      | false => exact absurd (bi_0.mpr q) h22
  · refine pw_iconst C d_MO_edge_9 (v := -1) (by decide) ?_
    refine pw_iret C zr zk d_MO_edge_10 ?_
    exact Or.inl ⟨yn_f hp h6, rfl, rfl⟩
set_option maxHeartbeats 4000000 in
set_option maxRecDepth 100000 in
theorem k_MO_drop (l : Launch) {X : Lay} (hI : pw_I X) (hX : Dm X) (w : Wd) {tE : Nat → Bool} {cnt sz pt rk : Int32} {wd st lk : Nat → Int32} {tb sp : Nat → Int64} (a b c : Int32) : CtI l y_MO_drop (pw_ws y_MO_drop c_MO_drop 4 (some .int)) { frames := 2, cells := 0, slots := 0, locals := 42 } X (m_w X w tE cnt wd sz st pt lk tb rk sp) [.ref (pw_a X 20 0), .int a, .int b, .int c] (fun r w1 => (¬ (is_n a 64 ∧ is_n b 8 ∧ is_n c 64) ∧ r = -1 ∧ w1 = m_w X w tE cnt wd sz st pt lk tb rk sp) ∨ ∃ i k j : Nat, i < 64 ∧ k < 8 ∧ j < 64 ∧ a = nI i ∧ b = nI k ∧ c = nI j ∧ ((tE (ix_f k i j) = false ∧ r = 0 ∧ w1 = m_w X w tE cnt wd sz st pt lk tb rk sp) ∨ (tE (ix_f k i j) = true ∧ r = 1 ∧ w1 = m_w X w (va_up tE (ix_f k i j) false) (cnt + (-1)) wd sz st pt lk tb 0 sp))) := by
  refine pw_open (by decide) hI [some (.ref (pw_a X 20 0)), some (.int a), some (.int b), some (.int c)] rfl (Nat.le_of_ble_eq_true rfl) ?_
  intro zp ze zs zm za zb zt zc hargs C zr zk hnm
  refine pw_iload_n C d_MO_drop_0 rfl ?_
  refine pw_iload_n C d_MO_drop_1 rfl ?_
  refine pw_iload_n C d_MO_drop_2 rfl ?_
  refine pw_callSi C (k_MO_isEdge l hI _ a b c) ⟨pw_cb C 3 W_381 W_6 W_379 ⟨rfl, rfl⟩ (by decide +kernel) ⟨(Nat.le_of_ble_eq_true rfl), (Nat.le_of_ble_eq_true rfl)⟩, pw_w C W_380⟩ rfl rfl (Nat.le_of_ble_eq_true rfl) d_MO_drop_3 ⟨Nat.zero_le _, Nat.zero_le _⟩ (fun r w9 hp => ?_)
  obtain ⟨e9, hp⟩ := hp
  refine MW.world e9 ?_
  refine pw_if_ne C 11 d_MO_drop_6 (by decide) (fun h6 => ?_) (fun h6 => ?_)
  · obtain ⟨⟨i, hi, rfl⟩, ⟨k, hk, rfl⟩, ⟨j, hj, rfl⟩⟩ := yn_t hp h6
    have hix := ix_lt hk hi hj
    have hcl : (nI (ix_f k i j)).toNatClampNeg = ix_f k i j := nI_clamp (by omega)
    refine pw_aload_n C d_MO_drop_11 rfl ?_
    refine pw_get C d_MO_drop_12 (hX 20 0 rfl) rfl 0 rfl rfl (by decide) in_MO W_343 rfl ?_
    refine pw_iload_n C d_MO_drop_15 rfl ?_
    refine pw_iload_n C d_MO_drop_16 rfl ?_
    refine pw_iload_n C d_MO_drop_17 rfl ?_
    refine pw_callSi C (k_MO_place l hI _ i k j) ⟨pw_cb C 3 W_387 W_6 W_385 ⟨rfl, rfl⟩ (by decide +kernel) ⟨(Nat.le_of_ble_eq_true rfl), (Nat.le_of_ble_eq_true rfl)⟩, pw_w C W_386⟩ rfl rfl (Nat.le_of_ble_eq_true rfl) d_MO_drop_18 ⟨Nat.zero_le _, Nat.zero_le _⟩ (fun r2 w9 hp2 => ?_)
    obtain ⟨e9, hp2⟩ := hp2
    subst hp2
    refine MW.world e9 ?_
    refine pw_zald C d_MO_drop_21 (hX 21 0 rfl) rfl (vp_in_nI hix (by decide)) ?_
    rw [hcl]
    refine pw_if_ne C 27 d_MO_drop_22 (by decide) (fun h22 => ?_) (fun h22 => ?_)
    · refine pw_aload_n C d_MO_drop_27 rfl ?_
      refine pw_get C d_MO_drop_28 (hX 20 0 rfl) rfl 0 rfl rfl (by decide) in_MO W_343 rfl ?_
      refine pw_iload_n C d_MO_drop_31 rfl ?_
      refine pw_iload_n C d_MO_drop_32 rfl ?_
      refine pw_iload_n C d_MO_drop_33 rfl ?_
      refine pw_callSi C (k_MO_place l hI _ i k j) ⟨pw_cb C 3 W_387 W_6 W_385 ⟨rfl, rfl⟩ (by decide +kernel) ⟨(Nat.le_of_ble_eq_true rfl), (Nat.le_of_ble_eq_true rfl)⟩, pw_w C W_386⟩ rfl rfl (Nat.le_of_ble_eq_true rfl) d_MO_drop_34 ⟨Nat.zero_le _, Nat.zero_le _⟩ (fun r2 w9 hp2 => ?_)
      obtain ⟨e9, hp2⟩ := hp2
      subst hp2
      refine MW.world e9 ?_
      refine pw_iconst C d_MO_drop_37 (v := 0) (by decide) ?_
      refine pw_zast C d_MO_drop_38 (hX 21 0 rfl) rfl (vp_in_nI hix (by decide)) ?_
      rw [hcl, th_up (b := false) (by decide)]
      refine MW.world m_u21 ?_
      refine pw_aload_n C d_MO_drop_39 rfl ?_
      refine pw_dup C d_MO_drop_40 rfl ?_
      refine pw_get C d_MO_drop_41 (hX 20 0 rfl) rfl 1 rfl rfl (by decide) in_MO W_344 rfl ?_
      refine pw_iconst C d_MO_drop_44 (v := 1) (by decide) ?_
      refine pw_isub C d_MO_drop_45 ?_
      refine pw_put C d_MO_drop_46 (hX 20 0 rfl) rfl 1 (Nat.le_of_ble_eq_true rfl) rfl (by decide) in_MO t_MO tk_MO n_MO W_344 rfl rfl (tk_MO 1 (by decide)) rfl rfl ?_
      refine MW.world m_u20 ?_
      refine pw_aload_n C d_MO_drop_49 rfl ?_
      refine pw_iconst C d_MO_drop_50 (v := 0) (by decide) ?_
      refine pw_put C d_MO_drop_51 (hX 20 0 rfl) rfl 8 (Nat.le_of_ble_eq_true rfl) rfl (by decide) in_MO t_MO tk_MO n_MO W_351 rfl rfl (tk_MO 8 (by decide)) rfl rfl ?_
      refine MW.world m_u20 ?_
      refine pw_iconst C d_MO_drop_54 (v := 1) (by decide) ?_
      refine pw_iret C zr zk d_MO_drop_55 ?_
      refine Or.inr ⟨i, k, j, hi, hk, hj, rfl, rfl, rfl, Or.inr ⟨?_, rfl, ?_⟩⟩
      · cases q : tE (ix_f k i j) with
        | true => rfl
        | false => exact absurd (bi_0.mpr q) h22
      · rw [Int32.sub_eq_add_neg]
    · refine pw_iconst C d_MO_drop_25 (v := 0) (by decide) ?_
      refine pw_iret C zr zk d_MO_drop_26 ?_
      exact Or.inr ⟨i, k, j, hi, hk, hj, rfl, rfl, rfl, Or.inl ⟨bi_0.mp h22, rfl, rfl⟩⟩
  · refine pw_iconst C d_MO_drop_9 (v := -1) (by decide) ?_
    refine pw_iret C zr zk d_MO_drop_10 ?_
    exact Or.inl ⟨yn_f hp h6, rfl, rfl⟩
set_option maxHeartbeats 4000000 in
set_option maxRecDepth 100000 in
theorem k_MO_edges (l : Launch) {X : Lay} (hI : pw_I X) (hX : Dm X) (w : Wd) {tE : Nat → Bool} {cnt sz pt rk : Int32} {wd st lk : Nat → Int32} {tb sp : Nat → Int64} : CtI l y_MO_edges (pw_ws y_MO_edges c_MO_edges 1 (some .int)) { frames := 0, cells := 0, slots := 0, locals := 0 } X (m_w X w tE cnt wd sz st pt lk tb rk sp) [.ref (pw_a X 20 0)] (fun r w1 => r = cnt ∧ w1 = m_w X w tE cnt wd sz st pt lk tb rk sp) := by
  refine pw_open (by decide) hI [some (.ref (pw_a X 20 0))] rfl (Nat.le_of_ble_eq_true rfl) ?_
  intro zp ze zs zm za zb zt zc hargs C zr zk hnm
  refine pw_aload_n C d_MO_edges_0 rfl ?_
  refine pw_get C d_MO_edges_1 (hX 20 0 rfl) rfl 1 rfl rfl (by decide) in_MO W_344 rfl ?_
  refine pw_iret C zr zk d_MO_edges_4 ?_
  exact ⟨rfl, rfl⟩
set_option maxHeartbeats 4000000 in
set_option maxRecDepth 100000 in
theorem k_MO_clear (l : Launch) {X : Lay} (hI : pw_I X) (hX : Dm X) (w : Wd) {tE : Nat → Bool} {cnt sz pt rk : Int32} {wd st lk : Nat → Int32} {tb sp : Nat → Int64} : CtI l y_MO_clear (pw_ws y_MO_clear c_MO_clear 2 (some .int)) { frames := 0, cells := 0, slots := 0, locals := 0 } X (m_w X w tE cnt wd sz st pt lk tb rk sp) [.ref (pw_a X 20 0)] (fun r w1 => r = sz ∧ w1 = m_w X w tE cnt wd 0 st pt lk tb 0 sp) := by
  refine pw_open (by decide) hI [some (.ref (pw_a X 20 0)), none] rfl (Nat.le_of_ble_eq_true rfl) ?_
  intro zp ze zs zm za zb zt zc hargs C zr zk hnm
  refine pw_aload_n C d_MO_clear_0 rfl ?_
  refine pw_get C d_MO_clear_1 (hX 20 0 rfl) rfl 3 rfl rfl (by decide) in_MO W_346 rfl ?_
  refine pw_istore_n C d_MO_clear_4 (by decide) ?_
  refine pw_aload_n C d_MO_clear_5 rfl ?_
  refine pw_iconst C d_MO_clear_6 (v := 0) (by decide) ?_
  refine pw_put C d_MO_clear_7 (hX 20 0 rfl) rfl 3 (Nat.le_of_ble_eq_true rfl) rfl (by decide) in_MO t_MO tk_MO n_MO W_346 rfl rfl (tk_MO 3 (by decide)) rfl rfl ?_
  refine MW.world m_u20 ?_
  refine pw_aload_n C d_MO_clear_10 rfl ?_
  refine pw_iconst C d_MO_clear_11 (v := 0) (by decide) ?_
  refine pw_put C d_MO_clear_12 (hX 20 0 rfl) rfl 8 (Nat.le_of_ble_eq_true rfl) rfl (by decide) in_MO t_MO tk_MO n_MO W_351 rfl rfl (tk_MO 8 (by decide)) rfl rfl ?_
  refine MW.world m_u20 ?_
  refine pw_iload_n C d_MO_clear_15 rfl ?_
  refine pw_iret C zr zk d_MO_clear_16 ?_
  exact ⟨rfl, rfl⟩
set_option maxHeartbeats 4000000 in
set_option maxRecDepth 100000 in
theorem k_MO_word (l : Launch) {X : Lay} (hI : pw_I X) (hX : Dm X) (w : Wd) {tE : Nat → Bool} {cnt pt rk : Int32} {wd st lk : Nat → Int32} {tb sp : Nat → Int64} {n : Nat} (hn : n ≤ 60) (v : Int32) : CtI l y_MO_word (pw_ws y_MO_word c_MO_word 2 (some .int)) { frames := 0, cells := 0, slots := 0, locals := 0 } X (m_w X w tE cnt wd (nI n) st pt lk tb rk sp) [.ref (pw_a X 20 0), .int v] (fun r w1 => (n = 60 ∧ r = -3 ∧ w1 = m_w X w tE cnt wd (nI n) st pt lk tb rk sp) ∨ (n < 60 ∧ r = nI (n + 1) ∧ w1 = m_w X w tE cnt (upd wd n v) (nI (n + 1)) st pt lk tb 0 sp)) := by
  refine pw_open (by decide) hI [some (.ref (pw_a X 20 0)), some (.int v)] rfl (Nat.le_of_ble_eq_true rfl) ?_
  intro zp ze zs zm za zb zt zc hargs C zr zk hnm
  refine pw_aload_n C d_MO_word_0 rfl ?_
  refine pw_get C d_MO_word_1 (hX 20 0 rfl) rfl 3 rfl rfl (by decide) in_MO W_346 rfl ?_
  refine pw_bipush C d_MO_word_4 (v := 60) (by decide) ?_
  refine pw_icmp_ne C 12 d_MO_word_6 (by decide) (fun h6 => ?_) (fun h6 => ?_)
  · have hlt : n < 60 := by
      rcases Nat.lt_or_ge n 60 with q | q
      · exact q
      · exact absurd (by rw [show n = 60 by omega]; rfl) h6
    refine pw_aload_n C d_MO_word_12 rfl ?_
    refine pw_get C d_MO_word_13 (hX 20 0 rfl) rfl 2 rfl rfl (by decide) in_MO W_345 rfl ?_
    refine pw_aload_n C d_MO_word_16 rfl ?_
    refine pw_get C d_MO_word_17 (hX 20 0 rfl) rfl 3 rfl rfl (by decide) in_MO W_346 rfl ?_
    refine pw_iload_n C d_MO_word_20 rfl ?_
    refine pw_iastK C d_MO_word_21 (hX 22 0 rfl) rfl hlt ?_
    refine MW.world m_u22 ?_
    refine pw_aload_n C d_MO_word_22 rfl ?_
    refine pw_dup C d_MO_word_23 rfl ?_
    refine pw_get C d_MO_word_24 (hX 20 0 rfl) rfl 3 rfl rfl (by decide) in_MO W_346 rfl ?_
    refine pw_iconst C d_MO_word_27 (v := 1) (by decide) ?_
    refine pw_iadd C d_MO_word_28 ?_
    refine pw_put C d_MO_word_29 (hX 20 0 rfl) rfl 3 (Nat.le_of_ble_eq_true rfl) rfl (by decide) in_MO t_MO tk_MO n_MO W_346 rfl rfl (tk_MO 3 (by decide)) rfl rfl ?_
    refine MW.world m_u20 ?_
    rw [nI_1]
    refine pw_aload_n C d_MO_word_32 rfl ?_
    refine pw_iconst C d_MO_word_33 (v := 0) (by decide) ?_
    refine pw_put C d_MO_word_34 (hX 20 0 rfl) rfl 8 (Nat.le_of_ble_eq_true rfl) rfl (by decide) in_MO t_MO tk_MO n_MO W_351 rfl rfl (tk_MO 8 (by decide)) rfl rfl ?_
    refine MW.world m_u20 ?_
    refine pw_aload_n C d_MO_word_37 rfl ?_
    refine pw_get C d_MO_word_38 (hX 20 0 rfl) rfl 3 rfl rfl (by decide) in_MO W_346 rfl ?_
    refine pw_iret C zr zk d_MO_word_41 ?_
    exact Or.inr ⟨hlt, rfl, rfl⟩
  · refine pw_bipush C d_MO_word_9 (v := -3) (by decide) ?_
    refine pw_iret C zr zk d_MO_word_11 ?_
    exact Or.inl ⟨(nI_eq (a := n) (b := 60) (by omega) (by decide)).mp h6, rfl, rfl⟩
