/-! GRAPH. Its cells: the object (1, 0), the outer array (2, 0), the rows (3, label) -/
def g_rep (X : Lay) (w : Wd) (T : Nat → Nat → Int64) (n : Int32) : Prop := pw_d X 1 0 ∧ pw_d X 2 0 ∧ (∀ j, j < 8 → pw_d X 3 j) ∧ w 1 0 = oB 1 [.ref (pw_a X 2 0), .int n] ∧ (∃ f, w 2 0 = aQ X 8 f ∧ ∀ j, j < 8 → f j = some (pw_a X 3 j)) ∧ ∀ j, j < 8 → w 3 j = aL X 64 (T j)
theorem g_rep_of {X : Lay} {w w1 : Wd} {T : Nat → Nat → Int64} {n : Int32} (h : g_rep X w T n) (h1 : w1 1 = w 1) (h2 : w1 2 = w 2) (h3 : w1 3 = w 3) : g_rep X w1 T n := by
  obtain ⟨d1, d2, d3, a, b, c⟩ := h
  exact ⟨d1, d2, d3, by rw [h1]; exact a, by rw [h2]; exact b, by rw [h3]; exact c⟩
theorem pw_up_row (w : Wd) {g i g' : Nat} (e : va_E) (h : g' ≠ g) : pw_up w g i e g' = w g' := funext fun i' => pw_up_g w e h
theorem bt_m1 : (-1 : Int64).toBitVec = BitVec.allOnes 64 := by decide +kernel
theorem bt_not {x : Int64} {j : Nat} (hj : j < 64) : bt_f (x ^^^ (-1)) j = !(bt_f x j) := by
  unfold bt_f
  rw [Int64.toBitVec_xor, bt_m1, BitVec.getLsbD_xor, BitVec.getLsbD_allOnes]
  simp [hj]
set_option maxHeartbeats 4000000 in
set_option maxRecDepth 100000 in
theorem k_GR_isEdge (l : Launch) {X : Lay} (hI : pw_I X) (w : Wd) (a b c : Int32) : CtI l y_GR_isEdge (pw_ws y_GR_isEdge c_GR_isEdge 3 (some .boolean)) { frames := 1, cells := 0, slots := 0, locals := 20 } X w [.int a, .int b, .int c] (fun r w1 => w1 = w ∧ yn r (is_n a 64 ∧ is_n b 8 ∧ is_n c 64)) := by
  refine pw_open (by decide) hI [some (.int a), some (.int b), some (.int c)] rfl (Nat.le_of_ble_eq_true rfl) ?_
  intro zp ze zs zm za zb zt zc hargs C hr hlk hnm
  refine pw_iload_n C d_GR_isEdge_0 rfl ?_
  refine pw_callSNi C (k_PF_isPoint l hI _ a) ⟨pw_cn C 1 W_153 W_1 N_20 ⟨rfl, rfl⟩ (by decide +kernel) ⟨(Nat.le_of_ble_eq_true rfl), (Nat.le_of_ble_eq_true rfl)⟩, pw_w C W_152, trivial⟩ rfl rfl (Nat.le_of_ble_eq_true rfl) d_GR_isEdge_1 ⟨Nat.zero_le _, Nat.zero_le _⟩ (fun r w9 hp1 => ?_)
  obtain ⟨e9, hp1⟩ := hp1
  refine MW.world e9 ?_
  refine pw_if_eq C 25 d_GR_isEdge_4 (by decide) (fun h4 => ?_) (fun h4 => ?_)
  · refine pw_iconst C d_GR_isEdge_25 (v := 0) (by decide) ?_
    refine pw_zret C hr (by first | rfl | decide) hlk d_GR_isEdge_26 ?_
    exact ⟨rfl, yn_0 (fun q => yn_f hp1 h4 q.1)⟩
  · refine pw_iload_n C d_GR_isEdge_7 rfl ?_
    refine pw_callSNi C (k_PF_isLabel l hI _ b) ⟨pw_cn C 1 W_156 W_1 N_21 ⟨rfl, rfl⟩ (by decide +kernel) ⟨(Nat.le_of_ble_eq_true rfl), (Nat.le_of_ble_eq_true rfl)⟩, pw_w C W_155, trivial⟩ rfl rfl (Nat.le_of_ble_eq_true rfl) d_GR_isEdge_8 ⟨Nat.zero_le _, Nat.zero_le _⟩ (fun r w9 hp2 => ?_)
    obtain ⟨e9, hp2⟩ := hp2
    refine MW.world e9 ?_
    refine pw_if_eq C 25 d_GR_isEdge_11 (by decide) (fun h11 => ?_) (fun h11 => ?_)
    · refine pw_iconst C d_GR_isEdge_25 (v := 0) (by decide) ?_
      refine pw_zret C hr (by first | rfl | decide) hlk d_GR_isEdge_26 ?_
      exact ⟨rfl, yn_0 (fun q => yn_f hp2 h11 q.2.1)⟩
    · refine pw_iload_n C d_GR_isEdge_14 rfl ?_
      refine pw_callSNi C (k_PF_isPoint l hI _ c) ⟨pw_cn C 1 W_153 W_1 N_20 ⟨rfl, rfl⟩ (by decide +kernel) ⟨(Nat.le_of_ble_eq_true rfl), (Nat.le_of_ble_eq_true rfl)⟩, pw_w C W_152, trivial⟩ rfl rfl (Nat.le_of_ble_eq_true rfl) d_GR_isEdge_15 ⟨Nat.zero_le _, Nat.zero_le _⟩ (fun r w9 hp3 => ?_)
      obtain ⟨e9, hp3⟩ := hp3
      refine MW.world e9 ?_
      refine pw_if_eq C 25 d_GR_isEdge_18 (by decide) (fun h18 => ?_) (fun h18 => ?_)
      · refine pw_iconst C d_GR_isEdge_25 (v := 0) (by decide) ?_
        refine pw_zret C hr (by first | rfl | decide) hlk d_GR_isEdge_26 ?_
        exact ⟨rfl, yn_0 (fun q => yn_f hp3 h18 q.2.2)⟩
      · refine pw_iconst C d_GR_isEdge_21 (v := 1) (by decide) ?_
        refine pw_goto C 26 d_GR_isEdge_22 (by decide) ?_
        refine pw_zret C hr (by first | rfl | decide) hlk d_GR_isEdge_26 ?_
        exact ⟨rfl, yn_1 ⟨yn_t hp1 h4, yn_t hp2 h11, yn_t hp3 h18⟩⟩
/-- what put and remove do: refused; nothing to do; done (v: is the edge there behind it) -/
def g_post (X : Lay) (w : Wd) (T : Nat → Nat → Int64) (n d : Int32) (v : Bool) (a b c : Int32) (r : Int32) (w1 : Wd) : Prop :=
  (¬ (is_n a 64 ∧ is_n b 8 ∧ is_n c 64) ∧ r = -1 ∧ w1 = w) ∨
  ∃ i k j : Nat, i < 64 ∧ k < 8 ∧ j < 64 ∧ a = nI i ∧ b = nI k ∧ c = nI j ∧
    ((bt_f (T k i) j = v ∧ r = 0 ∧ w1 = w) ∨
     (bt_f (T k i) j = !v ∧ r = 1 ∧ (∀ g, g ≠ 1 → g ≠ 3 → w1 g = w g) ∧ ∃ T1, g_rep X w1 T1 (n + d) ∧ ∀ k1 i1 j1, j1 < 64 → bt_f (T1 k1 i1) j1 = if k1 = k ∧ i1 = i ∧ j1 = j then v else bt_f (T k1 i1) j1))
theorem g_wrote {X : Lay} {w : Wd} {T : Nat → Nat → Int64} {n d : Int32} {i k j : Nat} {v : Bool} {x : Int64} (hG : g_rep X w T n) (hk : k < 8) (hx : ∀ j1, j1 < 64 → bt_f x j1 = if j1 = j then v else bt_f (T k i) j1) :
    (∀ g, g ≠ 1 → g ≠ 3 → pw_up (pw_up w 3 k (aL X 64 (vp_updL (T k) i x))) 1 0 (oB 1 [.ref (pw_a X 2 0), .int (n + d)]) g = w g) ∧ ∃ T1, g_rep X (pw_up (pw_up w 3 k (aL X 64 (vp_updL (T k) i x))) 1 0 (oB 1 [.ref (pw_a X 2 0), .int (n + d)])) T1 (n + d) ∧ ∀ k1 i1 j1, j1 < 64 → bt_f (T1 k1 i1) j1 = if k1 = k ∧ i1 = i ∧ j1 = j then v else bt_f (T k1 i1) j1 := by
  obtain ⟨d1, d2, d3, a, b, c⟩ := hG
  refine ⟨fun g h1 h3 => by rw [pw_up_row _ _ h1, pw_up_row _ _ h3], fun k1 => if k1 = k then vp_updL (T k) i x else T k1, ⟨d1, d2, d3, by rw [pw_up_self], by rw [pw_up_row _ _ (by decide), pw_up_row _ _ (by decide)]; exact b, fun j9 h9 => ?_⟩, fun k1 i1 j1 hj1 => ?_⟩
  · rw [pw_up_g _ _ (by decide)]
    by_cases q : j9 = k
    · subst q
      dsimp only
      rw [pw_up_self, if_pos rfl]
    · dsimp only
      rw [pw_up_i _ _ q, if_neg q]
      exact c j9 h9
  · dsimp only
    by_cases q : k1 = k
    · subst q
      rw [if_pos rfl]
      by_cases q2 : i1 = i
      · subst q2
        rw [pk_uLs, hx j1 hj1]
        by_cases q3 : j1 = j
        · simp [q3]
        · simp [q3]
      · rw [pk_uLn q2]
        simp [q2]
    · rw [if_neg q]
      simp [q]
set_option maxHeartbeats 4000000 in
set_option maxRecDepth 100000 in
theorem k_GR_put (l : Launch) {X : Lay} (hI : pw_I X) (w : Wd) {T : Nat → Nat → Int64} {n : Int32} (hG : g_rep X w T n) (a b c : Int32) : CtI l y_GR_put (pw_ws y_GR_put c_GR_put 4 (some .int)) { frames := 2, cells := 0, slots := 0, locals := 42 } X w [.ref (pw_a X 1 0), .int a, .int b, .int c] (g_post X w T n 1 true a b c) := by
  refine pw_open (by decide) hI [some (.ref (pw_a X 1 0)), some (.int a), some (.int b), some (.int c)] rfl (Nat.le_of_ble_eq_true rfl) ?_
  intro zp ze zs zm za zb zt zc hargs C hr hlk hnm
  refine pw_iload_n C d_GR_put_0 rfl ?_
  refine pw_iload_n C d_GR_put_1 rfl ?_
  refine pw_iload_n C d_GR_put_2 rfl ?_
  refine pw_callSi C (k_GR_isEdge l hI _ a b c) ⟨pw_cb C 3 W_150 W_2 W_148 ⟨rfl, rfl⟩ (by decide +kernel) ⟨(Nat.le_of_ble_eq_true rfl), (Nat.le_of_ble_eq_true rfl)⟩, pw_w C W_149⟩ rfl rfl (Nat.le_of_ble_eq_true rfl) d_GR_put_3 ⟨Nat.zero_le _, Nat.zero_le _⟩ (fun r w9 hp => ?_)
  obtain ⟨e9, hp⟩ := hp
  refine MW.world e9 ?_
  refine pw_if_ne C 11 d_GR_put_6 (by decide) (fun h6 => ?_) (fun h6 => ?_)
  · have hg := hG
    obtain ⟨d1, d2, d3, w1e, ⟨f, w2e, hf⟩, w3e⟩ := hG
    obtain ⟨⟨i, hi, rfl⟩, ⟨k, hk, rfl⟩, ⟨j, hj, rfl⟩⟩ := yn_t hp h6
    refine pw_aload_n C d_GR_put_11 rfl ?_
    refine pw_get C d_GR_put_12 d1 w1e 0 rfl rfl (by decide) in_GR W_26 rfl ?_
    refine pw_iload_n C d_GR_put_15 rfl ?_
    refine pw_aaldK C d_GR_put_16 d2 w2e hk (hf k hk) ?_
    refine pw_iload_n C d_GR_put_17 rfl ?_
    refine pw_laldK C d_GR_put_18 (d3 k hk) (w3e k hk) hi ?_
    refine pw_iload_n C d_GR_put_19 rfl ?_
    refine pw_callSNi C (k_PF_holds l hI _ _ hj) ⟨pw_cn C 2 W_159 W_1 N_22 ⟨rfl, rfl⟩ (by decide +kernel) ⟨(Nat.le_of_ble_eq_true rfl), (Nat.le_of_ble_eq_true rfl)⟩, pw_w C W_158, trivial⟩ rfl rfl (Nat.le_of_ble_eq_true rfl) d_GR_put_20 ⟨Nat.zero_le _, Nat.zero_le _⟩ (fun r2 w9 hp2 => ?_)
    obtain ⟨e9, hp2⟩ := hp2
    refine MW.world e9 ?_
    refine pw_if_eq C 28 d_GR_put_23 (by decide) (fun h23 => ?_) (fun h23 => ?_)
    · refine pw_aload_n C d_GR_put_28 rfl ?_
      refine pw_get C d_GR_put_29 d1 w1e 0 rfl rfl (by decide) in_GR W_26 rfl ?_
      refine pw_iload_n C d_GR_put_32 rfl ?_
      refine pw_aaldK C d_GR_put_33 d2 w2e hk (hf k hk) ?_
      refine pw_iload_n C d_GR_put_34 rfl ?_
      refine pw_dup2 C d_GR_put_35 rfl rfl ?_
      refine pw_laldK C d_GR_put_36 (d3 k hk) (w3e k hk) hi ?_
      refine pw_iload_n C d_GR_put_37 rfl ?_
      refine pw_callSNl C (k_PF_bit l hI _ j) ⟨pw_cn C 1 W_162 W_1 N_23 ⟨rfl, rfl⟩ (by decide +kernel) ⟨(Nat.le_of_ble_eq_true rfl), (Nat.le_of_ble_eq_true rfl)⟩, pw_w C W_161, trivial⟩ rfl rfl (Nat.le_of_ble_eq_true rfl) d_GR_put_38 ⟨Nat.zero_le _, Nat.zero_le _⟩ (fun r3 w9 hp3 => ?_)
      obtain ⟨e9, hp3⟩ := hp3
      subst hp3
      refine MW.world e9 ?_
      refine pw_lor C d_GR_put_41 ?_
      refine pw_lastK C d_GR_put_42 (d3 k hk) (w3e k hk) hi ?_
      refine pw_aload_n C d_GR_put_43 rfl ?_
      refine pw_dup C d_GR_put_44 rfl ?_
      refine pw_get C d_GR_put_45 d1 (by rw [pw_up_g _ _ (by decide)]; exact w1e) 1 rfl rfl (by decide) in_GR W_29 rfl ?_
      refine pw_iconst C d_GR_put_48 (v := 1) (by decide) ?_
      refine pw_iadd C d_GR_put_49 ?_
      refine pw_put C d_GR_put_50 d1 (by rw [pw_up_g _ _ (by decide)]; exact w1e) 1 (Nat.le_of_ble_eq_true rfl) rfl (by decide) in_GR t_GR tk_GR n_GR W_29 rfl rfl (tk_GR 1 (by decide)) rfl rfl ?_
      refine pw_iconst C d_GR_put_53 (v := 1) (by decide) ?_
      refine pw_iret C hr hlk d_GR_put_54 ?_
      have hb : bt_f (T k i) j = false := by
        cases q : bt_f (T k i) j with
        | false => rfl
        | true => exact absurd q (yn_f hp2 h23)
      refine Or.inr ⟨i, k, j, hi, hk, hj, rfl, rfl, rfl, Or.inr ⟨hb, rfl, ?_⟩⟩
      exact g_wrote hg hk (fun j1 hj1 => by
        rw [bt_or, bt_bit hj]
        by_cases q : j1 = j
        · subst q; simp
        · simp [q])
    · refine pw_iconst C d_GR_put_26 (v := 0) (by decide) ?_
      refine pw_iret C hr hlk d_GR_put_27 ?_
      exact Or.inr ⟨i, k, j, hi, hk, hj, rfl, rfl, rfl, Or.inl ⟨yn_t hp2 h23, rfl, rfl⟩⟩
  · refine pw_iconst C d_GR_put_9 (v := -1) (by decide) ?_
    refine pw_iret C hr hlk d_GR_put_10 ?_
    exact Or.inl ⟨yn_f hp h6, rfl, rfl⟩
set_option maxHeartbeats 4000000 in
set_option maxRecDepth 100000 in
theorem k_GR_remove (l : Launch) {X : Lay} (hI : pw_I X) (w : Wd) {T : Nat → Nat → Int64} {n : Int32} (hG : g_rep X w T n) (a b c : Int32) : CtI l y_GR_remove (pw_ws y_GR_remove c_GR_remove 4 (some .int)) { frames := 2, cells := 0, slots := 0, locals := 42 } X w [.ref (pw_a X 1 0), .int a, .int b, .int c] (g_post X w T n (-1) false a b c) := by
  refine pw_open (by decide) hI [some (.ref (pw_a X 1 0)), some (.int a), some (.int b), some (.int c)] rfl (Nat.le_of_ble_eq_true rfl) ?_
  intro zp ze zs zm za zb zt zc hargs C hr hlk hnm
  refine pw_iload_n C d_GR_remove_0 rfl ?_
  refine pw_iload_n C d_GR_remove_1 rfl ?_
  refine pw_iload_n C d_GR_remove_2 rfl ?_
  refine pw_callSi C (k_GR_isEdge l hI _ a b c) ⟨pw_cb C 3 W_150 W_2 W_148 ⟨rfl, rfl⟩ (by decide +kernel) ⟨(Nat.le_of_ble_eq_true rfl), (Nat.le_of_ble_eq_true rfl)⟩, pw_w C W_149⟩ rfl rfl (Nat.le_of_ble_eq_true rfl) d_GR_remove_3 ⟨Nat.zero_le _, Nat.zero_le _⟩ (fun r w9 hp => ?_)
  obtain ⟨e9, hp⟩ := hp
  refine MW.world e9 ?_
  refine pw_if_ne C 11 d_GR_remove_6 (by decide) (fun h6 => ?_) (fun h6 => ?_)
  · have hg := hG
    obtain ⟨d1, d2, d3, w1e, ⟨f, w2e, hf⟩, w3e⟩ := hG
    obtain ⟨⟨i, hi, rfl⟩, ⟨k, hk, rfl⟩, ⟨j, hj, rfl⟩⟩ := yn_t hp h6
    refine pw_aload_n C d_GR_remove_11 rfl ?_
    refine pw_get C d_GR_remove_12 d1 w1e 0 rfl rfl (by decide) in_GR W_26 rfl ?_
    refine pw_iload_n C d_GR_remove_15 rfl ?_
    refine pw_aaldK C d_GR_remove_16 d2 w2e hk (hf k hk) ?_
    refine pw_iload_n C d_GR_remove_17 rfl ?_
    refine pw_laldK C d_GR_remove_18 (d3 k hk) (w3e k hk) hi ?_
    refine pw_iload_n C d_GR_remove_19 rfl ?_
    refine pw_callSNi C (k_PF_holds l hI _ _ hj) ⟨pw_cn C 2 W_159 W_1 N_22 ⟨rfl, rfl⟩ (by decide +kernel) ⟨(Nat.le_of_ble_eq_true rfl), (Nat.le_of_ble_eq_true rfl)⟩, pw_w C W_158, trivial⟩ rfl rfl (Nat.le_of_ble_eq_true rfl) d_GR_remove_20 ⟨Nat.zero_le _, Nat.zero_le _⟩ (fun r2 w9 hp2 => ?_)
    obtain ⟨e9, hp2⟩ := hp2
    refine MW.world e9 ?_
    refine pw_if_ne C 28 d_GR_remove_23 (by decide) (fun h23 => ?_) (fun h23 => ?_)
    · refine pw_aload_n C d_GR_remove_28 rfl ?_
      refine pw_get C d_GR_remove_29 d1 w1e 0 rfl rfl (by decide) in_GR W_26 rfl ?_
      refine pw_iload_n C d_GR_remove_32 rfl ?_
      refine pw_aaldK C d_GR_remove_33 d2 w2e hk (hf k hk) ?_
      refine pw_iload_n C d_GR_remove_34 rfl ?_
      refine pw_dup2 C d_GR_remove_35 rfl rfl ?_
      refine pw_laldK C d_GR_remove_36 (d3 k hk) (w3e k hk) hi ?_
      refine pw_iload_n C d_GR_remove_37 rfl ?_
      refine pw_callSNl C (k_PF_bit l hI _ j) ⟨pw_cn C 1 W_162 W_1 N_23 ⟨rfl, rfl⟩ (by decide +kernel) ⟨(Nat.le_of_ble_eq_true rfl), (Nat.le_of_ble_eq_true rfl)⟩, pw_w C W_161, trivial⟩ rfl rfl (Nat.le_of_ble_eq_true rfl) d_GR_remove_38 ⟨Nat.zero_le _, Nat.zero_le _⟩ (fun r3 w9 hp3 => ?_)
      obtain ⟨e9, hp3⟩ := hp3
      subst hp3
      refine MW.world e9 ?_
      refine pw_ldc2_w C d_GR_remove_41 (v := -1) W_175 ?_
      refine pw_lxor C d_GR_remove_44 ?_
      refine pw_land C d_GR_remove_45 ?_
      refine pw_lastK C d_GR_remove_46 (d3 k hk) (w3e k hk) hi ?_
      refine pw_aload_n C d_GR_remove_47 rfl ?_
      refine pw_dup C d_GR_remove_48 rfl ?_
      refine pw_get C d_GR_remove_49 d1 (by rw [pw_up_g _ _ (by decide)]; exact w1e) 1 rfl rfl (by decide) in_GR W_29 rfl ?_
      refine pw_iconst C d_GR_remove_52 (v := 1) (by decide) ?_
      refine pw_isub C d_GR_remove_53 ?_
      refine pw_put C d_GR_remove_54 d1 (by rw [pw_up_g _ _ (by decide)]; exact w1e) 1 (Nat.le_of_ble_eq_true rfl) rfl (by decide) in_GR t_GR tk_GR n_GR W_29 rfl rfl (tk_GR 1 (by decide)) rfl rfl ?_
      refine pw_iconst C d_GR_remove_57 (v := 1) (by decide) ?_
      refine pw_iret C hr hlk d_GR_remove_58 ?_
      refine Or.inr ⟨i, k, j, hi, hk, hj, rfl, rfl, rfl, Or.inr ⟨yn_t hp2 h23, rfl, ?_⟩⟩
      rw [show n - 1 = n + (-1) from by rw [Int32.sub_eq_add_neg]]
      exact g_wrote hg hk (fun j1 hj1 => by
        rw [bt_and, bt_not hj1, bt_bit hj]
        by_cases q : j1 = j
        · subst q; simp
        · simp [q])
    · refine pw_iconst C d_GR_remove_26 (v := 0) (by decide) ?_
      refine pw_iret C hr hlk d_GR_remove_27 ?_
      have hb : bt_f (T k i) j = false := by
        cases q : bt_f (T k i) j with
        | false => rfl
        | true => exact absurd q (yn_f hp2 h23)
      exact Or.inr ⟨i, k, j, hi, hk, hj, rfl, rfl, rfl, Or.inl ⟨hb, rfl, rfl⟩⟩
  · refine pw_iconst C d_GR_remove_9 (v := -1) (by decide) ?_
    refine pw_iret C hr hlk d_GR_remove_10 ?_
    exact Or.inl ⟨yn_f hp h6, rfl, rfl⟩
