/-! THE REFERENCE: reckon: the parts from the last to the first, on a stack of tables -/
/-- the tree of a part, by the words alone -/
def tr_f (wd : Nat → Int32) (n : Nat) : Nat → Nat → Nat → Nat → Nat → Prop
  | 0, _, _, _, _ => False
  | d + 1, a, t, b, t1 => a < n ∧ 0 ≤ wd a ∧ wd a ≤ 7 ∧
    ((wd a = 0 ∨ wd a = 7) → a + 1 < n ∧ b = a + 2 ∧ t1 = t + 1 ∧ ∃ u, u < (if wd a = 0 then 8 else 256) ∧ wd (a + 1) = nI u) ∧
    (¬ (wd a = 0 ∨ wd a = 7) → (wd a = 2 ∨ wd a = 3) → ∃ b1 t2, tr_f wd n d (a + 1) (t + 1) b1 t2 ∧ tr_f wd n d b1 t2 b t1) ∧
    (¬ (wd a = 0 ∨ wd a = 7) → ¬ (wd a = 2 ∨ wd a = 3) → tr_f wd n d (a + 1) (t + 1) b t1)
theorem rd_tr (wd : Nat → Int32) (n : Nat) : ∀ (d a t b t1 : Nat), rd_f wd n d a t = (true, b, t1) → tr_f wd n d a t b t1
  | 0, a, t, b, t1, h => by cases h
  | d + 1, a, t, b, t1, h => by
    by_cases c1 : t < 40 ∧ a < n ∧ 0 ≤ wd a ∧ wd a ≤ 7
    · refine ⟨c1.2.1, c1.2.2.1, c1.2.2.2, fun c2 => ?_, fun c2 c4 => ?_, fun c2 c4 => ?_⟩
      · rw [rd_leaf c1 c2] at h
        by_cases c3 : a + 1 < n ∧ 0 ≤ wd (a + 1) ∧ wd (a + 1) ≤ (if wd a = 0 then 7 else 255)
        · rw [if_pos c3] at h
          cases h
          refine ⟨c3.1, rfl, rfl, ?_⟩
          by_cases c5 : wd a = 0
          · obtain ⟨j, hj, e⟩ := nI_of2 (M := 7) (n := 7) (by decide) (Int32.not_lt.mpr c3.2.1) (by have := c3.2.2; rw [if_pos c5] at this; exact this)
            exact ⟨j, by rw [if_pos c5]; omega, e⟩
          · obtain ⟨j, hj, e⟩ := nI_of2 (M := 255) (n := 255) (by decide) (Int32.not_lt.mpr c3.2.1) (by have := c3.2.2; rw [if_neg c5] at this; exact this)
            exact ⟨j, by rw [if_neg c5]; omega, e⟩
        · rw [if_neg c3] at h; cases h
      · rcases h1 : rd_f wd n d (a + 1) (t + 1) with ⟨ok1, b1, t2⟩
        cases ok1 with
        | false => rw [rd_f1 c1 c2 h1] at h; cases h
        | true =>
          rw [rd_b c1 c2 h1 c4] at h
          exact ⟨b1, t2, rd_tr wd n d _ _ _ _ h1, rd_tr wd n d _ _ _ _ h⟩
      · rcases h1 : rd_f wd n d (a + 1) (t + 1) with ⟨ok1, b1, t2⟩
        cases ok1 with
        | false => rw [rd_f1 c1 c2 h1] at h; cases h
        | true =>
          rw [rd_u c1 c2 h1 c4] at h
          cases h
          exact rd_tr wd n d _ _ _ _ h1
    · rw [rd_no c1] at h; cases h
theorem tr_lt (wd : Nat → Int32) (n : Nat) : ∀ (d a t b t1 : Nat), tr_f wd n d a t b t1 → t < t1
  | 0, _, _, _, _, h => h.elim
  | d + 1, a, t, b, t1, h => by
    obtain ⟨-, -, -, h1, h2, h3⟩ := h
    by_cases c : wd a = 0 ∨ wd a = 7
    · have := (h1 c).2.2.1; omega
    · by_cases c2 : wd a = 2 ∨ wd a = 3
      · obtain ⟨b1, t2, g1, g2⟩ := h2 c c2
        have := tr_lt wd n d _ _ _ _ g1
        have := tr_lt wd n d _ _ _ _ g2
        omega
      · have := tr_lt wd n d _ _ _ _ (h3 c c2); omega
theorem tr_np (wd : Nat → Int32) (n : Nat) : ∀ (d a t b t1 : Nat), tr_f wd n d a t b t1 → a = np_f wd t → b = np_f wd t1 ∧ en_f wd d a = b
  | 0, _, _, _, _, h, _ => h.elim
  | d + 1, a, t, b, t1, h, ha => by
    obtain ⟨-, -, -, h1, h2, h3⟩ := h
    have hs : np_f wd (t + 1) = if wd a = 0 ∨ wd a = 7 then a + 2 else a + 1 := by
      show (if wd (np_f wd t) = 0 ∨ wd (np_f wd t) = 7 then np_f wd t + 2 else np_f wd t + 1) = _
      rw [← ha]
    by_cases c : wd a = 0 ∨ wd a = 7
    · obtain ⟨-, g2, g3, -⟩ := h1 c
      rw [if_pos c] at hs
      exact ⟨by rw [g3, hs, g2], (if_pos c).trans g2.symm⟩
    · rw [if_neg c] at hs
      by_cases c2 : wd a = 2 ∨ wd a = 3
      · obtain ⟨b1, t2, g1, g2⟩ := h2 c c2
        obtain ⟨e1, f1⟩ := tr_np wd n d _ _ _ _ g1 hs.symm
        obtain ⟨e2, f2⟩ := tr_np wd n d _ _ _ _ g2 e1
        exact ⟨e2, (if_neg c).trans ((if_pos c2).trans (by rw [f1, f2]))⟩
      · obtain ⟨e1, f1⟩ := tr_np wd n d _ _ _ _ (h3 c c2) hs.symm
        exact ⟨e1, (if_neg c).trans ((if_neg c2).trans f1)⟩
/-- a table of the stack holds these times -/
def sv_f (tb : Nat → Int64) (s : Nat) (M : Nat → Nat → Nat) : Prop := ∀ x, x < 64 → ∀ y, y < 64 → tb (4096 * s + 64 * x + y) = lN (cp_f (M x y))
theorem lb_c0 : ∀ u, u < 8 → ∀ b, b < 8 → decide ((((1 : Int32) <<< (nI u &&& 31)) >>> (nI b &&& 31)) &&& 1 = 1) = bt_f ((1 : Int32) <<< (nI u &&& 31)).toInt64 b := by decide +kernel
theorem lb_c7 : ∀ u, u < 256 → ∀ b, b < 8 → decide (((255 - nI u) >>> (nI b &&& 31)) &&& 1 = 1) = bt_f (255 - nI u : Int32).toInt64 b := by decide +kernel
theorem lb_e7 : ∀ u, u < 256 → (255 : Int32) &&& (nI u ^^^ (-1)) = 255 - nI u := by decide +kernel
theorem ma_le (b : Bool) (R : Nat → Int64) (x y : Nat) : ma_f b R x y ≤ 1 := by
  unfold ma_f
  split <;> split <;> omega
theorem sg_le {f : Nat → Nat} (h : ∀ i, f i ≤ 1) : ∀ n, sg_f f n ≤ n
  | 0 => Nat.le_refl 0
  | n + 1 => by
    have := sg_le h n
    have := h n
    show sg_f f n + f n ≤ n + 1
    omega
theorem me_le (v : Int32) (T : Nat → Nat → Int64) (x y : Nat) : me_f false v T x y ≤ C15 := by
  have : me_f false v T x y ≤ 8 := sg_le (fun i => by
    have := ma_le false (T i) x y
    split <;> omega) 8
  unfold C15; omega
theorem lb_sum {T : Nat → Nat → Int64} {tE : Nat → Bool} (hTE : ∀ k, k < 8 → ∀ i, i < 64 → ∀ j, j < 64 → tE (ix_f k i j) = bt_f (T k i) j) {v : Int32} (hv : ∀ b, b < 8 → decide ((v >>> (nI b &&& 31)) &&& 1 = 1) = bt_f v.toInt64 b) {x y : Nat} (hx : x < 64) (hy : y < 64) : sg_f (fun b => if (decide ((v >>> (nI b &&& 31)) &&& 1 = 1) && tE (4096 * b + (64 * x + y))) then 1 else 0) 8 = me_f false v T x y := by
  unfold me_f
  refine sg_congr (fun b hb => ?_)
  have e := hTE b hb x hx y hy
  unfold ix_f at e
  rw [hv b hb, show 4096 * b + (64 * x + y) = 4096 * b + 64 * x + y by omega, e]
  unfold ma_f
  cases bt_f v.toInt64 b <;> simp
theorem cp_ne (c : Nat) : cp_f c ≠ 0 ↔ c ≠ 0 := by
  unfold cp_f C15
  split <;> omega
theorem v1_eq {c : Bool} {P : Prop} [Decidable P] (h : c = true ↔ P) : v1_f c = lN (cp_f (if P then 1 else 0)) := by
  unfold v1_f
  by_cases q : P
  · rw [h.mpr q, if_pos q]; decide
  · have : c = false := by cases c with
      | false => rfl
      | true => exact absurd (h.mp rfl) q
    rw [this, if_neg q]; decide
/-- staying added before closing, or behind it -/
theorem wz_refl (r : Nat → Nat → Bool) {x y : Nat} (hx : x < 64) (hy : y < 64) : wz_f (fun x y => r x y || (true && decide (x = y))) 64 x y = true ↔ (wz_f r 64 x y = true ∨ y = x) := by
  have go : ∀ z x y, wz_f (fun x y => r x y || (true && decide (x = y))) z x y = true ↔ (wz_f r z x y = true ∨ y = x) := by
    intro z
    induction z with
    | zero =>
      intro x y
      show (r x y || (true && decide (x = y))) = true ↔ (r x y = true ∨ y = x)
      rw [Bool.or_eq_true, Bool.true_and, decide_eq_true_eq]
      exact ⟨fun h => h.elim Or.inl (fun h => Or.inr h.symm), fun h => h.elim Or.inl (fun h => Or.inr h.symm)⟩
    | succ z ih =>
      intro x y
      show (wz_f (fun x y => r x y || (true && decide (x = y))) z x y || (wz_f (fun x y => r x y || (true && decide (x = y))) z x z && wz_f (fun x y => r x y || (true && decide (x = y))) z z y)) = true ↔ ((wz_f r z x y || (wz_f r z x z && wz_f r z z y)) = true ∨ y = x)
      rw [Bool.or_eq_true, Bool.and_eq_true, Bool.or_eq_true, Bool.and_eq_true, ih x y, ih x z, ih z y]
      constructor
      · rintro ((a | a) | ⟨a | a, b | b⟩)
        · exact Or.inl (Or.inl a)
        · exact Or.inr a
        · exact Or.inl (Or.inr ⟨a, b⟩)
        · subst b; exact Or.inl (Or.inl a)
        · subst a; exact Or.inl (Or.inl b)
        · subst a; exact Or.inr b
      · rintro ((a | ⟨a, b⟩) | a)
        · exact Or.inl (Or.inl a)
        · exact Or.inr ⟨Or.inl a, Or.inl b⟩
        · exact Or.inl (Or.inr a)
  exact go 64 x y
theorem wd6 {v : Int32} (h0 : 0 ≤ v) (h7 : v ≤ 7) (n0 : ¬ v = 0) (n1 : ¬ v = 1) (n2 : ¬ v = 2) (n3 : ¬ v = 3) (n4 : ¬ v = 4) (n5 : ¬ v = 5) (n7 : ¬ v = 7) : v = 6 := by
  obtain ⟨j, hj, rfl⟩ := nI_of2 (M := 7) (n := 7) (by decide) (Int32.not_lt.mpr h0) h7
  rcases (show j = 0 ∨ j = 1 ∨ j = 2 ∨ j = 3 ∨ j = 4 ∨ j = 5 ∨ j = 6 ∨ j = 7 by omega) with rfl | rfl | rfl | rfl | rfl | rfl | rfl | rfl
  · exact absurd rfl n0
  · exact absurd rfl n1
  · exact absurd rfl n2
  · exact absurd rfl n3
  · exact absurd rfl n4
  · exact absurd rfl n5
  · rfl
  · exact absurd rfl n7
set_option maxHeartbeats 4000000 in
set_option maxRecDepth 100000 in
theorem k_MO_reckon (l : Launch) {X : Lay} (hI : pw_I X) (hX : Dm X) (w : Wd) {tE : Nat → Bool} {cnt pt rk : Int32} {wd st lk : Nat → Int32} {tb sp : Nat → Int64} {n : Nat} (hn : n ≤ 60) {T : Nat → Nat → Int64} (hTE : ∀ k, k < 8 → ∀ i, i < 64 → ∀ j, j < 64 → tE (ix_f k i j) = bt_f (T k i) j) (hrk : ¬ rk = 0 → lk_f wd n = 0 ∧ sv_f tb 0 (cn_f T wd 12 0)) : CtI l y_MO_reckon (pw_ws y_MO_reckon c_MO_reckon 6 (some .boolean)) { frames := 2, cells := 0, slots := 0, locals := 51 } X (m_w X w tE cnt wd (nI n) st pt lk tb rk sp) [.ref (pw_a X 20 0)] (fun r w1 => ∃ st1 pt1 lk1 tb1 rk1 sp1, w1 = m_w X w tE cnt wd (nI n) st1 pt1 lk1 tb1 rk1 sp1 ∧ ((r = 0 ∧ ¬ lk_f wd n = 0 ∧ rk1 = 0) ∨ (r = 1 ∧ lk_f wd n = 0 ∧ ¬ rk1 = 0 ∧ sv_f tb1 0 (cn_f T wd 12 0)))) := by
  refine pw_open (by decide) hI [some (.ref (pw_a X 20 0)), none, none, none, none, none] rfl (Nat.le_of_ble_eq_true rfl) ?_
  intro zp ze zs zm za zb zt zc hargs C zr zk hnm
  have L3 : ∀ (st0 lk0 : Nat → Int32) (parts s t a : Nat) (sp1 tb0 : Nat → Int64) (P Q : Nat → Nat), s + 2 ≤ 15 → (∀ i, i < 4096 → tb0 (4096 * s + i) = lN (P i) ∧ P i ≤ C15) → (∀ i, i < 4096 → tb0 (4096 * (s + 1) + i) = lN (Q i) ∧ Q i ≤ C15) → (∀ t1 : Nat → Int64, (∀ i, i < 4096 → t1 (4096 * s + i) = lN (cp_f (P i + Q i))) → (∀ z, z < 4096 * s → t1 z = tb0 z) → MW zp l ze ({ frames := 2, cells := 0, slots := 0, locals := 51 } : Room) zs zm za zb zt zc X 6 0 0 (MQ zb (va_Qi (fun r w1 => ∃ st1 pt1 lk1 tb1 rk1 sp1, w1 = m_w X w tE cnt wd (nI n) st1 pt1 lk1 tb1 rk1 sp1 ∧ ((r = 0 ∧ ¬ lk_f wd n = 0 ∧ rk1 = 0) ∨ (r = 1 ∧ lk_f wd n = 0 ∧ ¬ rk1 = 0 ∧ sv_f tb1 0 (cn_f T wd 12 0)))) (pw_B X) (pw_F X)) za zs 0 0 (pw_F X)) (m_w X w tE cnt wd (nI n) st0 (nI parts) lk0 t1 rk sp1) 218 [some (.ref (pw_a X 20 0)), some (.int (nI (s + 2))), some (.int (nI t)), none, none, none] []) → ∀ d k : Nat, k + d = 4096 → ∀ t1 : Nat → Int64, (∀ i, i < 4096 → t1 (4096 * s + i) = if i < k then lN (cp_f (P i + Q i)) else lN (P i)) → (∀ z, (z < 4096 * s ∨ 4096 * s + 4096 ≤ z) → t1 z = tb0 z) → MW zp l ze ({ frames := 2, cells := 0, slots := 0, locals := 51 } : Room) zs zm za zb zt zc X 6 0 0 (MQ zb (va_Qi (fun r w1 => ∃ st1 pt1 lk1 tb1 rk1 sp1, w1 = m_w X w tE cnt wd (nI n) st1 pt1 lk1 tb1 rk1 sp1 ∧ ((r = 0 ∧ ¬ lk_f wd n = 0 ∧ rk1 = 0) ∨ (r = 1 ∧ lk_f wd n = 0 ∧ ¬ rk1 = 0 ∧ sv_f tb1 0 (cn_f T wd 12 0)))) (pw_B X) (pw_F X)) za zs 0 0 (pw_F X)) (m_w X w tE cnt wd (nI n) st0 (nI parts) lk0 t1 rk sp1) 162 [some (.ref (pw_a X 20 0)), some (.int (nI (s + 2))), some (.int (nI t)), some (.int (wd a)), some (.int (nI (4096 * (s + 1)))), some (.int (nI k))] [] := by
    intro st0 lk0 parts s t a sp1 tb0 PP QQ hs hP hQ hcont d
    induction d with
    | zero =>
      intro k hkd t1 h1 h2
      refine pw_iload C d_MO_reckon_162 rfl ?_
      refine pw_sipush C d_MO_reckon_164 (v := 4096) (by decide) ?_
      refine pw_icmp_ge C 218 d_MO_reckon_167 (by decide) (fun h167 => ?_) (fun h167 => ?_)
      · exact MW.less (lv' := [some (.ref (pw_a X 20 0)), some (.int (nI (s + 2))), some (.int (nI t)), none, none, none]) (by intro i v h; rcases i with _ | _ | _ | _ | _ | _ | i <;> first | exact h | (simp at h)) (hcont t1 (fun i hi => by rw [h1 i hi, if_pos (by omega)]) (fun z hz => h2 z (Or.inl hz)))
      · exact absurd (nI_le (a := 4096) (b := k) (by omega) (by omega)) h167
    | succ d ih =>
      intro k hkd t1 h1 h2
      have hk : k < 4096 := by omega
      refine pw_iload C d_MO_reckon_162 rfl ?_
      refine pw_sipush C d_MO_reckon_164 (v := 4096) (by decide) ?_
      refine pw_icmp_ge C 218 d_MO_reckon_167 (by decide) (fun h167 => ?_) (fun h167 => ?_)
      · exact absurd ((nI_leI (a := 4096) (by decide) (by omega)).mp h167) (by omega)
      refine pw_aload_n C d_MO_reckon_170 rfl ?_
      refine pw_get C d_MO_reckon_171 (hX 20 0 rfl) rfl 7 rfl rfl (by decide) in_MO W_350 rfl ?_
      refine pw_iload C d_MO_reckon_174 rfl ?_
      refine pw_sipush C d_MO_reckon_176 (v := 4096) (by decide) ?_
      refine pw_isub C d_MO_reckon_179 ?_
      refine pw_iload C d_MO_reckon_180 rfl ?_
      refine pw_iadd C d_MO_reckon_182 ?_
      rw [show nI (4096 * (s + 1)) - 4096 = nI (4096 * s) from by rw [show (4096 : Int32) = nI 4096 from rfl, pk_sub (by omega)]; congr 1, nI_add]
      refine pw_aload_n C d_MO_reckon_183 rfl ?_
      refine pw_get C d_MO_reckon_184 (hX 20 0 rfl) rfl 7 rfl rfl (by decide) in_MO W_350 rfl ?_
      refine pw_iload C d_MO_reckon_187 rfl ?_
      refine pw_sipush C d_MO_reckon_189 (v := 4096) (by decide) ?_
      refine pw_isub C d_MO_reckon_192 ?_
      refine pw_iload C d_MO_reckon_193 rfl ?_
      refine pw_iadd C d_MO_reckon_195 ?_
      rw [show nI (4096 * (s + 1)) - 4096 = nI (4096 * s) from by rw [show (4096 : Int32) = nI 4096 from rfl, pk_sub (by omega)]; congr 1, nI_add]
      refine pw_laldK C d_MO_reckon_196 (hX 25 0 rfl) rfl (by omega) ?_
      refine pw_aload_n C d_MO_reckon_197 rfl ?_
      refine pw_get C d_MO_reckon_198 (hX 20 0 rfl) rfl 7 rfl rfl (by decide) in_MO W_350 rfl ?_
      refine pw_iload C d_MO_reckon_201 rfl ?_
      refine pw_iload C d_MO_reckon_203 rfl ?_
      refine pw_iadd C d_MO_reckon_205 ?_
      rw [nI_add]
      refine pw_laldK C d_MO_reckon_206 (hX 25 0 rfl) rfl (by omega) ?_
      refine pw_ladd C d_MO_reckon_207 ?_
      rw [h1 k hk, if_neg (by omega), h2 _ (by omega), (hQ k hk).1, lN_add]
      refine pw_callSl C (k_MO_least l hI _ (a := PP k + QQ k) (by have := (hP k hk).2; have := (hQ k hk).2; have := c15_63; unfold C15 at *; omega)) ⟨pw_cb C 1 W_439 W_6 W_437 ⟨rfl, rfl⟩ (by decide +kernel) ⟨(Nat.le_of_ble_eq_true rfl), (Nat.le_of_ble_eq_true rfl)⟩, pw_w C W_438⟩ rfl rfl (Nat.le_of_ble_eq_true rfl) d_MO_reckon_208 ⟨Nat.zero_le _, Nat.zero_le _⟩ (fun rl w9 hp => ?_)
      obtain ⟨e9, hp⟩ := hp
      subst hp
      refine MW.world e9 ?_
      refine pw_lastK C d_MO_reckon_211 (hX 25 0 rfl) rfl (by omega) ?_
      refine MW.world m_u25 ?_
      refine pw_iinc1 C d_MO_reckon_212 rfl (by decide) ?_
      refine pw_goto C 162 d_MO_reckon_215 (by decide) ?_
      refine ih (k + 1) (by omega) _ (fun i hi => ?_) (fun z hz => ?_)
      · by_cases c : i = k
        · subst c; rw [pk_uLs, if_pos (by omega)]
        · rw [pk_uLn (by omega), h1 i hi]
          by_cases c2 : i < k
          · rw [if_pos c2, if_pos (by omega)]
          · rw [if_neg c2, if_neg (by omega)]
      · rw [pk_uLn (by omega)]; exact h2 z hz
  have CL : ∀ (st0 lk0 : Nat → Int32) (parts : Nat), parts ≤ 40 → (∀ p, p < parts → st0 p = nI (np_f wd p)) → ∀ (d a t b t1 : Nat), tr_f wd n d a t b t1 → a = np_f wd t → t1 ≤ parts → ∀ s : Nat, s + d ≤ 15 → ∀ (tb0 sp0 : Nat → Int64), (∀ tb1 sp1 : Nat → Int64, sv_f tb1 s (cn_f T wd d a) → (∀ z, z < 4096 * s → tb1 z = tb0 z) → MW zp l ze ({ frames := 2, cells := 0, slots := 0, locals := 51 } : Room) zs zm za zb zt zc X 6 0 0 (MQ zb (va_Qi (fun r w1 => ∃ st1 pt1 lk1 tb1 rk1 sp1, w1 = m_w X w tE cnt wd (nI n) st1 pt1 lk1 tb1 rk1 sp1 ∧ ((r = 0 ∧ ¬ lk_f wd n = 0 ∧ rk1 = 0) ∨ (r = 1 ∧ lk_f wd n = 0 ∧ ¬ rk1 = 0 ∧ sv_f tb1 0 (cn_f T wd 12 0)))) (pw_B X) (pw_F X)) za zs 0 0 (pw_F X)) (m_w X w tE cnt wd (nI n) st0 (nI parts) lk0 tb1 rk sp1) 27 [some (.ref (pw_a X 20 0)), some (.int (nI (s + 1))), some (.int (nI t - 1)), none, none, none] []) → MW zp l ze ({ frames := 2, cells := 0, slots := 0, locals := 51 } : Room) zs zm za zb zt zc X 6 0 0 (MQ zb (va_Qi (fun r w1 => ∃ st1 pt1 lk1 tb1 rk1 sp1, w1 = m_w X w tE cnt wd (nI n) st1 pt1 lk1 tb1 rk1 sp1 ∧ ((r = 0 ∧ ¬ lk_f wd n = 0 ∧ rk1 = 0) ∨ (r = 1 ∧ lk_f wd n = 0 ∧ ¬ rk1 = 0 ∧ sv_f tb1 0 (cn_f T wd 12 0)))) (pw_B X) (pw_F X)) za zs 0 0 (pw_F X)) (m_w X w tE cnt wd (nI n) st0 (nI parts) lk0 tb0 rk sp0) 27 [some (.ref (pw_a X 20 0)), some (.int (nI s)), some (.int (nI t1 - 1)), none, none, none] [] := by
    intro st0 lk0 parts hp40 hst d
    induction d with
    | zero => intro a t b t1 h; exact h.elim
    | succ d ih =>
      intro a t b t1 htr ha ht1 s hs tb0 sp0 hcont
      have hlt := tr_lt wd n (d + 1) a t b t1 htr
      obtain ⟨han, hw0, hw7, h1, h2, h3⟩ := htr
      have hstt : st0 t = nI a := by rw [hst t (by omega), ha]
      have hnp1 : ¬ (wd a = 0 ∨ wd a = 7) → a + 1 = np_f wd (t + 1) := fun c => by
        show _ = if wd (np_f wd t) = 0 ∨ wd (np_f wd t) = 7 then np_f wd t + 2 else np_f wd t + 1
        rw [← ha, if_neg c]
      by_cases c : wd a = 0 ∨ wd a = 7
      · obtain ⟨ha1, hbe, ht1e, u, hu, hwu⟩ := h1 c
        subst ht1e
        rw [nI_pred]
        by_cases c0 : wd a = 0
        · have hu8 : u < 8 := by rw [if_pos c0] at hu; exact hu
          refine pw_iload_n C d_MO_reckon_27 rfl ?_
          refine pw_if_lt C 261 d_MO_reckon_28 (by decide) (fun h28 => ?_) (fun h28 => ?_)
          · exact absurd h28 (nI_pos (by omega))
          refine pw_aload_n C d_MO_reckon_31 rfl ?_
          refine pw_get C d_MO_reckon_32 (hX 20 0 rfl) rfl 2 rfl rfl (by decide) in_MO W_345 rfl ?_
          refine pw_aload_n C d_MO_reckon_35 rfl ?_
          refine pw_get C d_MO_reckon_36 (hX 20 0 rfl) rfl 4 rfl rfl (by decide) in_MO W_347 rfl ?_
          refine pw_iload_n C d_MO_reckon_39 rfl ?_
          refine pw_ialdK C d_MO_reckon_40 (hX 23 0 rfl) rfl (by omega) ?_
          rw [hstt]
          refine pw_ialdK C d_MO_reckon_41 (hX 22 0 rfl) rfl (by omega) ?_
          refine pw_istore_n C d_MO_reckon_42 (by decide) ?_
          refine pw_sipush C d_MO_reckon_43 (v := 4096) (by decide) ?_
          refine pw_iload_n C d_MO_reckon_46 rfl ?_
          refine pw_iconst C d_MO_reckon_47 (v := 1) (by decide) ?_
          refine pw_isub C d_MO_reckon_48 ?_
          refine pw_imul C d_MO_reckon_49 ?_
          refine pw_istore C d_MO_reckon_50 (by decide) ?_
          refine pw_iload_n C d_MO_reckon_52 rfl ?_
          refine pw_if_eq C 62 d_MO_reckon_53 (by decide) (fun h53 => ?_) (fun h53 => ?_)
          · refine pw_aload_n C d_MO_reckon_62 rfl ?_
            refine pw_get C d_MO_reckon_63 (hX 20 0 rfl) rfl 2 rfl rfl (by decide) in_MO W_345 rfl ?_
            refine pw_aload_n C d_MO_reckon_66 rfl ?_
            refine pw_get C d_MO_reckon_67 (hX 20 0 rfl) rfl 4 rfl rfl (by decide) in_MO W_347 rfl ?_
            refine pw_iload_n C d_MO_reckon_70 rfl ?_
            refine pw_ialdK C d_MO_reckon_71 (hX 23 0 rfl) rfl (by omega) ?_
            refine pw_iconst C d_MO_reckon_72 (v := 1) (by decide) ?_
            refine pw_iadd C d_MO_reckon_73 ?_
            rw [hstt, nI_1]
            refine pw_ialdK C d_MO_reckon_74 (hX 22 0 rfl) rfl (by omega) ?_
            rw [hwu]
            refine pw_istore C d_MO_reckon_75 (by decide) ?_
            refine pw_aload_n C d_MO_reckon_77 rfl ?_
            refine pw_sipush C d_MO_reckon_78 (v := 4096) (by decide) ?_
            refine pw_iload_n C d_MO_reckon_81 rfl ?_
            refine pw_imul C d_MO_reckon_82 ?_
            refine pw_iload_n C d_MO_reckon_83 rfl ?_
            refine pw_if_ne C 94 d_MO_reckon_84 (by decide) (fun h84 => ?_) (fun h84 => ?_)
            · exact absurd c0 h84
            refine pw_iconst C d_MO_reckon_87 (v := 1) (by decide) ?_
            refine pw_iload C d_MO_reckon_88 rfl ?_
            refine pw_ishl C d_MO_reckon_90 ?_
            refine pw_goto C 102 d_MO_reckon_91 (by decide) ?_
            rw [show (4096 : Int32) * nI s = nI (4096 * s) from pk_mul 4096 s]
            refine pw_callVv C (k_MO_edgesOf l hI hX w (a := 4096 * s) (by omega) _) (hX 20 0 rfl) rfl rfl ⟨pw_cb C 2 W_424 W_6 W_421 ⟨rfl, rfl⟩ (by decide +kernel) ⟨(Nat.le_of_ble_eq_true rfl), (Nat.le_of_ble_eq_true rfl)⟩, pw_w C W_423, pw_w C V_18⟩ rfl rfl (Nat.le_of_ble_eq_true rfl) d_MO_reckon_102 ⟨Nat.zero_le _, Nat.zero_le _⟩ (fun w9 hp9 => ?_)
            obtain ⟨t2, rfl, g1, g2⟩ := hp9
            refine pw_iinc1 C d_MO_reckon_105 rfl (by decide) ?_
            refine pw_goto C 255 d_MO_reckon_108 (by decide) ?_
            refine pw_iinc C d_MO_reckon_255 rfl (by decide) ?_
            refine pw_goto C 27 d_MO_reckon_258 (by decide) ?_
            rw [show Int32.ofInt (-1) = -1 from by decide, ← Int32.sub_eq_add_neg]
            refine MW.less (lv' := [some (.ref (pw_a X 20 0)), some (.int (nI (s + 1))), some (.int (nI t - 1)), none, none, none]) (by intro i v h; rcases i with _ | _ | _ | _ | _ | _ | i <;> first | exact h | (simp at h)) (hcont t2 sp0 (fun x hx y hy => ?_) (fun z hz => g2 z (Or.inl hz)))
            rw [show 4096 * s + 64 * x + y = 4096 * s + (64 * x + y) by omega, g1 (64 * x + y) (by omega), lb_sum hTE (lb_c0 u hu8) hx hy]
            have e : cn_f T wd (d + 1) a x y = me_f false ((1 : Int32) <<< (nI u &&& 31)) T x y := (if_pos c).trans (by rw [hwu]; congr 1; exact if_pos c0)
            rw [e, cp_id (me_le _ _ _ _)]
          · exact absurd c0 h53
        · have n0 : ¬ wd a = 0 := c0
          have c7 : wd a = 7 := c.elim (fun q => absurd q c0) id
          have hu8 : u < 256 := by rw [if_neg c0] at hu; exact hu
          refine pw_iload_n C d_MO_reckon_27 rfl ?_
          refine pw_if_lt C 261 d_MO_reckon_28 (by decide) (fun h28 => ?_) (fun h28 => ?_)
          · exact absurd h28 (nI_pos (by omega))
          refine pw_aload_n C d_MO_reckon_31 rfl ?_
          refine pw_get C d_MO_reckon_32 (hX 20 0 rfl) rfl 2 rfl rfl (by decide) in_MO W_345 rfl ?_
          refine pw_aload_n C d_MO_reckon_35 rfl ?_
          refine pw_get C d_MO_reckon_36 (hX 20 0 rfl) rfl 4 rfl rfl (by decide) in_MO W_347 rfl ?_
          refine pw_iload_n C d_MO_reckon_39 rfl ?_
          refine pw_ialdK C d_MO_reckon_40 (hX 23 0 rfl) rfl (by omega) ?_
          rw [hstt]
          refine pw_ialdK C d_MO_reckon_41 (hX 22 0 rfl) rfl (by omega) ?_
          refine pw_istore_n C d_MO_reckon_42 (by decide) ?_
          refine pw_sipush C d_MO_reckon_43 (v := 4096) (by decide) ?_
          refine pw_iload_n C d_MO_reckon_46 rfl ?_
          refine pw_iconst C d_MO_reckon_47 (v := 1) (by decide) ?_
          refine pw_isub C d_MO_reckon_48 ?_
          refine pw_imul C d_MO_reckon_49 ?_
          refine pw_istore C d_MO_reckon_50 (by decide) ?_
          refine pw_iload_n C d_MO_reckon_52 rfl ?_
          refine pw_if_eq C 62 d_MO_reckon_53 (by decide) (fun h53 => ?_) (fun h53 => ?_)
          · exact absurd h53 n0
          refine pw_iload_n C d_MO_reckon_56 rfl ?_
          refine pw_bipush C d_MO_reckon_57 (v := 7) (by decide) ?_
          refine pw_icmp_ne C 111 d_MO_reckon_59 (by decide) (fun h59 => ?_) (fun h59 => ?_)
          · exact absurd c7 h59
          refine pw_aload_n C d_MO_reckon_62 rfl ?_
          refine pw_get C d_MO_reckon_63 (hX 20 0 rfl) rfl 2 rfl rfl (by decide) in_MO W_345 rfl ?_
          refine pw_aload_n C d_MO_reckon_66 rfl ?_
          refine pw_get C d_MO_reckon_67 (hX 20 0 rfl) rfl 4 rfl rfl (by decide) in_MO W_347 rfl ?_
          refine pw_iload_n C d_MO_reckon_70 rfl ?_
          refine pw_ialdK C d_MO_reckon_71 (hX 23 0 rfl) rfl (by omega) ?_
          refine pw_iconst C d_MO_reckon_72 (v := 1) (by decide) ?_
          refine pw_iadd C d_MO_reckon_73 ?_
          rw [hstt, nI_1]
          refine pw_ialdK C d_MO_reckon_74 (hX 22 0 rfl) rfl (by omega) ?_
          rw [hwu]
          refine pw_istore C d_MO_reckon_75 (by decide) ?_
          refine pw_aload_n C d_MO_reckon_77 rfl ?_
          refine pw_sipush C d_MO_reckon_78 (v := 4096) (by decide) ?_
          refine pw_iload_n C d_MO_reckon_81 rfl ?_
          refine pw_imul C d_MO_reckon_82 ?_
          refine pw_iload_n C d_MO_reckon_83 rfl ?_
          refine pw_if_ne C 94 d_MO_reckon_84 (by decide) (fun h84 => ?_) (fun h84 => ?_)
          · refine pw_sipush C d_MO_reckon_94 (v := 255) (by decide) ?_
            refine pw_iload C d_MO_reckon_97 rfl ?_
            refine pw_iconst C d_MO_reckon_99 (v := -1) (by decide) ?_
            refine pw_ixor C d_MO_reckon_100 ?_
            refine pw_iand C d_MO_reckon_101 ?_
            rw [show (4096 : Int32) * nI s = nI (4096 * s) from pk_mul 4096 s, lb_e7 u hu8]
            refine pw_callVv C (k_MO_edgesOf l hI hX w (a := 4096 * s) (by omega) _) (hX 20 0 rfl) rfl rfl ⟨pw_cb C 2 W_424 W_6 W_421 ⟨rfl, rfl⟩ (by decide +kernel) ⟨(Nat.le_of_ble_eq_true rfl), (Nat.le_of_ble_eq_true rfl)⟩, pw_w C W_423, pw_w C V_18⟩ rfl rfl (Nat.le_of_ble_eq_true rfl) d_MO_reckon_102 ⟨Nat.zero_le _, Nat.zero_le _⟩ (fun w9 hp9 => ?_)
            obtain ⟨t2, rfl, g1, g2⟩ := hp9
            refine pw_iinc1 C d_MO_reckon_105 rfl (by decide) ?_
            refine pw_goto C 255 d_MO_reckon_108 (by decide) ?_
            refine pw_iinc C d_MO_reckon_255 rfl (by decide) ?_
            refine pw_goto C 27 d_MO_reckon_258 (by decide) ?_
            rw [show Int32.ofInt (-1) = -1 from by decide, ← Int32.sub_eq_add_neg]
            refine MW.less (lv' := [some (.ref (pw_a X 20 0)), some (.int (nI (s + 1))), some (.int (nI t - 1)), none, none, none]) (by intro i v h; rcases i with _ | _ | _ | _ | _ | _ | i <;> first | exact h | (simp at h)) (hcont t2 sp0 (fun x hx y hy => ?_) (fun z hz => g2 z (Or.inl hz)))
            rw [show 4096 * s + 64 * x + y = 4096 * s + (64 * x + y) by omega, g1 (64 * x + y) (by omega), lb_sum hTE (lb_c7 u hu8) hx hy]
            have e : cn_f T wd (d + 1) a x y = me_f false (255 - nI u) T x y := (if_pos c).trans (by rw [hwu]; congr 1; exact if_neg n0)
            rw [e, cp_id (me_le _ _ _ _)]
          · exact absurd h84 n0
      · have n0 : ¬ wd a = 0 := fun q => c (Or.inl q)
        have n7 : ¬ wd a = 7 := fun q => c (Or.inr q)
        by_cases c2 : wd a = 2 ∨ wd a = 3
        · obtain ⟨b1, t2, k1, k2⟩ := h2 c c2
          have hd1 : 1 ≤ d := Nat.pos_of_ne_zero (fun q => by subst q; exact k1)
          have l1 := tr_lt wd n d _ _ _ _ k1
          have l2 := tr_lt wd n d _ _ _ _ k2
          obtain ⟨e1, f1⟩ := tr_np wd n d _ _ _ _ k1 (hnp1 c)
          have n1 : ¬ wd a = 1 := fun q => by rw [q] at c2; exact absurd c2 (by decide)
          refine ih b1 t2 b t1 k2 e1 ht1 s (by omega) tb0 sp0 (fun tb1 sp1 sv1 fr1 => ?_)
          refine ih (a + 1) (t + 1) b1 t2 k1 (hnp1 c) (by omega) (s + 1) (by omega) tb1 sp1 (fun tb2 sp2 sv2 fr2 => ?_)
          have sv1b : sv_f tb2 s (cn_f T wd d b1) := fun x hx y hy => by rw [fr2 _ (by omega)]; exact sv1 x hx y hy
          rw [nI_pred]
          by_cases c3 : wd a = 2
          · skip
            refine pw_iload_n C d_MO_reckon_27 rfl ?_
            refine pw_if_lt C 261 d_MO_reckon_28 (by decide) (fun h28 => ?_) (fun h28 => ?_)
            · exact absurd h28 (nI_pos (by omega))
            refine pw_aload_n C d_MO_reckon_31 rfl ?_
            refine pw_get C d_MO_reckon_32 (hX 20 0 rfl) rfl 2 rfl rfl (by decide) in_MO W_345 rfl ?_
            refine pw_aload_n C d_MO_reckon_35 rfl ?_
            refine pw_get C d_MO_reckon_36 (hX 20 0 rfl) rfl 4 rfl rfl (by decide) in_MO W_347 rfl ?_
            refine pw_iload_n C d_MO_reckon_39 rfl ?_
            refine pw_ialdK C d_MO_reckon_40 (hX 23 0 rfl) rfl (by omega) ?_
            rw [hstt]
            refine pw_ialdK C d_MO_reckon_41 (hX 22 0 rfl) rfl (by omega) ?_
            refine pw_istore_n C d_MO_reckon_42 (by decide) ?_
            refine pw_sipush C d_MO_reckon_43 (v := 4096) (by decide) ?_
            refine pw_iload_n C d_MO_reckon_46 rfl ?_
            refine pw_iconst C d_MO_reckon_47 (v := 1) (by decide) ?_
            refine pw_isub C d_MO_reckon_48 ?_
            refine pw_imul C d_MO_reckon_49 ?_
            rw [show nI (s + 1 + 1) - 1 = nI (s + 1) from nI_pred (s + 1), show (4096 : Int32) * nI (s + 1) = nI (4096 * (s + 1)) from pk_mul 4096 (s + 1)]
            refine pw_istore C d_MO_reckon_50 (by decide) ?_
            refine pw_iload_n C d_MO_reckon_52 rfl ?_
            refine pw_if_eq C 62 d_MO_reckon_53 (by decide) (fun h53 => ?_) (fun h53 => ?_)
            · exact absurd h53 n0
            refine pw_iload_n C d_MO_reckon_56 rfl ?_
            refine pw_bipush C d_MO_reckon_57 (v := 7) (by decide) ?_
            refine pw_icmp_ne C 111 d_MO_reckon_59 (by decide) (fun h59 => ?_) (fun h59 => ?_)
            · refine pw_iload_n C d_MO_reckon_111 rfl ?_
              refine pw_iconst C d_MO_reckon_112 (v := 1) (by decide) ?_
              refine pw_icmp_ne C 125 d_MO_reckon_113 (by decide) (fun h113 => ?_) (fun h113 => ?_)
              · refine pw_iload_n C d_MO_reckon_125 rfl ?_
                refine pw_iconst C d_MO_reckon_126 (v := 2) (by decide) ?_
                refine pw_icmp_ne C 154 d_MO_reckon_127 (by decide) (fun h127 => ?_) (fun h127 => ?_)
                · exact absurd c3 h127
                refine pw_aload_n C d_MO_reckon_130 rfl ?_
                refine pw_iload C d_MO_reckon_131 rfl ?_
                refine pw_iload C d_MO_reckon_133 rfl ?_
                refine pw_sipush C d_MO_reckon_135 (v := 4096) (by decide) ?_
                refine pw_isub C d_MO_reckon_138 ?_
                rw [show nI (4096 * (s + 1)) - 4096 = nI (4096 * s) from by rw [show (4096 : Int32) = nI 4096 from rfl, pk_sub (by omega)]; congr 1]
                refine pw_callVv C (k_MO_chain l hI hX w (a := 4096 * (s + 1)) (b := 4096 * s) (by omega) (by omega) (fun x hx y hy => ⟨sv2 x hx y hy, cp_le _⟩) (fun x hx y hy => ⟨sv1b x hx y hy, cp_le _⟩)) (hX 20 0 rfl) rfl rfl ⟨pw_cb C 2 W_432 W_6 W_429 ⟨rfl, rfl⟩ (by decide +kernel) ⟨(Nat.le_of_ble_eq_true rfl), (Nat.le_of_ble_eq_true rfl)⟩, pw_w C W_431, pw_w C V_20⟩ rfl rfl (Nat.le_of_ble_eq_true rfl) d_MO_reckon_139 ⟨Nat.zero_le _, Nat.zero_le _⟩ (fun w9 hp9 => ?_)
                obtain ⟨t4, s4, rfl, g1, g2⟩ := hp9
                refine pw_aload_n C d_MO_reckon_142 rfl ?_
                refine pw_iload C d_MO_reckon_143 rfl ?_
                rw [show nI (4096 * (s + 1)) = nI (4096 * s + 4096) from by congr 1]
                refine pw_callVv C (k_MO_fall l hI hX w (a := 4096 * s) (by omega)) (hX 20 0 rfl) rfl rfl ⟨pw_cb C 1 W_443 W_6 W_440 ⟨rfl, rfl⟩ (by decide +kernel) ⟨(Nat.le_of_ble_eq_true rfl), (Nat.le_of_ble_eq_true rfl)⟩, pw_w C W_442, pw_w C V_21⟩ rfl rfl (Nat.le_of_ble_eq_true rfl) d_MO_reckon_145 ⟨Nat.zero_le _, Nat.zero_le _⟩ (fun w8 hp8 => ?_)
                obtain ⟨t5, rfl, g3, g4⟩ := hp8
                refine pw_iinc C d_MO_reckon_148 rfl (by decide) ?_
                rw [show nI (s + 1 + 1) + Int32.ofInt (-1) = nI (s + 1) from by rw [show Int32.ofInt (-1) = -1 from by decide]; exact pk_m1 (s + 1)]
                refine pw_goto C 255 d_MO_reckon_151 (by decide) ?_
                refine pw_iinc C d_MO_reckon_255 rfl (by decide) ?_
                refine pw_goto C 27 d_MO_reckon_258 (by decide) ?_
                rw [show Int32.ofInt (-1) = -1 from by decide, ← Int32.sub_eq_add_neg]
                refine MW.less (lv' := [some (.ref (pw_a X 20 0)), some (.int (nI (s + 1))), some (.int (nI t - 1)), none, none, none]) (by intro i v h; rcases i with _ | _ | _ | _ | _ | _ | i <;> first | exact h | (simp at h)) (hcont t5 s4 (fun x hx y hy => ?_) (fun z hz => by rw [g4 z (Or.inl hz), g2 z (Or.inl (by omega)), fr2 z (by omega), fr1 z hz]))
                rw [show 4096 * s + 64 * x + y = 4096 * s + (64 * x + y) by omega, g3 (64 * x + y) (by omega), show 4096 * s + 4096 + (64 * x + y) = 4096 * (s + 1) + 64 * x + y by omega, g1 x hx y hy]
                have e : cn_f T wd (d + 1) a x y = sg_f (fun z => cn_f T wd d (a + 1) x z * cn_f T wd d b1 z y) 64 := (if_neg c).trans ((if_neg n1).trans ((if_pos c3).trans (by rw [f1])))
                rw [e]
                have q1 := cp_sg (fun z => cn_f T wd d (a + 1) x z) (fun z => cp_f (cn_f T wd d b1 z y)) 0 64
                have q2 := cp_sg (fun z => cn_f T wd d b1 z y) (fun z => cn_f T wd d (a + 1) x z) 0 64
                rw [Nat.zero_add, Nat.zero_add] at q1 q2
                rw [q1, sg_congr (g := fun z => cp_f (cn_f T wd d b1 z y) * cn_f T wd d (a + 1) x z) (fun z _ => Nat.mul_comm _ _), q2]
                congr 2
                exact sg_congr (fun z _ => Nat.mul_comm _ _)
              · exact absurd h113 n1
            · exact absurd h59 n7
          · have c4 : wd a = 3 := c2.elim (fun q => absurd q c3) id
            refine pw_iload_n C d_MO_reckon_27 rfl ?_
            refine pw_if_lt C 261 d_MO_reckon_28 (by decide) (fun h28 => ?_) (fun h28 => ?_)
            · exact absurd h28 (nI_pos (by omega))
            refine pw_aload_n C d_MO_reckon_31 rfl ?_
            refine pw_get C d_MO_reckon_32 (hX 20 0 rfl) rfl 2 rfl rfl (by decide) in_MO W_345 rfl ?_
            refine pw_aload_n C d_MO_reckon_35 rfl ?_
            refine pw_get C d_MO_reckon_36 (hX 20 0 rfl) rfl 4 rfl rfl (by decide) in_MO W_347 rfl ?_
            refine pw_iload_n C d_MO_reckon_39 rfl ?_
            refine pw_ialdK C d_MO_reckon_40 (hX 23 0 rfl) rfl (by omega) ?_
            rw [hstt]
            refine pw_ialdK C d_MO_reckon_41 (hX 22 0 rfl) rfl (by omega) ?_
            refine pw_istore_n C d_MO_reckon_42 (by decide) ?_
            refine pw_sipush C d_MO_reckon_43 (v := 4096) (by decide) ?_
            refine pw_iload_n C d_MO_reckon_46 rfl ?_
            refine pw_iconst C d_MO_reckon_47 (v := 1) (by decide) ?_
            refine pw_isub C d_MO_reckon_48 ?_
            refine pw_imul C d_MO_reckon_49 ?_
            rw [show nI (s + 1 + 1) - 1 = nI (s + 1) from nI_pred (s + 1), show (4096 : Int32) * nI (s + 1) = nI (4096 * (s + 1)) from pk_mul 4096 (s + 1)]
            refine pw_istore C d_MO_reckon_50 (by decide) ?_
            refine pw_iload_n C d_MO_reckon_52 rfl ?_
            refine pw_if_eq C 62 d_MO_reckon_53 (by decide) (fun h53 => ?_) (fun h53 => ?_)
            · exact absurd h53 n0
            refine pw_iload_n C d_MO_reckon_56 rfl ?_
            refine pw_bipush C d_MO_reckon_57 (v := 7) (by decide) ?_
            refine pw_icmp_ne C 111 d_MO_reckon_59 (by decide) (fun h59 => ?_) (fun h59 => ?_)
            · refine pw_iload_n C d_MO_reckon_111 rfl ?_
              refine pw_iconst C d_MO_reckon_112 (v := 1) (by decide) ?_
              refine pw_icmp_ne C 125 d_MO_reckon_113 (by decide) (fun h113 => ?_) (fun h113 => ?_)
              · refine pw_iload_n C d_MO_reckon_125 rfl ?_
                refine pw_iconst C d_MO_reckon_126 (v := 2) (by decide) ?_
                refine pw_icmp_ne C 154 d_MO_reckon_127 (by decide) (fun h127 => ?_) (fun h127 => ?_)
                · refine pw_iload_n C d_MO_reckon_154 rfl ?_
                  refine pw_iconst C d_MO_reckon_155 (v := 3) (by decide) ?_
                  refine pw_icmp_ne C 224 d_MO_reckon_156 (by decide) (fun h156 => ?_) (fun h156 => ?_)
                  · exact absurd c4 h156
                  refine pw_iconst C d_MO_reckon_159 (v := 0) (by decide) ?_
                  refine pw_istore C d_MO_reckon_160 (by decide) ?_
                  refine L3 st0 lk0 parts s t a sp2 tb2 (fun i => cp_f (cn_f T wd d b1 (i / 64) (i % 64))) (fun i => cp_f (cn_f T wd d (a + 1) (i / 64) (i % 64))) (by omega) (fun i hi => ⟨?_, cp_le _⟩) (fun i hi => ⟨?_, cp_le _⟩) ?_ 4096 0 rfl tb2 (fun i hi => ?_) (fun z _ => rfl)
                  · rw [← sv1b (i / 64) (by omega) (i % 64) (by omega)]; congr 1; omega
                  · rw [← sv2 (i / 64) (by omega) (i % 64) (by omega)]; congr 1; omega
                  · intro t5 g1 g2
                    refine pw_iinc C d_MO_reckon_218 rfl (by decide) ?_
                    rw [show nI (s + 2) + Int32.ofInt (-1) = nI (s + 1) from by rw [show Int32.ofInt (-1) = -1 from by decide]; exact pk_m1 (s + 1)]
                    refine pw_goto C 255 d_MO_reckon_221 (by decide) ?_
                    refine pw_iinc C d_MO_reckon_255 rfl (by decide) ?_
                    refine pw_goto C 27 d_MO_reckon_258 (by decide) ?_
                    rw [show Int32.ofInt (-1) = -1 from by decide, ← Int32.sub_eq_add_neg]
                    refine MW.less (lv' := [some (.ref (pw_a X 20 0)), some (.int (nI (s + 1))), some (.int (nI t - 1)), none, none, none]) (by intro i v h; rcases i with _ | _ | _ | _ | _ | _ | i <;> first | exact h | (simp at h)) (hcont t5 sp2 (fun x hx y hy => ?_) (fun z hz => by rw [g2 z hz, fr2 z (by omega), fr1 z hz]))
                    rw [show 4096 * s + 64 * x + y = 4096 * s + (64 * x + y) by omega, g1 (64 * x + y) (by omega), show (64 * x + y) / 64 = x by omega, show (64 * x + y) % 64 = y by omega, cp_add, cp_add']
                    have e : cn_f T wd (d + 1) a x y = cn_f T wd d (a + 1) x y + cn_f T wd d b1 x y := (if_neg c).trans ((if_neg n1).trans ((if_neg c3).trans ((if_pos c4).trans (by rw [f1]))))
                    rw [e, Nat.add_comm]
                  · rw [if_neg (by omega), ← sv1b (i / 64) (by omega) (i % 64) (by omega)]; congr 1; omega
                · exact absurd h127 c3
              · exact absurd h113 n1
            · exact absurd h59 n7
        · have k1 := h3 c c2
          have l1 := tr_lt wd n d _ _ _ _ k1
          have n2 : ¬ wd a = 2 := fun q => c2 (Or.inl q)
          have n3 : ¬ wd a = 3 := fun q => c2 (Or.inr q)
          refine ih (a + 1) (t + 1) b t1 k1 (hnp1 c) ht1 s (by omega) tb0 sp0 (fun tb1 sp1 sv1 fr1 => ?_)
          rw [nI_pred]
          have hpos : ∀ x, x < 64 → ∀ y, y < 64 → (0 < tb1 (4096 * s + 64 * x + y) ↔ nz_f (cn_f T wd d (a + 1)) x y = true) := fun x hx y hy => by
            rw [sv1 x hx y hy, lN_p (cp_le _), cp_ne]
            unfold nz_f
            simp
          by_cases c1 : wd a = 1
          · skip
            refine pw_iload_n C d_MO_reckon_27 rfl ?_
            refine pw_if_lt C 261 d_MO_reckon_28 (by decide) (fun h28 => ?_) (fun h28 => ?_)
            · exact absurd h28 (nI_pos (by omega))
            refine pw_aload_n C d_MO_reckon_31 rfl ?_
            refine pw_get C d_MO_reckon_32 (hX 20 0 rfl) rfl 2 rfl rfl (by decide) in_MO W_345 rfl ?_
            refine pw_aload_n C d_MO_reckon_35 rfl ?_
            refine pw_get C d_MO_reckon_36 (hX 20 0 rfl) rfl 4 rfl rfl (by decide) in_MO W_347 rfl ?_
            refine pw_iload_n C d_MO_reckon_39 rfl ?_
            refine pw_ialdK C d_MO_reckon_40 (hX 23 0 rfl) rfl (by omega) ?_
            rw [hstt]
            refine pw_ialdK C d_MO_reckon_41 (hX 22 0 rfl) rfl (by omega) ?_
            refine pw_istore_n C d_MO_reckon_42 (by decide) ?_
            refine pw_sipush C d_MO_reckon_43 (v := 4096) (by decide) ?_
            refine pw_iload_n C d_MO_reckon_46 rfl ?_
            refine pw_iconst C d_MO_reckon_47 (v := 1) (by decide) ?_
            refine pw_isub C d_MO_reckon_48 ?_
            refine pw_imul C d_MO_reckon_49 ?_
            rw [show nI (s + 1) - 1 = nI s from nI_pred s, show (4096 : Int32) * nI s = nI (4096 * s) from pk_mul 4096 s]
            refine pw_istore C d_MO_reckon_50 (by decide) ?_
            refine pw_iload_n C d_MO_reckon_52 rfl ?_
            refine pw_if_eq C 62 d_MO_reckon_53 (by decide) (fun h53 => ?_) (fun h53 => ?_)
            · exact absurd h53 n0
            refine pw_iload_n C d_MO_reckon_56 rfl ?_
            refine pw_bipush C d_MO_reckon_57 (v := 7) (by decide) ?_
            refine pw_icmp_ne C 111 d_MO_reckon_59 (by decide) (fun h59 => ?_) (fun h59 => ?_)
            · refine pw_iload_n C d_MO_reckon_111 rfl ?_
              refine pw_iconst C d_MO_reckon_112 (v := 1) (by decide) ?_
              refine pw_icmp_ne C 125 d_MO_reckon_113 (by decide) (fun h113 => ?_) (fun h113 => ?_)
              · exact absurd c1 h113
              refine pw_aload_n C d_MO_reckon_116 rfl ?_
              refine pw_iload C d_MO_reckon_117 rfl ?_
              refine pw_callVv C (k_MO_turn l hI hX w (a := 4096 * s) (by omega)) (hX 20 0 rfl) rfl rfl ⟨pw_cb C 1 W_428 W_6 W_425 ⟨rfl, rfl⟩ (by decide +kernel) ⟨(Nat.le_of_ble_eq_true rfl), (Nat.le_of_ble_eq_true rfl)⟩, pw_w C W_427, pw_w C V_19⟩ rfl rfl (Nat.le_of_ble_eq_true rfl) d_MO_reckon_119 ⟨Nat.zero_le _, Nat.zero_le _⟩ (fun w9 hp9 => ?_)
              obtain ⟨t5, rfl, g1, g2⟩ := hp9
              refine pw_goto C 255 d_MO_reckon_122 (by decide) ?_
              refine pw_iinc C d_MO_reckon_255 rfl (by decide) ?_
              refine pw_goto C 27 d_MO_reckon_258 (by decide) ?_
              rw [show Int32.ofInt (-1) = -1 from by decide, ← Int32.sub_eq_add_neg]
              refine MW.less (lv' := [some (.ref (pw_a X 20 0)), some (.int (nI (s + 1))), some (.int (nI t - 1)), none, none, none]) (by intro i v h; rcases i with _ | _ | _ | _ | _ | _ | i <;> first | exact h | (simp at h)) (hcont t5 sp1 (fun x hx y hy => ?_) (fun z hz => by rw [g2 z (Or.inl hz), fr1 z hz]))
              rw [g1 x hx y hy, sv1 y hy x hx]
              have e : cn_f T wd (d + 1) a x y = cn_f T wd d (a + 1) y x := (if_neg c).trans (if_pos c1)
              rw [e]
            · exact absurd h59 n7
          · by_cases c4 : wd a = 4
            · skip
              refine pw_iload_n C d_MO_reckon_27 rfl ?_
              refine pw_if_lt C 261 d_MO_reckon_28 (by decide) (fun h28 => ?_) (fun h28 => ?_)
              · exact absurd h28 (nI_pos (by omega))
              refine pw_aload_n C d_MO_reckon_31 rfl ?_
              refine pw_get C d_MO_reckon_32 (hX 20 0 rfl) rfl 2 rfl rfl (by decide) in_MO W_345 rfl ?_
              refine pw_aload_n C d_MO_reckon_35 rfl ?_
              refine pw_get C d_MO_reckon_36 (hX 20 0 rfl) rfl 4 rfl rfl (by decide) in_MO W_347 rfl ?_
              refine pw_iload_n C d_MO_reckon_39 rfl ?_
              refine pw_ialdK C d_MO_reckon_40 (hX 23 0 rfl) rfl (by omega) ?_
              rw [hstt]
              refine pw_ialdK C d_MO_reckon_41 (hX 22 0 rfl) rfl (by omega) ?_
              refine pw_istore_n C d_MO_reckon_42 (by decide) ?_
              refine pw_sipush C d_MO_reckon_43 (v := 4096) (by decide) ?_
              refine pw_iload_n C d_MO_reckon_46 rfl ?_
              refine pw_iconst C d_MO_reckon_47 (v := 1) (by decide) ?_
              refine pw_isub C d_MO_reckon_48 ?_
              refine pw_imul C d_MO_reckon_49 ?_
              rw [show nI (s + 1) - 1 = nI s from nI_pred s, show (4096 : Int32) * nI s = nI (4096 * s) from pk_mul 4096 s]
              refine pw_istore C d_MO_reckon_50 (by decide) ?_
              refine pw_iload_n C d_MO_reckon_52 rfl ?_
              refine pw_if_eq C 62 d_MO_reckon_53 (by decide) (fun h53 => ?_) (fun h53 => ?_)
              · exact absurd h53 n0
              refine pw_iload_n C d_MO_reckon_56 rfl ?_
              refine pw_bipush C d_MO_reckon_57 (v := 7) (by decide) ?_
              refine pw_icmp_ne C 111 d_MO_reckon_59 (by decide) (fun h59 => ?_) (fun h59 => ?_)
              · refine pw_iload_n C d_MO_reckon_111 rfl ?_
                refine pw_iconst C d_MO_reckon_112 (v := 1) (by decide) ?_
                refine pw_icmp_ne C 125 d_MO_reckon_113 (by decide) (fun h113 => ?_) (fun h113 => ?_)
                · refine pw_iload_n C d_MO_reckon_125 rfl ?_
                  refine pw_iconst C d_MO_reckon_126 (v := 2) (by decide) ?_
                  refine pw_icmp_ne C 154 d_MO_reckon_127 (by decide) (fun h127 => ?_) (fun h127 => ?_)
                  · refine pw_iload_n C d_MO_reckon_154 rfl ?_
                    refine pw_iconst C d_MO_reckon_155 (v := 3) (by decide) ?_
                    refine pw_icmp_ne C 224 d_MO_reckon_156 (by decide) (fun h156 => ?_) (fun h156 => ?_)
                    · refine pw_iload_n C d_MO_reckon_224 rfl ?_
                      refine pw_iconst C d_MO_reckon_225 (v := 4) (by decide) ?_
                      refine pw_icmp_ne C 239 d_MO_reckon_226 (by decide) (fun h226 => ?_) (fun h226 => ?_)
                      · exact absurd c4 h226
                      refine pw_aload_n C d_MO_reckon_229 rfl ?_
                      refine pw_iload C d_MO_reckon_230 rfl ?_
                      refine pw_iconst C d_MO_reckon_232 (v := 1) (by decide) ?_
                      refine pw_callVv C (k_MO_mark l hI hX w (a := 4096 * s) (by omega) true) (hX 20 0 rfl) rfl rfl ⟨pw_cb C 2 W_447 W_6 W_444 ⟨rfl, rfl⟩ (by decide +kernel) ⟨(Nat.le_of_ble_eq_true rfl), (Nat.le_of_ble_eq_true rfl)⟩, pw_w C W_446, pw_w C V_22⟩ rfl rfl (Nat.le_of_ble_eq_true rfl) d_MO_reckon_233 ⟨Nat.zero_le _, Nat.zero_le _⟩ (fun w9 hp9 => ?_)
                      obtain ⟨t5, rfl, g1, g2⟩ := hp9
                      refine pw_goto C 255 d_MO_reckon_236 (by decide) ?_
                      refine pw_iinc C d_MO_reckon_255 rfl (by decide) ?_
                      refine pw_goto C 27 d_MO_reckon_258 (by decide) ?_
                      rw [show Int32.ofInt (-1) = -1 from by decide, ← Int32.sub_eq_add_neg]
                      refine MW.less (lv' := [some (.ref (pw_a X 20 0)), some (.int (nI (s + 1))), some (.int (nI t - 1)), none, none, none]) (by intro i v h; rcases i with _ | _ | _ | _ | _ | _ | i <;> first | exact h | (simp at h)) (hcont t5 sp1 (fun x hx y hy => ?_) (fun z hz => by rw [g2 z (Or.inl hz), fr1 z hz]))
                      rw [show 4096 * s + 64 * x + y = 4096 * s + (64 * x + y) by omega, g1 (64 * x + y) (by omega), show (64 * x + y) / 64 = x by omega, show (64 * x + y) % 64 = y by omega, show 4096 * s + (64 * x + y) = 4096 * s + 64 * x + y by omega]
                      have e : cn_f T wd (d + 1) a x y = if nz_f (cn_f T wd d (a + 1)) x y = true ∨ y = x then 1 else 0 := (if_neg c).trans ((if_neg c1).trans ((if_neg n2).trans ((if_neg n3).trans (if_pos c4))))
                      rw [e]
                      by_cases z1 : nz_f (cn_f T wd d (a + 1)) x y = true ∨ y = x
                      · rw [if_pos z1, if_pos (z1.elim (fun z => Or.inl ((hpos x hx y hy).mpr z)) (fun z => Or.inr ⟨rfl, z.symm⟩))]; decide
                      · rw [if_neg z1, if_neg (fun z => z1 (z.elim (fun z => Or.inl ((hpos x hx y hy).mp z)) (fun z => Or.inr z.2.symm)))]; decide
                    · exact absurd h156 n3
                  · exact absurd h127 n2
                · exact absurd h113 c1
              · exact absurd h59 n7
            · have hwz : ∀ (bb : Bool) x, x < 64 → ∀ y, y < 64 → wz_f (fun x y => decide (0 < tb1 (4096 * s + 64 * x + y)) || (bb && decide (x = y))) 64 x y = wz_f (fun x y => nz_f (cn_f T wd d (a + 1)) x y || (bb && decide (x = y))) 64 x y := fun bb x hx y hy => wz_congr (fun x hx y hy => by
                have := hpos x hx y hy
                by_cases z : 0 < tb1 (4096 * s + 64 * x + y)
                · rw [this.mp z, decide_eq_true z]
                · have z2 : nz_f (cn_f T wd d (a + 1)) x y = false := by
                    cases hb : nz_f (cn_f T wd d (a + 1)) x y with
                    | false => rfl
                    | true => exact absurd (this.mpr hb) z
                  rw [z2, decide_eq_false z]) 64 (Nat.le_refl 64) x hx y hy
              by_cases c5 : wd a = 5
              · skip
                refine pw_iload_n C d_MO_reckon_27 rfl ?_
                refine pw_if_lt C 261 d_MO_reckon_28 (by decide) (fun h28 => ?_) (fun h28 => ?_)
                · exact absurd h28 (nI_pos (by omega))
                refine pw_aload_n C d_MO_reckon_31 rfl ?_
                refine pw_get C d_MO_reckon_32 (hX 20 0 rfl) rfl 2 rfl rfl (by decide) in_MO W_345 rfl ?_
                refine pw_aload_n C d_MO_reckon_35 rfl ?_
                refine pw_get C d_MO_reckon_36 (hX 20 0 rfl) rfl 4 rfl rfl (by decide) in_MO W_347 rfl ?_
                refine pw_iload_n C d_MO_reckon_39 rfl ?_
                refine pw_ialdK C d_MO_reckon_40 (hX 23 0 rfl) rfl (by omega) ?_
                rw [hstt]
                refine pw_ialdK C d_MO_reckon_41 (hX 22 0 rfl) rfl (by omega) ?_
                refine pw_istore_n C d_MO_reckon_42 (by decide) ?_
                refine pw_sipush C d_MO_reckon_43 (v := 4096) (by decide) ?_
                refine pw_iload_n C d_MO_reckon_46 rfl ?_
                refine pw_iconst C d_MO_reckon_47 (v := 1) (by decide) ?_
                refine pw_isub C d_MO_reckon_48 ?_
                refine pw_imul C d_MO_reckon_49 ?_
                rw [show nI (s + 1) - 1 = nI s from nI_pred s, show (4096 : Int32) * nI s = nI (4096 * s) from pk_mul 4096 s]
                refine pw_istore C d_MO_reckon_50 (by decide) ?_
                refine pw_iload_n C d_MO_reckon_52 rfl ?_
                refine pw_if_eq C 62 d_MO_reckon_53 (by decide) (fun h53 => ?_) (fun h53 => ?_)
                · exact absurd h53 n0
                refine pw_iload_n C d_MO_reckon_56 rfl ?_
                refine pw_bipush C d_MO_reckon_57 (v := 7) (by decide) ?_
                refine pw_icmp_ne C 111 d_MO_reckon_59 (by decide) (fun h59 => ?_) (fun h59 => ?_)
                · refine pw_iload_n C d_MO_reckon_111 rfl ?_
                  refine pw_iconst C d_MO_reckon_112 (v := 1) (by decide) ?_
                  refine pw_icmp_ne C 125 d_MO_reckon_113 (by decide) (fun h113 => ?_) (fun h113 => ?_)
                  · refine pw_iload_n C d_MO_reckon_125 rfl ?_
                    refine pw_iconst C d_MO_reckon_126 (v := 2) (by decide) ?_
                    refine pw_icmp_ne C 154 d_MO_reckon_127 (by decide) (fun h127 => ?_) (fun h127 => ?_)
                    · refine pw_iload_n C d_MO_reckon_154 rfl ?_
                      refine pw_iconst C d_MO_reckon_155 (v := 3) (by decide) ?_
                      refine pw_icmp_ne C 224 d_MO_reckon_156 (by decide) (fun h156 => ?_) (fun h156 => ?_)
                      · refine pw_iload_n C d_MO_reckon_224 rfl ?_
                        refine pw_iconst C d_MO_reckon_225 (v := 4) (by decide) ?_
                        refine pw_icmp_ne C 239 d_MO_reckon_226 (by decide) (fun h226 => ?_) (fun h226 => ?_)
                        · refine pw_aload_n C d_MO_reckon_239 rfl ?_
                          refine pw_iload C d_MO_reckon_240 rfl ?_
                          refine pw_iload_n C d_MO_reckon_242 rfl ?_
                          refine pw_iconst C d_MO_reckon_243 (v := 5) (by decide) ?_
                          refine pw_icmp_ne C 251 d_MO_reckon_244 (by decide) (fun h244 => ?_) (fun h244 => ?_)
                          · exact absurd c5 h244
                          refine pw_iconst C d_MO_reckon_247 (v := 1) (by decide) ?_
                          refine pw_goto C 252 d_MO_reckon_248 (by decide) ?_
                          refine pw_callVv C (k_MO_close l hI hX w (a := 4096 * s) (by omega) true) (hX 20 0 rfl) rfl rfl ⟨pw_cb C 2 W_451 W_6 W_448 ⟨rfl, rfl⟩ (by decide +kernel) ⟨(Nat.le_of_ble_eq_true rfl), (Nat.le_of_ble_eq_true rfl)⟩, pw_w C W_450, pw_w C V_23⟩ rfl rfl (Nat.le_of_ble_eq_true rfl) d_MO_reckon_252 ⟨Nat.zero_le _, Nat.zero_le _⟩ (fun w9 hp9 => ?_)
                          obtain ⟨t5, rfl, g1, g2⟩ := hp9
                          refine pw_iinc C d_MO_reckon_255 rfl (by decide) ?_
                          refine pw_goto C 27 d_MO_reckon_258 (by decide) ?_
                          rw [show Int32.ofInt (-1) = -1 from by decide, ← Int32.sub_eq_add_neg]
                          refine MW.less (lv' := [some (.ref (pw_a X 20 0)), some (.int (nI (s + 1))), some (.int (nI t - 1)), none, none, none]) (by intro i v h; rcases i with _ | _ | _ | _ | _ | _ | i <;> first | exact h | (simp at h)) (hcont t5 sp1 (fun x hx y hy => ?_) (fun z hz => by rw [g2 z (Or.inl hz), fr1 z hz]))
                          rw [g1 x hx y hy, hwz true x hx y hy]
                          have e : cn_f T wd (d + 1) a x y = if wz_f (nz_f (cn_f T wd d (a + 1))) 64 x y = true ∨ y = x then 1 else 0 := (if_neg c).trans ((if_neg c1).trans ((if_neg n2).trans ((if_neg n3).trans ((if_neg c4).trans (if_pos c5)))))
                          rw [e]
                          exact v1_eq (wz_refl (nz_f (cn_f T wd d (a + 1))) hx hy)
                        · exact absurd h226 c4
                      · exact absurd h156 n3
                    · exact absurd h127 n2
                  · exact absurd h113 c1
                · exact absurd h59 n7
              · skip
                refine pw_iload_n C d_MO_reckon_27 rfl ?_
                refine pw_if_lt C 261 d_MO_reckon_28 (by decide) (fun h28 => ?_) (fun h28 => ?_)
                · exact absurd h28 (nI_pos (by omega))
                refine pw_aload_n C d_MO_reckon_31 rfl ?_
                refine pw_get C d_MO_reckon_32 (hX 20 0 rfl) rfl 2 rfl rfl (by decide) in_MO W_345 rfl ?_
                refine pw_aload_n C d_MO_reckon_35 rfl ?_
                refine pw_get C d_MO_reckon_36 (hX 20 0 rfl) rfl 4 rfl rfl (by decide) in_MO W_347 rfl ?_
                refine pw_iload_n C d_MO_reckon_39 rfl ?_
                refine pw_ialdK C d_MO_reckon_40 (hX 23 0 rfl) rfl (by omega) ?_
                rw [hstt]
                refine pw_ialdK C d_MO_reckon_41 (hX 22 0 rfl) rfl (by omega) ?_
                refine pw_istore_n C d_MO_reckon_42 (by decide) ?_
                refine pw_sipush C d_MO_reckon_43 (v := 4096) (by decide) ?_
                refine pw_iload_n C d_MO_reckon_46 rfl ?_
                refine pw_iconst C d_MO_reckon_47 (v := 1) (by decide) ?_
                refine pw_isub C d_MO_reckon_48 ?_
                refine pw_imul C d_MO_reckon_49 ?_
                rw [show nI (s + 1) - 1 = nI s from nI_pred s, show (4096 : Int32) * nI s = nI (4096 * s) from pk_mul 4096 s]
                refine pw_istore C d_MO_reckon_50 (by decide) ?_
                refine pw_iload_n C d_MO_reckon_52 rfl ?_
                refine pw_if_eq C 62 d_MO_reckon_53 (by decide) (fun h53 => ?_) (fun h53 => ?_)
                · exact absurd h53 n0
                refine pw_iload_n C d_MO_reckon_56 rfl ?_
                refine pw_bipush C d_MO_reckon_57 (v := 7) (by decide) ?_
                refine pw_icmp_ne C 111 d_MO_reckon_59 (by decide) (fun h59 => ?_) (fun h59 => ?_)
                · refine pw_iload_n C d_MO_reckon_111 rfl ?_
                  refine pw_iconst C d_MO_reckon_112 (v := 1) (by decide) ?_
                  refine pw_icmp_ne C 125 d_MO_reckon_113 (by decide) (fun h113 => ?_) (fun h113 => ?_)
                  · refine pw_iload_n C d_MO_reckon_125 rfl ?_
                    refine pw_iconst C d_MO_reckon_126 (v := 2) (by decide) ?_
                    refine pw_icmp_ne C 154 d_MO_reckon_127 (by decide) (fun h127 => ?_) (fun h127 => ?_)
                    · refine pw_iload_n C d_MO_reckon_154 rfl ?_
                      refine pw_iconst C d_MO_reckon_155 (v := 3) (by decide) ?_
                      refine pw_icmp_ne C 224 d_MO_reckon_156 (by decide) (fun h156 => ?_) (fun h156 => ?_)
                      · refine pw_iload_n C d_MO_reckon_224 rfl ?_
                        refine pw_iconst C d_MO_reckon_225 (v := 4) (by decide) ?_
                        refine pw_icmp_ne C 239 d_MO_reckon_226 (by decide) (fun h226 => ?_) (fun h226 => ?_)
                        · refine pw_aload_n C d_MO_reckon_239 rfl ?_
                          refine pw_iload C d_MO_reckon_240 rfl ?_
                          refine pw_iload_n C d_MO_reckon_242 rfl ?_
                          refine pw_iconst C d_MO_reckon_243 (v := 5) (by decide) ?_
                          refine pw_icmp_ne C 251 d_MO_reckon_244 (by decide) (fun h244 => ?_) (fun h244 => ?_)
                          · refine pw_iconst C d_MO_reckon_251 (v := 0) (by decide) ?_
                            refine pw_callVv C (k_MO_close l hI hX w (a := 4096 * s) (by omega) false) (hX 20 0 rfl) rfl rfl ⟨pw_cb C 2 W_451 W_6 W_448 ⟨rfl, rfl⟩ (by decide +kernel) ⟨(Nat.le_of_ble_eq_true rfl), (Nat.le_of_ble_eq_true rfl)⟩, pw_w C W_450, pw_w C V_23⟩ rfl rfl (Nat.le_of_ble_eq_true rfl) d_MO_reckon_252 ⟨Nat.zero_le _, Nat.zero_le _⟩ (fun w9 hp9 => ?_)
                            obtain ⟨t5, rfl, g1, g2⟩ := hp9
                            refine pw_iinc C d_MO_reckon_255 rfl (by decide) ?_
                            refine pw_goto C 27 d_MO_reckon_258 (by decide) ?_
                            rw [show Int32.ofInt (-1) = -1 from by decide, ← Int32.sub_eq_add_neg]
                            refine MW.less (lv' := [some (.ref (pw_a X 20 0)), some (.int (nI (s + 1))), some (.int (nI t - 1)), none, none, none]) (by intro i v h; rcases i with _ | _ | _ | _ | _ | _ | i <;> first | exact h | (simp at h)) (hcont t5 sp1 (fun x hx y hy => ?_) (fun z hz => by rw [g2 z (Or.inl hz), fr1 z hz]))
                            rw [g1 x hx y hy, hwz false x hx y hy]
                            have c6 : wd a = 6 := wd6 hw0 hw7 n0 c1 n2 n3 c4 c5 n7
                            have e : cn_f T wd (d + 1) a x y = if wz_f (nz_f (cn_f T wd d (a + 1))) 64 x y = true then 1 else 0 := (if_neg c).trans ((if_neg c1).trans ((if_neg n2).trans ((if_neg n3).trans ((if_neg c4).trans ((if_neg c5).trans (if_pos c6))))))
                            rw [e]
                            have ef : (fun x y => nz_f (cn_f T wd d (a + 1)) x y || (false && decide (x = y))) = nz_f (cn_f T wd d (a + 1)) := by funext x y; simp
                            rw [ef]
                            exact v1_eq Iff.rfl
                          · exact absurd h244 c5
                        · exact absurd h226 c4
                      · exact absurd h156 n3
                    · exact absurd h127 n2
                  · exact absurd h113 c1
                · exact absurd h59 n7
  refine pw_aload_n C d_MO_reckon_0 rfl ?_
  refine pw_get C d_MO_reckon_1 (hX 20 0 rfl) rfl 8 rfl rfl (by decide) in_MO W_351 rfl ?_
  refine pw_if_eq C 9 d_MO_reckon_4 (by decide) (fun h4 => ?_) (fun h4 => ?_)
  · refine pw_aload_n C d_MO_reckon_9 rfl ?_
    refine pw_callVi C (k_MO_look l hI hX w hn) (hX 20 0 rfl) rfl rfl ⟨pw_cb C 0 W_407 W_6 W_420 ⟨rfl, rfl⟩ (by decide +kernel) ⟨(Nat.le_of_ble_eq_true rfl), (Nat.le_of_ble_eq_true rfl)⟩, pw_w C W_405, pw_w C W_406⟩ rfl rfl (Nat.le_of_ble_eq_true rfl) d_MO_reckon_10 ⟨Nat.zero_le _, Nat.zero_le _⟩ (fun rl w2 hl => ?_)
    obtain ⟨st1, t1, lk1, rfl, hrl, hok⟩ := hl
    have hrlk : rl = lk_f wd n := by
      rw [hrl]
      unfold cd_f lk_f
      rcases rd_f wd n 12 0 0 with ⟨ok, b, t⟩
      cases ok <;> rfl
    refine pw_if_eq C 18 d_MO_reckon_13 (by decide) (fun h13 => ?_) (fun h13 => ?_)
    · refine pw_iconst C d_MO_reckon_18 (v := 0) (by decide) ?_
      refine pw_istore_n C d_MO_reckon_19 (by decide) ?_
      refine pw_aload_n C d_MO_reckon_20 rfl ?_
      refine pw_get C d_MO_reckon_21 (hX 20 0 rfl) rfl 5 rfl rfl (by decide) in_MO W_348 rfl ?_
      refine pw_iconst C d_MO_reckon_24 (v := 1) (by decide) ?_
      refine pw_isub C d_MO_reckon_25 ?_
      refine pw_istore_n C d_MO_reckon_26 (by decide) ?_
      have hl0 : lk_f wd n = 0 := by rw [← hrlk]; exact h13
      obtain ⟨b, t, hrd⟩ : ∃ b t, rd_f wd n 12 0 0 = (true, b, t) := by
        rcases hr : rd_f wd n 12 0 0 with ⟨ok, b, t⟩
        cases ok with
        | true => exact ⟨b, t, rfl⟩
        | false =>
          have hin := rd_in wd n 12 0 0 false b t hr (Nat.zero_le _) (by omega)
          unfold lk_f at hl0
          rw [hr] at hl0
          have h2 : (-100 - nI b : Int32) = 0 := hl0
          have := fc_neg b (by omega)
          rw [h2] at this
          exact absurd this (by decide)
      rw [hrd] at hok
      obtain ⟨ht, hst1⟩ := hok rfl
      have hin := rd_in wd n 12 0 0 true b t hrd (Nat.zero_le _) (by omega)
      have ht1 : t1 = t := ht
      subst ht1
      refine CL st1 lk1 t1 (by omega) hst1 12 0 0 b t1 (rd_tr wd n 12 0 0 b t1 hrd) rfl (Nat.le_refl t1) 0 (by omega) tb sp (fun tb1 sp1 sv1 _ => ?_)
      refine pw_iload_n C d_MO_reckon_27 rfl ?_
      refine pw_if_lt C 261 d_MO_reckon_28 (by decide) (fun h28 => ?_) (fun h28 => ?_)
      · refine pw_aload_n C d_MO_reckon_261 rfl ?_
        refine pw_iconst C d_MO_reckon_262 (v := 1) (by decide) ?_
        refine pw_put C d_MO_reckon_263 (hX 20 0 rfl) rfl 8 (Nat.le_of_ble_eq_true rfl) rfl (by decide) in_MO t_MO tk_MO n_MO W_351 rfl rfl (tk_MO 8 (by decide)) rfl rfl ?_
        refine MW.world m_u20 ?_
        refine pw_iconst C d_MO_reckon_266 (v := 1) (by decide) ?_
        refine pw_zret C zr (by first | rfl | decide) zk d_MO_reckon_267 ?_
        exact ⟨_, _, _, tb1, 1, sp1, rfl, Or.inr ⟨rfl, hl0, by decide, sv1⟩⟩
      · exact absurd (show nI 0 - 1 < 0 by decide) h28
    · refine pw_iconst C d_MO_reckon_16 (v := 0) (by decide) ?_
      refine pw_zret C zr (by first | rfl | decide) zk d_MO_reckon_17 ?_
      exact ⟨_, _, _, _, rk, _, rfl, Or.inl ⟨rfl, by rw [← hrlk]; exact h13, h4⟩⟩
  · refine pw_iconst C d_MO_reckon_7 (v := 1) (by decide) ?_
    refine pw_zret C zr (by first | rfl | decide) zk d_MO_reckon_8 ?_
    exact ⟨_, _, _, tb, rk, _, rfl, Or.inr ⟨rfl, (hrk h4).1, h4, (hrk h4).2⟩⟩
