/-! RELATIONS: fill, ofPath -/
theorem vu_ne {α : Type} {f : Nat → α} {k j : Nat} {v : α} (h : j ≠ k) : va_up f k v j = f j := if_neg h
theorem vu_self {α : Type} {f : Nat → α} {k : Nat} {v : α} : va_up f k v k = v := if_pos rfl
def r_w (X : Lay) (w : Wd) (R : Nat → Nat → Int64) : Wd := fun g i => if g = 11 ∧ i < 40 then aL X 64 (R i) else w g i
theorem r_get {X : Lay} {w : Wd} {R : Nat → Nat → Int64} {j : Nat} (h : j < 40) : r_w X w R 11 j = aL X 64 (R j) := if_pos ⟨rfl, h⟩
theorem r_row {X : Lay} {w : Wd} {R : Nat → Nat → Int64} {g : Nat} (h : g ≠ 11) : r_w X w R g = w g := funext fun i => if_neg (fun q => h q.1)
theorem r_up {X : Lay} {w : Wd} {R : Nat → Nat → Int64} {p : Nat} {f : Nat → Int64} (hp : p < 40) : pw_up (r_w X w R) 11 p (aL X 64 f) = r_w X w (va_up R p f) := by
  funext g i
  by_cases h : g = 11 ∧ i = p
  · obtain ⟨rfl, rfl⟩ := h
    rw [pw_up_self, r_get hp, vu_self]
  · rw [pw_up_ne _ _ h]
    by_cases h2 : g = 11 ∧ i < 40
    · obtain ⟨rfl, h3⟩ := h2
      rw [r_get h3, r_get h3, vu_ne (fun q => h ⟨rfl, q⟩)]
    · unfold r_w; rw [if_neg h2, if_neg h2]
theorem r_up9 {X : Lay} {w : Wd} {R : Nat → Nat → Int64} {g0 i0 : Nat} {e : va_E} (hg : g0 ≠ 11) : pw_up (r_w X w R) g0 i0 e = r_w X (pw_up w g0 i0 e) R := by
  funext g i
  by_cases h : g = g0 ∧ i = i0
  · obtain ⟨rfl, rfl⟩ := h
    rw [pw_up_self, r_row hg, pw_up_self]
  · rw [pw_up_ne _ _ h]
    by_cases h2 : g = 11 ∧ i < 40
    · unfold r_w; rw [if_pos h2, if_pos h2]
    · unfold r_w; rw [if_neg h2, if_neg h2, pw_up_ne _ _ h]
theorem r_id {X : Lay} {w : Wd} {R : Nat → Nat → Int64} (h : ∀ j, j < 40 → w 11 j = aL X 64 (R j)) : r_w X w R = w := by
  funext g i
  by_cases h2 : g = 11 ∧ i < 40
  · obtain ⟨rfl, h3⟩ := h2
    rw [r_get h3, h i h3]
  · unfold r_w; rw [if_neg h2]
/-- a part's relation out of the tables and the other parts' rows -/
def rl_f (T : Nat → Nat → Int64) (ks ls ss : Nat → Int32) (R : Nat → Nat → Int64) (p x y : Nat) : Prop :=
  ((ks p = 0 ∨ ks p = 7) ∧ ∃ b, b < 8 ∧ bt_f (ls p).toInt64 b = true ∧ bt_f (T b x) y = true) ∨ (¬ (ks p = 0 ∨ ks p = 7) ∧ rs_f (ks p) (R (p + 1)) (R (ss p).toNatClampNeg) x y)
theorem rl_up {T : Nat → Nat → Int64} {ks ls ss : Nat → Int32} {R : Nat → Nat → Int64} {parts p k : Nat} {f : Nat → Int64} (hfl : fl_f ks ss parts) (h40 : parts ≤ 40) (hp : p < parts) (hk : k ≤ p) (x y : Nat) : rl_f T ks ls ss (va_up R k f) p x y ↔ rl_f T ks ls ss R p x y := by
  unfold rl_f
  by_cases hl : ks p = 0 ∨ ks p = 7
  · simp [hl]
  · obtain ⟨h1, q, h2, h3, h4, h5⟩ := hfl p hp hl
    rw [h4, nI_clamp (by omega), vu_ne (show p + 1 ≠ k by omega)]
    by_cases hq : q = k
    · have hqp : q = p := by omega
      have hu : ¬ (ks p = 2 ∨ ks p = 3) := fun z => by have := h5 z; omega
      simp only [hl, not_false_eq_true, true_and, false_and, false_or]
      exact rs_un hu _ _ _ x y
    · rw [vu_ne hq]
set_option maxHeartbeats 4000000 in
set_option maxRecDepth 100000 in
theorem k_RE_fill (l : Launch) {X : Lay} (hI : pw_I X) (hX : Dm X) (w : Wd) {T : Nat → Nat → Int64} {ks ls ss : Nat → Int32} {parts p : Nat} {R : Nat → Nat → Int64} (hV : v_rep X w T ks ls ss parts) (h40 : parts ≤ 40) (hp : p < parts) (hfl : fl_f ks ss parts) : CtV l y_RE_fill (pw_ws y_RE_fill c_RE_fill 6 none) { frames := 4, cells := 0, slots := 0, locals := 92 } X (r_w X w R) [.ref (pw_a X 9 0), .int (nI p)] (fun w1 => ∃ f1, w1 = r_w X w (va_up R p f1) ∧ ∀ x, x < 64 → ∀ y, y < 64 → (bt_f (f1 x) y = true ↔ rl_f T ks ls ss R p x y)) := by
  have hV0 := v_rep_of (w1 := r_w X w R) hV (fun g hg => r_row (by omega))
  obtain ⟨-, ⟨nn, ft, w4e⟩, w6e, w7e, w8e, ⟨rdy, w9e⟩, ⟨f10, w10e, hf10⟩⟩ := hV0
  have d11 : ∀ j, j < 40 → pw_d X 11 j := fun j hj => hX 11 j (by simp [dm_k, hj])
  refine pw_open (by decide) hI [some (.ref (pw_a X 9 0)), some (.int (nI p)), none, none, none, none] rfl (Nat.le_of_ble_eq_true rfl) ?_
  intro zp ze zs zm za zb zt zc hargs C hr hlk hnm
  refine pw_aload_n C d_RE_fill_0 rfl ?_
  refine pw_get C d_RE_fill_1 (hX 9 0 rfl) w9e 2 rfl rfl (by decide) in_RE W_84 rfl ?_
  refine pw_iload_n C d_RE_fill_4 rfl ?_
  refine pw_aaldK C d_RE_fill_5 (hX 10 0 rfl) w10e (by omega) (hf10 p (by omega)) ?_
  refine pw_astore_n C d_RE_fill_6 (by decide) ?_
  refine pw_aload_n C d_RE_fill_7 rfl ?_
  refine pw_lconst C d_RE_fill_8 (v := 0) (by decide) ?_
  refine pw_callSv C (k_AR_fill l hI _ 0 (n := 64) (by decide) (d11 p (by omega)) (r_get (by omega))) ⟨pw_cb C 2 W_245 W_7 W_243 ⟨rfl, rfl⟩ (by decide +kernel) ⟨(Nat.le_of_ble_eq_true rfl), (Nat.le_of_ble_eq_true rfl)⟩, pw_w C W_244⟩ rfl rfl (Nat.le_of_ble_eq_true rfl) d_RE_fill_9 ⟨Nat.zero_le _, Nat.zero_le _⟩ (fun w9 hp9 => ?_)
  obtain ⟨f0, e9, hf0⟩ := hp9
  refine MW.world (e9.trans (r_up (by omega))) ?_
  clear w4e w6e w7e w8e w9e w10e
  have hV1 := v_rep_of (w1 := r_w X w (va_up R p f0)) hV (fun g hg => r_row (by omega))
  obtain ⟨-, ⟨nn1, ft1, w4e⟩, w6e, w7e, w8e, ⟨rdy1, w9e⟩, ⟨f11, w10e, hf11⟩⟩ := id hV1
  have g0 : r_w X w (va_up R p f0) 11 p = aL X 64 f0 := by rw [r_get (by omega), vu_self]
  refine pw_aload_n C d_RE_fill_12 rfl ?_
  refine pw_get C d_RE_fill_13 (hX 9 0 rfl) w9e 1 rfl rfl (by decide) in_RE W_83 rfl ?_
  refine pw_getN C d_RE_fill_16 (hX 4 0 rfl) w4e 1 rfl rfl (by decide) in_PA N_5 rfl ?_
  refine pw_iload_n C d_RE_fill_19 rfl ?_
  refine pw_ialdK C d_RE_fill_20 (hX 6 0 rfl) w6e (by omega) ?_
  refine pw_istore_n C d_RE_fill_21 (by decide) ?_
  refine pw_iload_n C d_RE_fill_22 rfl ?_
  refine pw_iconst C d_RE_fill_23 (v := 1) (by decide) ?_
  refine pw_iadd C d_RE_fill_24 ?_
  rw [nI_1]
  refine pw_istore C d_RE_fill_25 (by decide) ?_
  refine pw_aload_n C d_RE_fill_27 rfl ?_
  refine pw_get C d_RE_fill_28 (hX 9 0 rfl) w9e 1 rfl rfl (by decide) in_RE W_83 rfl ?_
  refine pw_getN C d_RE_fill_31 (hX 4 0 rfl) w4e 3 rfl rfl (by decide) in_PA N_9 rfl ?_
  refine pw_iload_n C d_RE_fill_34 rfl ?_
  refine pw_ialdK C d_RE_fill_35 (hX 8 0 rfl) w8e (by omega) ?_
  refine pw_istore C d_RE_fill_36 (by decide) ?_
  refine pw_iload_n C d_RE_fill_38 rfl ?_
  refine pw_if_eq C 48 d_RE_fill_39 (by decide) (fun h39 => ?_) (fun h39 => ?_)
  · refine pw_aload_n C d_RE_fill_48 rfl ?_
    refine pw_aload_n C d_RE_fill_49 rfl ?_
    refine pw_aload_n C d_RE_fill_50 rfl ?_
    refine pw_get C d_RE_fill_51 (hX 9 0 rfl) w9e 1 rfl rfl (by decide) in_RE W_83 rfl ?_
    refine pw_getN C d_RE_fill_54 (hX 4 0 rfl) w4e 2 rfl rfl (by decide) in_PA N_7 rfl ?_
    refine pw_iload_n C d_RE_fill_57 rfl ?_
    refine pw_ialdK C d_RE_fill_58 (hX 7 0 rfl) w7e (by omega) ?_
    refine pw_callVv C (k_RE_addEdges l hI hX _ hV1 (ls p) (d11 p (by omega)) g0) (hX 9 0 rfl) w9e rfl ⟨pw_cb C 2 W_249 W_4 W_246 ⟨rfl, rfl⟩ (by decide +kernel) ⟨(Nat.le_of_ble_eq_true rfl), (Nat.le_of_ble_eq_true rfl)⟩, pw_w C W_248, pw_w C V_13⟩ rfl rfl (Nat.le_of_ble_eq_true rfl) d_RE_fill_59 ⟨Nat.zero_le _, Nat.zero_le _⟩ (fun w9 hp9 => ?_)
    obtain ⟨f1, e9, hf1⟩ := hp9
    refine MW.world (e9.trans (r_up (by omega))) ?_
    rw [bx_uu]
    refine pw_goto C 108 d_RE_fill_62 (by decide) ?_
    refine pw_vret C hr hlk d_RE_fill_108 ?_
    refine ⟨f1, rfl, fun x hx y hy => ?_⟩
    rw [hf1 x hx y hy, hf0 x hx, bt_0]
    unfold rl_f
    have hl : ks p = 0 ∨ ks p = 7 := Or.inl h39
    simp [hl]
  · refine pw_iload_n C d_RE_fill_42 rfl ?_
    refine pw_bipush C d_RE_fill_43 (v := 7) (by decide) ?_
    refine pw_icmp_ne C 65 d_RE_fill_45 (by decide) (fun h45 => ?_) (fun h45 => ?_)
    · have hl : ¬ (ks p = 0 ∨ ks p = 7) := fun z => z.elim h39 h45
      obtain ⟨k1, q, k2, k3, k4, k5⟩ := hfl p hp hl
      have hqc : (ss p).toNatClampNeg = q := by rw [k4]; exact nI_clamp (by omega)
      rw [k4]
      have g1 : r_w X w (va_up R p f0) 11 (p + 1) = aL X 64 (R (p + 1)) := by rw [r_get (by omega), vu_ne (by omega)]
      have hS : ks p = 2 ∨ ks p = 3 → pw_d X 11 q ∧ r_w X w (va_up R p f0) 11 q = aL X 64 (R q) ∧ ¬ (11 = 11 ∧ q = p) := fun z => by
        have := k5 z
        exact ⟨d11 q (by omega), by rw [r_get (by omega), vu_ne (by omega)], fun y => by omega⟩
      refine pw_iload C d_RE_fill_65 rfl ?_
      refine pw_aload_n C d_RE_fill_67 rfl ?_
      refine pw_get C d_RE_fill_68 (hX 9 0 rfl) w9e 1 rfl rfl (by decide) in_RE W_83 rfl ?_
      refine pw_getN C d_RE_fill_71 (hX 4 0 rfl) w4e 5 rfl rfl (by decide) in_PA N_11 rfl ?_
      refine pw_icmp_ge C 108 d_RE_fill_74 (by decide) (fun h74 => ?_) (fun h74 => ?_)
      · exact absurd ((nI_leI (by omega) (by omega)).mp h74) (by omega)
      refine pw_iload C d_RE_fill_77 rfl ?_
      refine pw_aload_n C d_RE_fill_79 rfl ?_
      refine pw_get C d_RE_fill_80 (hX 9 0 rfl) w9e 1 rfl rfl (by decide) in_RE W_83 rfl ?_
      refine pw_getN C d_RE_fill_83 (hX 4 0 rfl) w4e 5 rfl rfl (by decide) in_PA N_11 rfl ?_
      refine pw_icmp_ge C 108 d_RE_fill_86 (by decide) (fun h86 => ?_) (fun h86 => ?_)
      · exact absurd ((nI_leI (by omega) (by omega)).mp h86) (by omega)
      refine pw_aload_n C d_RE_fill_89 rfl ?_
      refine pw_iload_n C d_RE_fill_90 rfl ?_
      refine pw_aload_n C d_RE_fill_91 rfl ?_
      refine pw_get C d_RE_fill_92 (hX 9 0 rfl) w9e 2 rfl rfl (by decide) in_RE W_84 rfl ?_
      refine pw_iload C d_RE_fill_95 rfl ?_
      refine pw_aaldK C d_RE_fill_97 (hX 10 0 rfl) w10e (by omega) (hf11 (p + 1) (by omega)) ?_
      refine pw_aload_n C d_RE_fill_98 rfl ?_
      refine pw_get C d_RE_fill_99 (hX 9 0 rfl) w9e 2 rfl rfl (by decide) in_RE W_84 rfl ?_
      refine pw_iload C d_RE_fill_102 rfl ?_
      refine pw_aaldK C d_RE_fill_104 (hX 10 0 rfl) w10e (by omega) (hf11 q (by omega)) ?_
      refine pw_callSv C (k_RE_fillFrom l hI hX _ (Bs := R q) (ks p) (d11 p (by omega)) g0 (fun x hx => hf0 x hx) (d11 (p + 1) (by omega)) g1 (fun z => by omega) hS) ⟨pw_cb C 4 W_256 W_4 W_254 ⟨rfl, rfl⟩ (by decide +kernel) ⟨(Nat.le_of_ble_eq_true rfl), (Nat.le_of_ble_eq_true rfl)⟩, pw_w C W_255⟩ rfl rfl (Nat.le_of_ble_eq_true rfl) d_RE_fill_105 ⟨Nat.zero_le _, Nat.zero_le _⟩ (fun w9 hp9 => ?_)
      obtain ⟨f1, e9, hf1⟩ := hp9
      refine MW.world (e9.trans (r_up (by omega))) ?_
      rw [bx_uu]
      refine pw_vret C hr hlk d_RE_fill_108 ?_
      refine ⟨f1, rfl, fun x hx y hy => ?_⟩
      rw [hf1 x hx y hy]
      unfold rl_f
      rw [hqc]
      simp [hl]
    · refine pw_aload_n C d_RE_fill_48 rfl ?_
      refine pw_aload_n C d_RE_fill_49 rfl ?_
      refine pw_aload_n C d_RE_fill_50 rfl ?_
      refine pw_get C d_RE_fill_51 (hX 9 0 rfl) w9e 1 rfl rfl (by decide) in_RE W_83 rfl ?_
      refine pw_getN C d_RE_fill_54 (hX 4 0 rfl) w4e 2 rfl rfl (by decide) in_PA N_7 rfl ?_
      refine pw_iload_n C d_RE_fill_57 rfl ?_
      refine pw_ialdK C d_RE_fill_58 (hX 7 0 rfl) w7e (by omega) ?_
      refine pw_callVv C (k_RE_addEdges l hI hX _ hV1 (ls p) (d11 p (by omega)) g0) (hX 9 0 rfl) w9e rfl ⟨pw_cb C 2 W_249 W_4 W_246 ⟨rfl, rfl⟩ (by decide +kernel) ⟨(Nat.le_of_ble_eq_true rfl), (Nat.le_of_ble_eq_true rfl)⟩, pw_w C W_248, pw_w C V_13⟩ rfl rfl (Nat.le_of_ble_eq_true rfl) d_RE_fill_59 ⟨Nat.zero_le _, Nat.zero_le _⟩ (fun w9 hp9 => ?_)
      obtain ⟨f1, e9, hf1⟩ := hp9
      refine MW.world (e9.trans (r_up (by omega))) ?_
      rw [bx_uu]
      refine pw_goto C 108 d_RE_fill_62 (by decide) ?_
      refine pw_vret C hr hlk d_RE_fill_108 ?_
      refine ⟨f1, rfl, fun x hx y hy => ?_⟩
      rw [hf1 x hx y hy, hf0 x hx, bt_0]
      unfold rl_f
      have hl : ks p = 0 ∨ ks p = 7 := Or.inr h45
      simp [hl]
set_option maxHeartbeats 4000000 in
set_option maxRecDepth 100000 in
theorem k_RE_ofPath (l : Launch) {X : Lay} (hI : pw_I X) (hX : Dm X) (w : Wd) {T : Nat → Nat → Int64} {ks ls ss : Nat → Int32} {parts : Nat} {R : Nat → Nat → Int64} {rdy : Int32} (hV : v_rep X w T ks ls ss parts) (h40 : parts ≤ 40) (hfl : rdy = 0 → fl_f ks ss parts) (h9 : w 9 0 = oB 3 [.ref (pw_a X 1 0), .ref (pw_a X 4 0), .ref (pw_a X 10 0), .int rdy]) : CtR l y_RE_ofPath (pw_ws y_RE_ofPath c_RE_ofPath 2 (some (.array .long))) { frames := 5, cells := 0, slots := 0, locals := 117 } X (r_w X w R) [.ref (pw_a X 9 0)] 11 0 (fun w1 => (¬ rdy = 0 ∧ w1 = r_w X w R) ∨ (rdy = 0 ∧ ∃ R1, w1 = r_w X (pw_up w 9 0 (oB 3 [.ref (pw_a X 1 0), .ref (pw_a X 4 0), .ref (pw_a X 10 0), .int 1])) R1 ∧ (∀ j, parts ≤ j → R1 j = R j) ∧ ∀ p, p < parts → ∀ x, x < 64 → ∀ y, y < 64 → (bt_f (R1 p x) y = true ↔ rl_f T ks ls ss R1 p x y))) := by
  refine pw_open (by decide) hI [some (.ref (pw_a X 9 0)), none] rfl (Nat.le_of_ble_eq_true rfl) ?_
  intro zp ze zs zm za zb zt zc hargs C hr hlk hnm
  have v9 : ∀ Rk, r_w X w Rk 9 0 = oB 3 [.ref (pw_a X 1 0), .ref (pw_a X 4 0), .ref (pw_a X 10 0), .int rdy] := fun Rk => by rw [r_row (by decide)]; exact h9
  obtain ⟨-, ⟨nn, ft, w4e⟩, -, -, -, -, ⟨f10, w10e, hf10⟩⟩ := id hV
  have v4 : ∀ Rk, r_w X w Rk 4 0 = _ := fun Rk => (congrFun (r_row (by decide)) 0).trans w4e
  have v10 : ∀ Rk, r_w X w Rk 10 0 = _ := fun Rk => (congrFun (r_row (by decide)) 0).trans w10e
  have L : rdy = 0 → ∀ k : Nat, k ≤ parts → ∀ Rk : Nat → Nat → Int64, (∀ j, parts ≤ j → Rk j = R j) → (∀ p, k ≤ p → p < parts → ∀ x, x < 64 → ∀ y, y < 64 → (bt_f (Rk p x) y = true ↔ rl_f T ks ls ss Rk p x y)) → MW zp l ze ({ frames := 5, cells := 0, slots := 0, locals := 117 } : Room) zs zm za zb zt zc X 2 0 0 (MQ zb (va_Qr (fun w1 => (¬ rdy = 0 ∧ w1 = r_w X w R) ∨ (rdy = 0 ∧ ∃ R1, w1 = r_w X (pw_up w 9 0 (oB 3 [.ref (pw_a X 1 0), .ref (pw_a X 4 0), .ref (pw_a X 10 0), .int 1])) R1 ∧ (∀ j, parts ≤ j → R1 j = R j) ∧ ∀ p, p < parts → ∀ x, x < 64 → ∀ y, y < 64 → (bt_f (R1 p x) y = true ↔ rl_f T ks ls ss R1 p x y))) (fun w a t => a = pw_a X 11 0 ∧ pw_H X w t.heap) (pw_F X)) za zs 0 0 (pw_F X)) (r_w X w Rk) 17 [some (.ref (pw_a X 9 0)), some (.int (nI k - 1))] [] := by
    intro hr0 k
    induction k with
    | zero =>
      intro hk Rk hR1 hR2
      refine pw_iload_n C d_RE_ofPath_17 rfl ?_
      refine pw_if_lt C 32 d_RE_ofPath_18 (by decide) (fun h18 => ?_) (fun h18 => ?_)
      · refine pw_aload_n C d_RE_ofPath_32 rfl ?_
        refine pw_iconst C d_RE_ofPath_33 (v := 1) (by decide) ?_
        refine pw_put C d_RE_ofPath_34 (hX 9 0 rfl) (v9 Rk) 3 (Nat.le_of_ble_eq_true rfl) rfl (by decide) in_RE t_RE tk_RE n_RE W_86 rfl rfl (tk_RE 3 (by decide)) rfl rfl ?_
        refine pw_aload_n C d_RE_ofPath_37 rfl ?_
        refine pw_get C d_RE_ofPath_38 (hX 9 0 rfl) (pw_up_self _ 9 0 _) 2 rfl rfl (by decide) in_RE W_84 rfl ?_
        refine pw_iconst C d_RE_ofPath_41 (v := 0) (by decide) ?_
        refine pw_aaldK C d_RE_ofPath_42 (k0 := 0) (hX 10 0 rfl) (by rw [pw_up_g _ _ (by decide)]; exact v10 Rk) (by decide) (hf10 0 (by decide)) ?_
        refine pw_aret C hr hlk d_RE_ofPath_43 ?_
        refine Or.inr ⟨hr0, Rk, ?_, hR1, fun p hp => hR2 p (Nat.zero_le p) hp⟩
        exact r_up9 (by decide)
      · exact absurd (show nI 0 - 1 < 0 by decide) h18
    | succ k ih =>
      intro hk Rk hR1 hR2
      rw [nI_pred]
      refine pw_iload_n C d_RE_ofPath_17 rfl ?_
      refine pw_if_lt C 32 d_RE_ofPath_18 (by decide) (fun h18 => ?_) (fun h18 => ?_)
      · exact absurd h18 (nI_pos (by omega))
      refine pw_aload_n C d_RE_ofPath_21 rfl ?_
      refine pw_iload_n C d_RE_ofPath_22 rfl ?_
      refine pw_callVv C (k_RE_fill l hI hX w (R := Rk) (p := k) hV h40 (by omega) (hfl hr0)) (hX 9 0 rfl) (v9 Rk) rfl ⟨pw_cb C 1 W_242 W_4 W_239 ⟨rfl, rfl⟩ (by decide +kernel) ⟨(Nat.le_of_ble_eq_true rfl), (Nat.le_of_ble_eq_true rfl)⟩, pw_w C W_241, pw_w C V_12⟩ rfl rfl (Nat.le_of_ble_eq_true rfl) d_RE_ofPath_23 ⟨Nat.zero_le _, Nat.zero_le _⟩ (fun w9 hp9 => ?_)
      obtain ⟨f1, rfl, hf1⟩ := hp9
      refine pw_iinc C d_RE_ofPath_26 rfl (by decide) ?_
      refine pw_goto C 17 d_RE_ofPath_29 (by decide) ?_
      rw [show Int32.ofInt (-1) = -1 from by decide, ← Int32.sub_eq_add_neg]
      refine ih (by omega) _ (fun j hj => by rw [vu_ne (by omega)]; exact hR1 j hj) (fun p hp1 hp2 x hx y hy => ?_)
      rw [rl_up (hfl hr0) h40 hp2 hp1]
      by_cases q : p = k
      · subst q
        rw [vu_self]
        exact hf1 x hx y hy
      · rw [vu_ne q]
        exact hR2 p (by omega) hp2 x hx y hy
  refine pw_aload_n C d_RE_ofPath_0 rfl ?_
  refine pw_get C d_RE_ofPath_1 (hX 9 0 rfl) (v9 R) 3 rfl rfl (by decide) in_RE W_86 rfl ?_
  refine pw_if_ne C 37 d_RE_ofPath_4 (by decide) (fun h4 => ?_) (fun h4 => ?_)
  · refine pw_aload_n C d_RE_ofPath_37 rfl ?_
    refine pw_get C d_RE_ofPath_38 (hX 9 0 rfl) (v9 R) 2 rfl rfl (by decide) in_RE W_84 rfl ?_
    refine pw_iconst C d_RE_ofPath_41 (v := 0) (by decide) ?_
    refine pw_aaldK C d_RE_ofPath_42 (k0 := 0) (hX 10 0 rfl) (v10 R) (by decide) (hf10 0 (by decide)) ?_
    refine pw_aret C hr hlk d_RE_ofPath_43 ?_
    exact Or.inl ⟨h4, rfl⟩
  · refine pw_aload_n C d_RE_ofPath_7 rfl ?_
    refine pw_get C d_RE_ofPath_8 (hX 9 0 rfl) (v9 R) 1 rfl rfl (by decide) in_RE W_83 rfl ?_
    refine pw_getN C d_RE_ofPath_11 (hX 4 0 rfl) (v4 R) 5 rfl rfl (by decide) in_PA N_11 rfl ?_
    refine pw_iconst C d_RE_ofPath_14 (v := 1) (by decide) ?_
    refine pw_isub C d_RE_ofPath_15 ?_
    refine pw_istore_n C d_RE_ofPath_16 (by decide) ?_
    exact L h4 parts (Nat.le_refl parts) R (fun j _ => rfl) (fun p hp1 hp2 => absurd hp2 (by omega))
