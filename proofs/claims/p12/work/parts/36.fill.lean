/-! RELATIONS: a part's rows out of its parts' rows; all parts -/
def bm_f (A : Nat → Int64) : Nat → Nat → Bool := fun a b => bt_f (A a) b
/-- a part's relation, of a kind with parts A and B -/
def rs_f (k : Int32) (A B : Nat → Int64) (x y : Nat) : Prop :=
  (k = 1 ∧ bt_f (A y) x = true) ∨ (k = 2 ∧ ∃ z, z < 64 ∧ bt_f (A x) z = true ∧ bt_f (B z) y = true) ∨ (k = 3 ∧ (bt_f (A x) y = true ∨ bt_f (B x) y = true)) ∨ (k = 4 ∧ (bt_f (A x) y = true ∨ y = x)) ∨ (k = 5 ∧ (wz_f (bm_f A) 64 x y = true ∨ y = x)) ∨ (k = 6 ∧ wz_f (bm_f A) 64 x y = true)
theorem rs_un {k : Int32} (h : ¬ (k = 2 ∨ k = 3)) (A B B' : Nat → Int64) (x y : Nat) : rs_f k A B x y ↔ rs_f k A B' x y := by
  unfold rs_f
  have h2 : ¬ k = 2 := fun q => h (Or.inl q)
  have h3 : ¬ k = 3 := fun q => h (Or.inr q)
  simp [h2, h3]
theorem wz_congr {r r' : Nat → Nat → Bool} (h : ∀ a, a < 64 → ∀ b, b < 64 → r a b = r' a b) : ∀ z, z ≤ 64 → ∀ x, x < 64 → ∀ y, y < 64 → wz_f r z x y = wz_f r' z x y
  | 0, _, x, hx, y, hy => h x hx y hy
  | z + 1, hz, x, hx, y, hy => by
    have ih := wz_congr h z (by omega)
    show (wz_f r z x y || (wz_f r z x z && wz_f r z z y)) = (wz_f r' z x y || (wz_f r' z x z && wz_f r' z z y))
    rw [ih x hx y hy, ih x hx z (by omega), ih z (by omega) y hy]
theorem or_0 (x : Int64) : (0 : Int64) ||| x = x := bt_ext (fun j _ => by rw [bt_or, bt_0]; simp)
theorem sw6 (x : Int32) : (x.toInt < 1 ∨ 6 < x.toInt) ∨ x = 1 ∨ x = 2 ∨ x = 3 ∨ x = 4 ∨ x = 5 ∨ x = 6 := by
  rcases (show (x.toInt < 1 ∨ 6 < x.toInt) ∨ x.toInt = 1 ∨ x.toInt = 2 ∨ x.toInt = 3 ∨ x.toInt = 4 ∨ x.toInt = 5 ∨ x.toInt = 6 by omega) with h | h | h | h | h | h | h
  · exact Or.inl h
  · exact Or.inr (Or.inl (Int32.toInt_inj.mp (h.trans (by decide))))
  · exact Or.inr (Or.inr (Or.inl (Int32.toInt_inj.mp (h.trans (by decide)))))
  · exact Or.inr (Or.inr (Or.inr (Or.inl (Int32.toInt_inj.mp (h.trans (by decide))))))
  · exact Or.inr (Or.inr (Or.inr (Or.inr (Or.inl (Int32.toInt_inj.mp (h.trans (by decide)))))))
  · exact Or.inr (Or.inr (Or.inr (Or.inr (Or.inr (Or.inl (Int32.toInt_inj.mp (h.trans (by decide))))))))
  · exact Or.inr (Or.inr (Or.inr (Or.inr (Or.inr (Or.inr (Int32.toInt_inj.mp (h.trans (by decide))))))))
set_option maxHeartbeats 4000000 in
set_option maxRecDepth 100000 in
theorem k_RE_fillFrom (l : Launch) {X : Lay} (hI : pw_I X) (hX : Dm X) (w : Wd) {g i g2 i2 g3 i3 : Nat} {F A Bs : Nat → Int64} (k : Int32) (hd : pw_d X g i) (hw : w g i = aL X 64 F) (hF : ∀ x, x < 64 → F x = 0) (hd2 : pw_d X g2 i2) (hw2 : w g2 i2 = aL X 64 A) (hne2 : ¬ (g2 = g ∧ i2 = i)) (hS : k = 2 ∨ k = 3 → pw_d X g3 i3 ∧ w g3 i3 = aL X 64 Bs ∧ ¬ (g3 = g ∧ i3 = i)) : CtV l y_RE_fillFrom (pw_ws y_RE_fillFrom c_RE_fillFrom 4 none) { frames := 3, cells := 0, slots := 0, locals := 69 } X w [.ref (pw_a X g i), .int k, .ref (pw_a X g2 i2), .ref (pw_a X g3 i3)] (fun w1 => ∃ f1, w1 = pw_up w g i (aL X 64 f1) ∧ ∀ x, x < 64 → ∀ y, y < 64 → (bt_f (f1 x) y = true ↔ rs_f k A Bs x y)) := by
  refine pw_open (by decide) hI [some (.ref (pw_a X g i)), some (.int k), some (.ref (pw_a X g2 i2)), some (.ref (pw_a X g3 i3))] rfl (Nat.le_of_ble_eq_true rfl) ?_
  intro zp ze zs zm za zb zt zc hargs C hr hlk hnm
  refine pw_iload_n C d_RE_fillFrom_0 rfl ?_
  rcases sw6 k with hk | rfl | rfl | rfl | rfl | rfl | rfl
  · refine pw_tableOut C 110 d_RE_fillFrom_1 hk (by decide) ?_
    refine pw_vret C hr hlk d_RE_fillFrom_110 ?_
    refine ⟨F, (pw_up_id w hw).symm, fun x hx y hy => ?_⟩
    rw [hF x hx, bt_0]
    refine ⟨fun q => (by cases q), fun q => ?_⟩
    rcases q with ⟨q, -⟩ | ⟨q, -⟩ | ⟨q, -⟩ | ⟨q, -⟩ | ⟨q, -⟩ | ⟨q, -⟩ <;> (subst q; exact absurd hk (by decide))
  · refine pw_tableIn C 40 d_RE_fillFrom_1 (by decide) (by decide) rfl (by decide) ?_
    refine pw_aload_n C d_RE_fillFrom_40 rfl ?_
    refine pw_aload_n C d_RE_fillFrom_41 rfl ?_
    refine pw_callSv C (k_RE_addTurned l hI _ hd hw hd2 hw2 hne2) ⟨pw_cb C 2 W_259 W_4 W_257 ⟨rfl, rfl⟩ (by decide +kernel) ⟨(Nat.le_of_ble_eq_true rfl), (Nat.le_of_ble_eq_true rfl)⟩, pw_w C W_258⟩ rfl rfl (Nat.le_of_ble_eq_true rfl) d_RE_fillFrom_42 ⟨Nat.zero_le _, Nat.zero_le _⟩ (fun w9 hp => ?_)
    obtain ⟨f1, e9, hf1⟩ := hp
    refine MW.world e9 ?_
    refine pw_goto C 110 d_RE_fillFrom_45 (by decide) ?_
    refine pw_vret C hr hlk d_RE_fillFrom_110 ?_
    refine ⟨f1, rfl, fun x hx y hy => ?_⟩
    rw [hf1 x hx y hy, hF x hx, bt_0]
    unfold rs_f
    simp
  · refine pw_tableIn C 48 d_RE_fillFrom_1 (by decide) (by decide) rfl (by decide) ?_
    refine pw_aload_n C d_RE_fillFrom_48 rfl ?_
    refine pw_aload_n C d_RE_fillFrom_49 rfl ?_
    refine pw_aload_n C d_RE_fillFrom_50 rfl ?_
    refine pw_callSv C (k_RE_addJoined l hI _ hd hw hd2 hw2 hne2 (hS (Or.inl rfl)).1 (hS (Or.inl rfl)).2.1 (hS (Or.inl rfl)).2.2) ⟨pw_cb C 3 W_270 W_4 W_268 ⟨rfl, rfl⟩ (by decide +kernel) ⟨(Nat.le_of_ble_eq_true rfl), (Nat.le_of_ble_eq_true rfl)⟩, pw_w C W_269⟩ rfl rfl (Nat.le_of_ble_eq_true rfl) d_RE_fillFrom_51 ⟨Nat.zero_le _, Nat.zero_le _⟩ (fun w9 hp => ?_)
    obtain ⟨f1, e9, hf1⟩ := hp
    refine MW.world e9 ?_
    refine pw_goto C 110 d_RE_fillFrom_54 (by decide) ?_
    refine pw_vret C hr hlk d_RE_fillFrom_110 ?_
    refine ⟨f1, rfl, fun x hx y hy => ?_⟩
    rw [hf1 x hx y hy, hF x hx, bt_0]
    unfold rs_f
    simp
  · refine pw_tableIn C 57 d_RE_fillFrom_1 (by decide) (by decide) rfl (by decide) ?_
    refine pw_aload_n C d_RE_fillFrom_57 rfl ?_
    refine pw_aload_n C d_RE_fillFrom_58 rfl ?_
    refine pw_callSv C (k_RE_add l hI _ hd hw hd2 hw2 hne2) ⟨pw_cb C 2 W_253 W_4 W_251 ⟨rfl, rfl⟩ (by decide +kernel) ⟨(Nat.le_of_ble_eq_true rfl), (Nat.le_of_ble_eq_true rfl)⟩, pw_w C W_252⟩ rfl rfl (Nat.le_of_ble_eq_true rfl) d_RE_fillFrom_59 ⟨Nat.zero_le _, Nat.zero_le _⟩ (fun w9 hp => ?_)
    obtain ⟨f1, e9, hf1⟩ := hp
    refine MW.world e9 ?_
    have hA : ∀ x, x < 64 → f1 x = A x := fun x hx => by rw [hf1 x hx, hF x hx, or_0]
    refine pw_aload_n C d_RE_fillFrom_62 rfl ?_
    refine pw_aload_n C d_RE_fillFrom_63 rfl ?_
    refine pw_callSv C (k_RE_add l hI _ hd (pw_up_self w g i _) (hS (Or.inr rfl)).1 (by rw [pw_up_ne _ _ (hS (Or.inr rfl)).2.2]; exact (hS (Or.inr rfl)).2.1) (hS (Or.inr rfl)).2.2) ⟨pw_cb C 2 W_253 W_4 W_251 ⟨rfl, rfl⟩ (by decide +kernel) ⟨(Nat.le_of_ble_eq_true rfl), (Nat.le_of_ble_eq_true rfl)⟩, pw_w C W_252⟩ rfl rfl (Nat.le_of_ble_eq_true rfl) d_RE_fillFrom_64 ⟨Nat.zero_le _, Nat.zero_le _⟩ (fun w9 hp => ?_)
    obtain ⟨f2, e9, hf2⟩ := hp
    refine MW.world e9 ?_
    rw [pw_up_up]
    refine pw_goto C 110 d_RE_fillFrom_67 (by decide) ?_
    refine pw_vret C hr hlk d_RE_fillFrom_110 ?_
    refine ⟨f2, rfl, fun x hx y hy => ?_⟩
    rw [hf2 x hx, hA x hx, bt_or]
    unfold rs_f
    simp
  · refine pw_tableIn C 70 d_RE_fillFrom_1 (by decide) (by decide) rfl (by decide) ?_
    refine pw_aload_n C d_RE_fillFrom_70 rfl ?_
    refine pw_aload_n C d_RE_fillFrom_71 rfl ?_
    refine pw_callSv C (k_RE_add l hI _ hd hw hd2 hw2 hne2) ⟨pw_cb C 2 W_253 W_4 W_251 ⟨rfl, rfl⟩ (by decide +kernel) ⟨(Nat.le_of_ble_eq_true rfl), (Nat.le_of_ble_eq_true rfl)⟩, pw_w C W_252⟩ rfl rfl (Nat.le_of_ble_eq_true rfl) d_RE_fillFrom_72 ⟨Nat.zero_le _, Nat.zero_le _⟩ (fun w9 hp => ?_)
    obtain ⟨f1, e9, hf1⟩ := hp
    refine MW.world e9 ?_
    have hA : ∀ x, x < 64 → f1 x = A x := fun x hx => by rw [hf1 x hx, hF x hx, or_0]
    refine pw_aload_n C d_RE_fillFrom_75 rfl ?_
    refine pw_callSv C (k_RE_addStaying l hI _ hd (pw_up_self w g i _)) ⟨pw_cb C 1 W_273 W_4 W_271 ⟨rfl, rfl⟩ (by decide +kernel) ⟨(Nat.le_of_ble_eq_true rfl), (Nat.le_of_ble_eq_true rfl)⟩, pw_w C W_272⟩ rfl rfl (Nat.le_of_ble_eq_true rfl) d_RE_fillFrom_76 ⟨Nat.zero_le _, Nat.zero_le _⟩ (fun w9 hp => ?_)
    obtain ⟨f2, e9, hf2⟩ := hp
    refine MW.world e9 ?_
    rw [pw_up_up]
    refine pw_goto C 110 d_RE_fillFrom_79 (by decide) ?_
    refine pw_vret C hr hlk d_RE_fillFrom_110 ?_
    refine ⟨f2, rfl, fun x hx y hy => ?_⟩
    rw [hf2 x hx y hy, hA x hx]
    unfold rs_f
    simp
  · refine pw_tableIn C 82 d_RE_fillFrom_1 (by decide) (by decide) rfl (by decide) ?_
    refine pw_aload_n C d_RE_fillFrom_82 rfl ?_
    refine pw_aload_n C d_RE_fillFrom_83 rfl ?_
    refine pw_callSv C (k_RE_add l hI _ hd hw hd2 hw2 hne2) ⟨pw_cb C 2 W_253 W_4 W_251 ⟨rfl, rfl⟩ (by decide +kernel) ⟨(Nat.le_of_ble_eq_true rfl), (Nat.le_of_ble_eq_true rfl)⟩, pw_w C W_252⟩ rfl rfl (Nat.le_of_ble_eq_true rfl) d_RE_fillFrom_84 ⟨Nat.zero_le _, Nat.zero_le _⟩ (fun w9 hp => ?_)
    obtain ⟨f1, e9, hf1⟩ := hp
    refine MW.world e9 ?_
    have hA : ∀ x, x < 64 → f1 x = A x := fun x hx => by rw [hf1 x hx, hF x hx, or_0]
    refine pw_aload_n C d_RE_fillFrom_87 rfl ?_
    refine pw_callSv C (k_RE_close l hI _ hd (pw_up_self w g i _)) ⟨pw_cb C 1 W_276 W_4 W_274 ⟨rfl, rfl⟩ (by decide +kernel) ⟨(Nat.le_of_ble_eq_true rfl), (Nat.le_of_ble_eq_true rfl)⟩, pw_w C W_275⟩ rfl rfl (Nat.le_of_ble_eq_true rfl) d_RE_fillFrom_88 ⟨Nat.zero_le _, Nat.zero_le _⟩ (fun w9 hp => ?_)
    obtain ⟨f2, e9, hf2⟩ := hp
    refine MW.world e9 ?_
    rw [pw_up_up]
    refine pw_aload_n C d_RE_fillFrom_91 rfl ?_
    refine pw_callSv C (k_RE_addStaying l hI _ hd (pw_up_self w g i _)) ⟨pw_cb C 1 W_273 W_4 W_271 ⟨rfl, rfl⟩ (by decide +kernel) ⟨(Nat.le_of_ble_eq_true rfl), (Nat.le_of_ble_eq_true rfl)⟩, pw_w C W_272⟩ rfl rfl (Nat.le_of_ble_eq_true rfl) d_RE_fillFrom_92 ⟨Nat.zero_le _, Nat.zero_le _⟩ (fun w9 hp => ?_)
    obtain ⟨f3, e9, hf3⟩ := hp
    refine MW.world e9 ?_
    rw [pw_up_up]
    refine pw_goto C 110 d_RE_fillFrom_95 (by decide) ?_
    refine pw_vret C hr hlk d_RE_fillFrom_110 ?_
    refine ⟨f3, rfl, fun x hx y hy => ?_⟩
    rw [hf3 x hx y hy, hf2 x hx y hy, wz_congr (r' := bm_f A) (fun a ha b hb => by rw [hA a ha]; rfl) 64 (Nat.le_refl 64) x hx y hy]
    unfold rs_f
    simp
  · refine pw_tableIn C 98 d_RE_fillFrom_1 (by decide) (by decide) rfl (by decide) ?_
    refine pw_aload_n C d_RE_fillFrom_98 rfl ?_
    refine pw_aload_n C d_RE_fillFrom_99 rfl ?_
    refine pw_callSv C (k_RE_add l hI _ hd hw hd2 hw2 hne2) ⟨pw_cb C 2 W_253 W_4 W_251 ⟨rfl, rfl⟩ (by decide +kernel) ⟨(Nat.le_of_ble_eq_true rfl), (Nat.le_of_ble_eq_true rfl)⟩, pw_w C W_252⟩ rfl rfl (Nat.le_of_ble_eq_true rfl) d_RE_fillFrom_100 ⟨Nat.zero_le _, Nat.zero_le _⟩ (fun w9 hp => ?_)
    obtain ⟨f1, e9, hf1⟩ := hp
    refine MW.world e9 ?_
    have hA : ∀ x, x < 64 → f1 x = A x := fun x hx => by rw [hf1 x hx, hF x hx, or_0]
    refine pw_aload_n C d_RE_fillFrom_103 rfl ?_
    refine pw_callSv C (k_RE_close l hI _ hd (pw_up_self w g i _)) ⟨pw_cb C 1 W_276 W_4 W_274 ⟨rfl, rfl⟩ (by decide +kernel) ⟨(Nat.le_of_ble_eq_true rfl), (Nat.le_of_ble_eq_true rfl)⟩, pw_w C W_275⟩ rfl rfl (Nat.le_of_ble_eq_true rfl) d_RE_fillFrom_104 ⟨Nat.zero_le _, Nat.zero_le _⟩ (fun w9 hp => ?_)
    obtain ⟨f2, e9, hf2⟩ := hp
    refine MW.world e9 ?_
    rw [pw_up_up]
    refine pw_goto C 110 d_RE_fillFrom_107 (by decide) ?_
    refine pw_vret C hr hlk d_RE_fillFrom_110 ?_
    refine ⟨f2, rfl, fun x hx y hy => ?_⟩
    rw [hf2 x hx y hy, wz_congr (r' := bm_f A) (fun a ha b hb => by rw [hA a ha]; rfl) 64 (Nat.le_refl 64) x hx y hy]
    unfold rs_f
    simp
/-- the cells that fill reads: graph, path tables, the object itself -/
def v_rep (X : Lay) (w : Wd) (T : Nat → Nat → Int64) (ks ls ss : Nat → Int32) (parts : Nat) : Prop :=
  (∃ n, g_rep X w T n) ∧ (∃ nn ft, w 4 0 = oB 2 [.ref (pw_a X 5 0), .ref (pw_a X 6 0), .ref (pw_a X 7 0), .ref (pw_a X 8 0), .int nn, .int (nI parts), .int ft]) ∧ w 6 0 = aI X 40 ks ∧ w 7 0 = aI X 40 ls ∧ w 8 0 = aI X 40 ss ∧ (∃ rdy, w 9 0 = oB 3 [.ref (pw_a X 1 0), .ref (pw_a X 4 0), .ref (pw_a X 10 0), .int rdy]) ∧ ∃ f, w 10 0 = aQ X 40 f ∧ ∀ j, j < 40 → f j = some (pw_a X 11 j)
theorem v_rep_of {X : Lay} {w w1 : Wd} {T : Nat → Nat → Int64} {ks ls ss : Nat → Int32} {parts : Nat} (h : v_rep X w T ks ls ss parts) (hs : ∀ g, g < 11 → w1 g = w g) : v_rep X w1 T ks ls ss parts := by
  obtain ⟨⟨n, a⟩, b, c, d, e, f, g⟩ := h
  refine ⟨⟨n, g_rep_of a (hs 1 (by decide)) (hs 2 (by decide)) (hs 3 (by decide))⟩, ?_, ?_, ?_, ?_, ?_, ?_⟩
  · rw [hs 4 (by decide)]; exact b
  · rw [hs 6 (by decide)]; exact c
  · rw [hs 7 (by decide)]; exact d
  · rw [hs 8 (by decide)]; exact e
  · rw [hs 9 (by decide)]; exact f
  · rw [hs 10 (by decide)]; exact g
theorem v_up {X : Lay} {w : Wd} {T : Nat → Nat → Int64} {ks ls ss : Nat → Int32} {parts p : Nat} {e : va_E} (h : v_rep X w T ks ls ss parts) : v_rep X (pw_up w 11 p e) T ks ls ss parts := v_rep_of h (fun g hg => pw_up_row _ _ (by omega))
set_option maxHeartbeats 4000000 in
set_option maxRecDepth 100000 in
theorem k_RE_addEdges (l : Launch) {X : Lay} (hI : pw_I X) (hX : Dm X) (w : Wd) {T : Nat → Nat → Int64} {ks ls ss : Nat → Int32} {parts p : Nat} {F : Nat → Int64} (hV : v_rep X w T ks ls ss parts) (v : Int32) (hd : pw_d X 11 p) (hw : w 11 p = aL X 64 F) : CtV l y_RE_addEdges (pw_ws y_RE_addEdges c_RE_addEdges 4 none) { frames := 1, cells := 0, slots := 0, locals := 22 } X w [.ref (pw_a X 9 0), .ref (pw_a X 11 p), .int v] (fun w1 => ∃ f1, w1 = pw_up w 11 p (aL X 64 f1) ∧ ∀ x, x < 64 → ∀ y, y < 64 → (bt_f (f1 x) y = true ↔ (bt_f (F x) y = true ∨ ∃ b, b < 8 ∧ bt_f v.toInt64 b = true ∧ bt_f (T b x) y = true))) := by
  refine pw_open (by decide) hI [some (.ref (pw_a X 9 0)), some (.ref (pw_a X 11 p)), some (.int v), none] rfl (Nat.le_of_ble_eq_true rfl) ?_
  intro zp ze zs zm za zb zt zc hargs C hr hlk hnm
  have L : ∀ d k : Nat, k + d = 8 → ∀ f1 : Nat → Int64, (∀ x, x < 64 → ∀ y, y < 64 → (bt_f (f1 x) y = true ↔ (bt_f (F x) y = true ∨ ∃ b, b < k ∧ bt_f v.toInt64 b = true ∧ bt_f (T b x) y = true))) → MW zp l ze ({ frames := 1, cells := 0, slots := 0, locals := 22 } : Room) zs zm za zb zt zc X 4 0 0 (MQ zb (va_Qv (fun w1 => ∃ f1, w1 = pw_up w 11 p (aL X 64 f1) ∧ ∀ x, x < 64 → ∀ y, y < 64 → (bt_f (f1 x) y = true ↔ (bt_f (F x) y = true ∨ ∃ b, b < 8 ∧ bt_f v.toInt64 b = true ∧ bt_f (T b x) y = true))) (pw_B X) (pw_F X)) za zs 0 0 (pw_F X)) (pw_up w 11 p (aL X 64 f1)) 2 [some (.ref (pw_a X 9 0)), some (.ref (pw_a X 11 p)), some (.int v), some (.int (nI k))] [] := by
    intro d
    induction d with
    | zero =>
      intro k hkd f1 hf
      refine pw_iload_n C d_RE_addEdges_2 rfl ?_
      refine pw_bipush C d_RE_addEdges_3 (v := 8) (by decide) ?_
      refine pw_icmp_ge C 36 d_RE_addEdges_5 (by decide) (fun h5 => ?_) (fun h5 => ?_)
      · refine pw_vret C hr hlk d_RE_addEdges_36 ?_
        rw [show k = 8 by omega] at hf
        exact ⟨f1, rfl, hf⟩
      · exact absurd (nI_le (a := 8) (b := k) (by omega) (by omega)) h5
    | succ d ih =>
      intro k hkd f1 hf
      obtain ⟨⟨n, d1, d2, d3, w1e, ⟨f, w2e, hff⟩, w3e⟩, -, -, -, -, ⟨rdy, w9e⟩, -⟩ := v_up (p := p) (e := aL X 64 f1) hV
      refine pw_iload_n C d_RE_addEdges_2 rfl ?_
      refine pw_bipush C d_RE_addEdges_3 (v := 8) (by decide) ?_
      refine pw_icmp_ge C 36 d_RE_addEdges_5 (by decide) (fun h5 => ?_) (fun h5 => ?_)
      · exact absurd ((nI_leI (a := 8) (by decide) (by omega)).mp h5) (by omega)
      refine pw_iload_n C d_RE_addEdges_8 rfl ?_
      refine pw_i2l C d_RE_addEdges_9 ?_
      refine pw_iload_n C d_RE_addEdges_10 rfl ?_
      refine pw_callSNi C (k_PF_holds l hI _ v.toInt64 (k := k) (by omega)) ⟨pw_cn C 2 W_159 W_1 N_31 ⟨rfl, rfl⟩ (by decide +kernel) ⟨(Nat.le_of_ble_eq_true rfl), (Nat.le_of_ble_eq_true rfl)⟩, pw_w C W_158, trivial⟩ rfl rfl (Nat.le_of_ble_eq_true rfl) d_RE_addEdges_11 ⟨Nat.zero_le _, Nat.zero_le _⟩ (fun r w9 hp => ?_)
      obtain ⟨e9, hp⟩ := hp
      refine MW.world e9 ?_
      refine pw_if_eq C 30 d_RE_addEdges_14 (by decide) (fun h14 => ?_) (fun h14 => ?_)
      · refine pw_iinc1 C d_RE_addEdges_30 rfl (by decide) ?_
        refine pw_goto C 2 d_RE_addEdges_33 (by decide) ?_
        refine ih (k + 1) (by omega) f1 (fun x hx y hy => ?_)
        rw [hf x hx y hy]
        constructor
        · rintro (a | ⟨b, c, d, e⟩)
          · exact Or.inl a
          · exact Or.inr ⟨b, by omega, d, e⟩
        · rintro (a | ⟨b, c, d, e⟩)
          · exact Or.inl a
          · by_cases q : b = k
            · subst q; exact absurd d (yn_f hp h14)
            · exact Or.inr ⟨b, by omega, d, e⟩
      · refine pw_aload_n C d_RE_addEdges_17 rfl ?_
        refine pw_aload_n C d_RE_addEdges_18 rfl ?_
        refine pw_get C d_RE_addEdges_19 (hX 9 0 rfl) w9e 0 rfl rfl (by decide) in_RE W_82 rfl ?_
        refine pw_getN C d_RE_addEdges_22 d1 w1e 0 rfl rfl (by decide) in_GR N_1 rfl ?_
        refine pw_iload_n C d_RE_addEdges_25 rfl ?_
        refine pw_aaldK C d_RE_addEdges_26 d2 w2e (by omega) (hff k (by omega)) ?_
        refine pw_callSv C (k_RE_add l hI _ hd (pw_up_self w 11 p _) (d3 k (by omega)) (w3e k (by omega)) (fun q => absurd q.1 (by decide))) ⟨pw_cb C 2 W_253 W_4 W_251 ⟨rfl, rfl⟩ (by decide +kernel) ⟨(Nat.le_of_ble_eq_true rfl), (Nat.le_of_ble_eq_true rfl)⟩, pw_w C W_252⟩ rfl rfl (Nat.le_of_ble_eq_true rfl) d_RE_addEdges_27 ⟨Nat.zero_le _, Nat.zero_le _⟩ (fun w9 hp2 => ?_)
        obtain ⟨f2, e9, hf2⟩ := hp2
        refine MW.world e9 ?_
        rw [pw_up_up]
        refine pw_iinc1 C d_RE_addEdges_30 rfl (by decide) ?_
        refine pw_goto C 2 d_RE_addEdges_33 (by decide) ?_
        refine ih (k + 1) (by omega) f2 (fun x hx y hy => ?_)
        rw [hf2 x hx, bt_or, Bool.or_eq_true, hf x hx y hy]
        constructor
        · rintro ((a | ⟨b, c, d, e⟩) | a)
          · exact Or.inl a
          · exact Or.inr ⟨b, by omega, d, e⟩
          · exact Or.inr ⟨k, by omega, yn_t hp h14, a⟩
        · rintro (a | ⟨b, c, d, e⟩)
          · exact Or.inl (Or.inl a)
          · by_cases q : b = k
            · subst q; exact Or.inr e
            · exact Or.inl (Or.inr ⟨b, by omega, d, e⟩)
  refine pw_iconst C d_RE_addEdges_0 (v := 0) (by decide) ?_
  refine pw_istore_n C d_RE_addEdges_1 (by decide) ?_
  refine MW.world (pw_up_id w hw).symm ?_
  exact L 8 0 rfl F (fun x hx y hy => ⟨Or.inl, fun q => q.elim id (fun ⟨b, hb, _⟩ => absurd hb (Nat.not_lt_zero b))⟩)
