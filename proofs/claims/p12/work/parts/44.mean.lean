/-! WHAT A PATH MEANS: how many times it is found, by its words alone -/
def en_f (wd : Nat → Int32) : Nat → Nat → Nat
  | 0, a => a
  | d + 1, a => if wd a = 0 ∨ wd a = 7 then a + 2 else if wd a = 2 ∨ wd a = 3 then en_f wd d (en_f wd d (a + 1)) else en_f wd d (a + 1)
def nz_f (M : Nat → Nat → Nat) (x y : Nat) : Bool := decide (M x y ≠ 0)
def cn_f (T : Nat → Nat → Int64) (wd : Nat → Int32) : Nat → Nat → Nat → Nat → Nat
  | 0, _, _, _ => 0
  | d + 1, a, x, y =>
    if wd a = 0 ∨ wd a = 7 then me_f false (lb_f (wd a) (wd (a + 1))) T x y
    else if wd a = 1 then cn_f T wd d (a + 1) y x
    else if wd a = 2 then sg_f (fun z => cn_f T wd d (a + 1) x z * cn_f T wd d (en_f wd d (a + 1)) z y) 64
    else if wd a = 3 then cn_f T wd d (a + 1) x y + cn_f T wd d (en_f wd d (a + 1)) x y
    else if wd a = 4 then (if nz_f (cn_f T wd d (a + 1)) x y = true ∨ y = x then 1 else 0)
    else if wd a = 5 then (if wz_f (nz_f (cn_f T wd d (a + 1))) 64 x y = true ∨ y = x then 1 else 0)
    else if wd a = 6 then (if wz_f (nz_f (cn_f T wd d (a + 1))) 64 x y = true then 1 else 0)
    else 0
theorem sg_ne (f : Nat → Nat) : ∀ n, sg_f f n ≠ 0 ↔ ∃ i, i < n ∧ f i ≠ 0
  | 0 => ⟨fun h => absurd rfl h, fun ⟨i, hi, _⟩ => absurd hi (Nat.not_lt_zero i)⟩
  | n + 1 => by
    have ih := sg_ne f n
    show sg_f f n + f n ≠ 0 ↔ _
    constructor
    · intro h
      by_cases q : f n = 0
      · obtain ⟨i, h1, h2⟩ := ih.mp (by omega)
        exact ⟨i, by omega, h2⟩
      · exact ⟨n, by omega, q⟩
    · rintro ⟨i, h1, h2⟩
      by_cases q : i = n
      · subst q; omega
      · have := ih.mpr ⟨i, by omega, h2⟩
        omega
theorem if10 (c : Prop) [Decidable c] : (if c then 1 else 0 : Nat) ≠ 0 ↔ c := by
  by_cases h : c <;> simp [h]
theorem me_ne (v : Int32) (T : Nat → Nat → Int64) (x y : Nat) : me_f false v T x y ≠ 0 ↔ ∃ b, b < 8 ∧ bt_f v.toInt64 b = true ∧ bt_f (T b x) y = true := by
  unfold me_f
  rw [sg_ne]
  constructor
  · rintro ⟨i, h1, h2⟩
    by_cases q : bt_f v.toInt64 i = true
    · rw [if_pos q] at h2
      unfold ma_f at h2
      by_cases q2 : bt_f (T i x) y = true
      · exact ⟨i, h1, q, q2⟩
      · simp [q2] at h2
    · rw [if_neg q] at h2; exact absurd rfl h2
  · rintro ⟨i, h1, h2, h3⟩
    refine ⟨i, h1, ?_⟩
    rw [if_pos h2]
    unfold ma_f
    simp [h3]
theorem ma_eq {R : Nat → Int64} {x y c : Nat} (h : bt_f (R x) y = true ↔ c ≠ 0) (h1 : c = 0 ∨ c = 1) : ma_f false R x y = c := by
  unfold ma_f
  by_cases q : bt_f (R x) y = true
  · have := h.mp q
    simp [q]; omega
  · have : ¬ c ≠ 0 := fun z => q (h.mpr z)
    simp [q]; omega
set_option maxHeartbeats 4000000 in
theorem sm_all {T : Nat → Nat → Int64} {wd ks ls ss : Nat → Int32} {R : Nat → Nat → Int64} {parts : Nat} (hrv : rv_f T ks ls ss R parts) (h40 : parts ≤ 40) : ∀ (d a t b t1 : Nat), tb_f wd ks ls ss d a t b t1 → t1 ≤ parts →
    en_f wd d a = b ∧ (∀ x, x < 64 → ∀ y, y < 64 → ct_f T ks ls ss R d t x y = cn_f T wd d a x y) ∧ (∀ x, x < 64 → ∀ y, y < 64 → (bt_f (R t x) y = true ↔ cn_f T wd d a x y ≠ 0))
  | 0, _, _, _, _, h, _ => h.elim
  | d + 1, a, t, b, t1, h, ht => by
    have hlt := tb_lt wd ks ls ss (d + 1) a t b t1 h
    have hR := hrv t (by omega)
    obtain ⟨h0, h1, h2, h3⟩ := h
    by_cases c : wd a = 0 ∨ wd a = 7
    · obtain ⟨g1, g2, g3⟩ := h1 c
      have ck : ks t = 0 ∨ ks t = 7 := by rw [h0]; exact c
      have e : ∀ x y, cn_f T wd (d + 1) a x y = me_f false (ls t) T x y := fun x y => by rw [g3]; exact if_pos c
      refine ⟨(if_pos c).trans g1.symm, fun x hx y hy => ?_, fun x hx y hy => ?_⟩
      · rw [e]; exact if_pos ck
      · rw [hR x hx y hy, e, me_ne]
        unfold rl_f
        simp [ck]
    · have ck : ¬ (ks t = 0 ∨ ks t = 7) := by rw [h0]; exact c
      by_cases c2 : wd a = 2 ∨ wd a = 3
      · obtain ⟨b1, t2, g1, g2, g3⟩ := h2 c c2
        have l1 := tb_lt wd ks ls ss d _ _ _ _ g1
        have l2 := tb_lt wd ks ls ss d _ _ _ _ g3
        obtain ⟨p1, p2, p3⟩ := sm_all hrv h40 d _ _ _ _ g1 (by omega)
        obtain ⟨q1, q2, q3⟩ := sm_all hrv h40 d _ _ _ _ g3 ht
        have hq : (ss t).toNatClampNeg = t2 := by rw [g2]; exact nI_clamp (by omega)
        have n1 : ¬ wd a = 1 := fun z => by rw [z] at c2; exact absurd c2 (by decide)
        have ee : en_f wd (d + 1) a = b := (if_neg c).trans ((if_pos c2).trans (by rw [p1, q1]))
        rcases c2 with k2 | k3
        · have e : ∀ x y, cn_f T wd (d + 1) a x y = sg_f (fun z => cn_f T wd d (a + 1) x z * cn_f T wd d b1 z y) 64 := fun x y => (if_neg c).trans ((if_neg n1).trans ((if_pos k2).trans (by rw [p1])))
          refine ⟨ee, fun x hx y hy => ?_, fun x hx y hy => ?_⟩
          · rw [e]
            refine (if_neg ck).trans ((if_neg (by rw [h0]; exact n1)).trans ((if_pos (by rw [h0]; exact k2)).trans ?_))
            rw [hq]
            exact sg_congr (fun z hz => by rw [p2 x hx z hz, q2 z hz y hy])
          · rw [hR x hx y hy, e, sg_ne]
            unfold rl_f rs_f
            rw [hq, h0, k2]
            simp only [show ¬ ((2 : Int32) = 0 ∨ (2 : Int32) = 7) by decide, false_and, false_or, not_false_eq_true, true_and, show ¬ (2 : Int32) = 1 by decide, show ¬ (2 : Int32) = 3 by decide, show ¬ (2 : Int32) = 4 by decide, show ¬ (2 : Int32) = 5 by decide, show ¬ (2 : Int32) = 6 by decide, or_false]
            constructor
            · rintro ⟨z, hz, z1, z2⟩
              exact ⟨z, hz, Nat.mul_ne_zero ((p3 x hx z hz).mp z1) ((q3 z hz y hy).mp z2)⟩
            · rintro ⟨z, hz, z1⟩
              exact ⟨z, hz, (p3 x hx z hz).mpr (fun q => z1 (by rw [q, Nat.zero_mul])), (q3 z hz y hy).mpr (fun q => z1 (by rw [q, Nat.mul_zero]))⟩
        · have n2 : ¬ wd a = 2 := fun z => by rw [z] at k3; exact absurd k3 (by decide)
          have e : ∀ x y, cn_f T wd (d + 1) a x y = cn_f T wd d (a + 1) x y + cn_f T wd d b1 x y := fun x y => (if_neg c).trans ((if_neg n1).trans ((if_neg n2).trans ((if_pos k3).trans (by rw [p1]))))
          refine ⟨ee, fun x hx y hy => ?_, fun x hx y hy => ?_⟩
          · rw [e]
            refine (if_neg ck).trans ((if_neg (by rw [h0]; exact n1)).trans ((if_neg (by rw [h0]; exact n2)).trans ((if_pos (by rw [h0]; exact k3)).trans ?_)))
            rw [hq, p2 x hx y hy, q2 x hx y hy]
          · rw [hR x hx y hy, e]
            unfold rl_f rs_f
            rw [hq, h0, k3]
            simp only [show ¬ ((3 : Int32) = 0 ∨ (3 : Int32) = 7) by decide, false_and, false_or, not_false_eq_true, true_and, show ¬ (3 : Int32) = 1 by decide, show ¬ (3 : Int32) = 2 by decide, show ¬ (3 : Int32) = 4 by decide, show ¬ (3 : Int32) = 5 by decide, show ¬ (3 : Int32) = 6 by decide, or_false]
            rw [p3 x hx y hy, q3 x hx y hy]
            omega
      · obtain ⟨g1, g2⟩ := h3 c c2
        have l1 := tb_lt wd ks ls ss d _ _ _ _ g2
        obtain ⟨p1, p2, p3⟩ := sm_all hrv h40 d _ _ _ _ g2 ht
        have n2 : ¬ wd a = 2 := fun z => c2 (Or.inl z)
        have n3 : ¬ wd a = 3 := fun z => c2 (Or.inr z)
        have ee : en_f wd (d + 1) a = b := (if_neg c).trans ((if_neg c2).trans p1)
        have hbm : ∀ x, x < 64 → ∀ y, y < 64 → bm_f (R (t + 1)) x y = nz_f (cn_f T wd d (a + 1)) x y := fun x hx y hy => by
          have := p3 x hx y hy
          unfold bm_f nz_f
          by_cases q : bt_f (R (t + 1) x) y = true
          · rw [q]; exact (decide_eq_true (this.mp q)).symm
          · have q2 : ¬ cn_f T wd d (a + 1) x y ≠ 0 := fun z => q (this.mpr z)
            rw [Bool.not_eq_true] at q
            rw [q]; exact (decide_eq_false q2).symm
        have hwz : ∀ x, x < 64 → ∀ y, y < 64 → wz_f (bm_f (R (t + 1))) 64 x y = wz_f (nz_f (cn_f T wd d (a + 1))) 64 x y := fun x hx y hy => wz_congr hbm 64 (Nat.le_refl 64) x hx y hy
        by_cases k1 : wd a = 1
        · have e : ∀ x y, cn_f T wd (d + 1) a x y = cn_f T wd d (a + 1) y x := fun x y => (if_neg c).trans (if_pos k1)
          refine ⟨ee, fun x hx y hy => ?_, fun x hx y hy => ?_⟩
          · rw [e, ← p2 y hy x hx]
            exact (if_neg ck).trans (if_pos (by rw [h0]; exact k1))
          · rw [hR x hx y hy, e, ← p3 y hy x hx]
            unfold rl_f rs_f
            rw [h0, k1]
            simp
        · have hct : ∀ x y, ct_f T ks ls ss R (d + 1) t x y = ma_f false (R t) x y := fun x y => (if_neg ck).trans ((if_neg (by rw [h0]; exact k1)).trans ((if_neg (by rw [h0]; exact n2)).trans (if_neg (by rw [h0]; exact n3))))
          have key : ∀ x, x < 64 → ∀ y, y < 64 → (bt_f (R t x) y = true ↔ cn_f T wd (d + 1) a x y ≠ 0) ∧ (cn_f T wd (d + 1) a x y = 0 ∨ cn_f T wd (d + 1) a x y = 1) := by
            intro x hx y hy
            have hr := hR x hx y hy
            unfold rl_f rs_f at hr
            rw [h0] at hr
            by_cases k4 : wd a = 4
            · have e : cn_f T wd (d + 1) a x y = if nz_f (cn_f T wd d (a + 1)) x y = true ∨ y = x then 1 else 0 := (if_neg c).trans ((if_neg k1).trans ((if_neg n2).trans ((if_neg n3).trans (if_pos k4))))
              rw [e, if10]
              refine ⟨?_, by split <;> simp⟩
              rw [hr, k4, ← hbm x hx y hy]
              unfold bm_f
              simp
            · by_cases k5 : wd a = 5
              · have e : cn_f T wd (d + 1) a x y = if wz_f (nz_f (cn_f T wd d (a + 1))) 64 x y = true ∨ y = x then 1 else 0 := (if_neg c).trans ((if_neg k1).trans ((if_neg n2).trans ((if_neg n3).trans ((if_neg k4).trans (if_pos k5)))))
                rw [e, if10]
                refine ⟨?_, by split <;> simp⟩
                rw [hr, k5, ← hwz x hx y hy]
                simp
              · by_cases k6 : wd a = 6
                · have e : cn_f T wd (d + 1) a x y = if wz_f (nz_f (cn_f T wd d (a + 1))) 64 x y = true then 1 else 0 := (if_neg c).trans ((if_neg k1).trans ((if_neg n2).trans ((if_neg n3).trans ((if_neg k4).trans ((if_neg k5).trans (if_pos k6))))))
                  rw [e, if10]
                  refine ⟨?_, by split <;> simp⟩
                  rw [hr, k6, ← hwz x hx y hy]
                  simp
                · have e : cn_f T wd (d + 1) a x y = 0 := (if_neg c).trans ((if_neg k1).trans ((if_neg n2).trans ((if_neg n3).trans ((if_neg k4).trans ((if_neg k5).trans (if_neg k6))))))
                  rw [e]
                  refine ⟨?_, Or.inl rfl⟩
                  rw [hr]
                  simp [c, k1, n2, n3, k4, k5, k6]
          refine ⟨ee, fun x hx y hy => ?_, fun x hx y hy => (key x hx y hy).1⟩
          rw [hct]
          exact ma_eq (key x hx y hy).1 (key x hx y hy).2
