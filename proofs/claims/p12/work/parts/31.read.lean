/-! READING A PATH: what it is, and what the tables are behind it -/
def rd_f (wd : Nat → Int32) (n : Nat) : Nat → Nat → Nat → Bool × Nat × Nat
  | 0, a, t => (false, a, t)
  | d + 1, a, t =>
    if t < 40 ∧ a < n ∧ 0 ≤ wd a ∧ wd a ≤ 7 then
      if wd a = 0 ∨ wd a = 7 then
        if a + 1 < n ∧ 0 ≤ wd (a + 1) ∧ wd (a + 1) ≤ (if wd a = 0 then 7 else 255) then (true, a + 2, t + 1) else (false, a + 1, t + 1)
      else
        match rd_f wd n d (a + 1) (t + 1) with
        | (true, b, t2) => if wd a = 2 ∨ wd a = 3 then rd_f wd n d b t2 else (true, b, t2)
        | (false, f, t2) => (false, f, t2)
    else (false, a, t)
theorem rd_s (wd : Nat → Int32) (n d a t : Nat) : rd_f wd n (d + 1) a t = if t < 40 ∧ a < n ∧ 0 ≤ wd a ∧ wd a ≤ 7 then
      if wd a = 0 ∨ wd a = 7 then
        if a + 1 < n ∧ 0 ≤ wd (a + 1) ∧ wd (a + 1) ≤ (if wd a = 0 then 7 else 255) then (true, a + 2, t + 1) else (false, a + 1, t + 1)
      else
        match rd_f wd n d (a + 1) (t + 1) with
        | (true, b, t2) => if wd a = 2 ∨ wd a = 3 then rd_f wd n d b t2 else (true, b, t2)
        | (false, f, t2) => (false, f, t2)
    else (false, a, t) := rfl
theorem rd_no {wd : Nat → Int32} {n d a t : Nat} (h : ¬ (t < 40 ∧ a < n ∧ 0 ≤ wd a ∧ wd a ≤ 7)) : rd_f wd n (d + 1) a t = (false, a, t) := by
  rw [rd_s, if_neg h]
theorem rd_leaf {wd : Nat → Int32} {n d a t : Nat} (h : t < 40 ∧ a < n ∧ 0 ≤ wd a ∧ wd a ≤ 7) (h2 : wd a = 0 ∨ wd a = 7) : rd_f wd n (d + 1) a t = if a + 1 < n ∧ 0 ≤ wd (a + 1) ∧ wd (a + 1) ≤ (if wd a = 0 then 7 else 255) then (true, a + 2, t + 1) else (false, a + 1, t + 1) := by
  rw [rd_s, if_pos h, if_pos h2]
theorem rd_f1 {wd : Nat → Int32} {n d a t f t2 : Nat} (h : t < 40 ∧ a < n ∧ 0 ≤ wd a ∧ wd a ≤ 7) (h2 : ¬ (wd a = 0 ∨ wd a = 7)) (h3 : rd_f wd n d (a + 1) (t + 1) = (false, f, t2)) : rd_f wd n (d + 1) a t = (false, f, t2) := by
  rw [rd_s, if_pos h, if_neg h2, h3]
theorem rd_u {wd : Nat → Int32} {n d a t b t2 : Nat} (h : t < 40 ∧ a < n ∧ 0 ≤ wd a ∧ wd a ≤ 7) (h2 : ¬ (wd a = 0 ∨ wd a = 7)) (h3 : rd_f wd n d (a + 1) (t + 1) = (true, b, t2)) (h4 : ¬ (wd a = 2 ∨ wd a = 3)) : rd_f wd n (d + 1) a t = (true, b, t2) := by
  rw [rd_s, if_pos h, if_neg h2, h3]
  exact if_neg h4
theorem rd_b {wd : Nat → Int32} {n d a t b t2 : Nat} (h : t < 40 ∧ a < n ∧ 0 ≤ wd a ∧ wd a ≤ 7) (h2 : ¬ (wd a = 0 ∨ wd a = 7)) (h3 : rd_f wd n d (a + 1) (t + 1) = (true, b, t2)) (h4 : wd a = 2 ∨ wd a = 3) : rd_f wd n (d + 1) a t = rd_f wd n d b t2 := by
  rw [rd_s, if_pos h, if_neg h2, h3]
  exact if_pos h4
/-- where a reading ends: never behind the words' end; parts only grow, up to 40 -/
theorem rd_in (wd : Nat → Int32) (n : Nat) : ∀ (d a t : Nat) (ok : Bool) (b t1 : Nat), rd_f wd n d a t = (ok, b, t1) → a ≤ n → t ≤ 40 → b ≤ n ∧ a ≤ b ∧ t ≤ t1 ∧ t1 ≤ 40 ∧ (ok = true → a < b ∧ t < t1)
  | 0, a, t, ok, b, t1, h, ha, ht => by
    cases h
    exact ⟨ha, Nat.le_refl _, Nat.le_refl _, ht, fun q => by cases q⟩
  | d + 1, a, t, ok, b, t1, h, ha, ht => by
    by_cases c1 : t < 40 ∧ a < n ∧ 0 ≤ wd a ∧ wd a ≤ 7
    · obtain ⟨c1t, c1a, c1b, c1c⟩ := c1
      by_cases c2 : wd a = 0 ∨ wd a = 7
      · rw [rd_leaf ⟨c1t, c1a, c1b, c1c⟩ c2] at h
        by_cases c3 : a + 1 < n ∧ 0 ≤ wd (a + 1) ∧ wd (a + 1) ≤ (if wd a = 0 then 7 else 255)
        · rw [if_pos c3] at h
          cases h
          exact ⟨by omega, by omega, by omega, by omega, fun _ => by omega⟩
        · rw [if_neg c3] at h
          cases h
          exact ⟨by omega, by omega, by omega, by omega, fun q => by cases q⟩
      · rcases h1 : rd_f wd n d (a + 1) (t + 1) with ⟨ok1, b1, t2⟩
        have ih := rd_in wd n d (a + 1) (t + 1) ok1 b1 t2 h1 (by omega) (by omega)
        cases ok1 with
        | false =>
          rw [rd_f1 ⟨c1t, c1a, c1b, c1c⟩ c2 h1] at h
          cases h
          exact ⟨by omega, by omega, by omega, by omega, fun q => by cases q⟩
        | true =>
          have ih5 := ih.2.2.2.2 rfl
          by_cases c4 : wd a = 2 ∨ wd a = 3
          · rw [rd_b ⟨c1t, c1a, c1b, c1c⟩ c2 h1 c4] at h
            have ih2 := rd_in wd n d b1 t2 ok b t1 h (by omega) (by omega)
            exact ⟨by omega, by omega, by omega, by omega, fun q => by have := ih2.2.2.2.2 q; omega⟩
          · rw [rd_u ⟨c1t, c1a, c1b, c1c⟩ c2 h1 c4] at h
            cases h
            exact ⟨by omega, by omega, by omega, by omega, fun _ => by omega⟩
    · rw [rd_no c1] at h
      cases h
      exact ⟨ha, Nat.le_refl _, Nat.le_refl _, ht, fun q => by cases q⟩
def lb_f (k v : Int32) : Int32 := if k = 0 then (1 : Int32) <<< (v &&& 31) else 255 - v
/-- the tables of the part t that begins at the word a, and of the parts inside it, up to t1; it ends before the word b -/
def tb_f (wd ks ls ss : Nat → Int32) : Nat → Nat → Nat → Nat → Nat → Prop
  | 0, _, _, _, _ => False
  | d + 1, a, t, b, t1 => ks t = wd a ∧
    ((wd a = 0 ∨ wd a = 7) → b = a + 2 ∧ t1 = t + 1 ∧ ls t = lb_f (wd a) (wd (a + 1))) ∧
    (¬ (wd a = 0 ∨ wd a = 7) → (wd a = 2 ∨ wd a = 3) → ∃ b1 t2, tb_f wd ks ls ss d (a + 1) (t + 1) b1 t2 ∧ ss t = nI t2 ∧ tb_f wd ks ls ss d b1 t2 b t1) ∧
    (¬ (wd a = 0 ∨ wd a = 7) → ¬ (wd a = 2 ∨ wd a = 3) → ss t = nI t ∧ tb_f wd ks ls ss d (a + 1) (t + 1) b t1)
theorem tb_lt (wd ks ls ss : Nat → Int32) : ∀ (d a t b t1 : Nat), tb_f wd ks ls ss d a t b t1 → t < t1
  | 0, _, _, _, _, h => h.elim
  | d + 1, a, t, b, t1, h => by
    obtain ⟨-, h1, h2, h3⟩ := h
    by_cases c : wd a = 0 ∨ wd a = 7
    · have := (h1 c).2.1; omega
    · by_cases c2 : wd a = 2 ∨ wd a = 3
      · obtain ⟨b1, t2, g1, -, g2⟩ := h2 c c2
        have := tb_lt wd ks ls ss d _ _ _ _ g1
        have := tb_lt wd ks ls ss d _ _ _ _ g2
        omega
      · have := tb_lt wd ks ls ss d _ _ _ _ (h3 c c2).2; omega
theorem tb_congr (wd ks ls ss ks' ls' ss' : Nat → Int32) : ∀ (d a t b t1 : Nat), tb_f wd ks ls ss d a t b t1 → (∀ p, t ≤ p → p < t1 → ks' p = ks p ∧ ls' p = ls p ∧ ss' p = ss p) → tb_f wd ks' ls' ss' d a t b t1
  | 0, _, _, _, _, h, _ => h.elim
  | d + 1, a, t, b, t1, h, hc => by
    have hl := tb_lt wd ks ls ss (d + 1) a t b t1 h
    obtain ⟨h0, h1, h2, h3⟩ := h
    obtain ⟨e1, e2, e3⟩ := hc t (Nat.le_refl t) hl
    refine ⟨e1.trans h0, fun c => ?_, fun c c2 => ?_, fun c c2 => ?_⟩
    · obtain ⟨g1, g2, g3⟩ := h1 c
      exact ⟨g1, g2, e2.trans g3⟩
    · obtain ⟨b1, t2, g1, g2, g3⟩ := h2 c c2
      have l1 := tb_lt wd ks ls ss d _ _ _ _ g1
      have l2 := tb_lt wd ks ls ss d _ _ _ _ g3
      exact ⟨b1, t2, tb_congr wd ks ls ss ks' ls' ss' d _ _ _ _ g1 (fun p hp1 hp2 => hc p (by omega) (by omega)), e3.trans g2, tb_congr wd ks ls ss ks' ls' ss' d _ _ _ _ g3 (fun p hp1 hp2 => hc p (by omega) (by omega))⟩
    · exact ⟨e3.trans (h3 c c2).1, tb_congr wd ks ls ss ks' ls' ss' d _ _ _ _ (h3 c c2).2 (fun p hp1 hp2 => hc p (by omega) (by omega))⟩
/-- the tables, part by part: where a part's parts are -/
def fl_f (ks ss : Nat → Int32) (parts : Nat) : Prop := ∀ p, p < parts → ¬ (ks p = 0 ∨ ks p = 7) → p + 1 < parts ∧ ∃ q, q < parts ∧ p ≤ q ∧ ss p = nI q ∧ ((ks p = 2 ∨ ks p = 3) → p < q)
theorem tb_fl (wd ks ls ss : Nat → Int32) : ∀ (d a t b t1 : Nat), tb_f wd ks ls ss d a t b t1 → ∀ p, t ≤ p → p < t1 → ¬ (ks p = 0 ∨ ks p = 7) → p + 1 < t1 ∧ ∃ q, q < t1 ∧ p ≤ q ∧ ss p = nI q ∧ ((ks p = 2 ∨ ks p = 3) → p < q)
  | 0, _, _, _, _, h => h.elim
  | d + 1, a, t, b, t1, h => by
    intro p hp1 hp2 hp3
    obtain ⟨h0, h1, h2, h3⟩ := h
    by_cases c : wd a = 0 ∨ wd a = 7
    · obtain ⟨-, g2, -⟩ := h1 c
      have : p = t := by omega
      subst this
      rw [h0] at hp3
      exact absurd c hp3
    · by_cases c2 : wd a = 2 ∨ wd a = 3
      · obtain ⟨b1, t2, g1, g2, g3⟩ := h2 c c2
        have l1 := tb_lt wd ks ls ss d _ _ _ _ g1
        have l2 := tb_lt wd ks ls ss d _ _ _ _ g3
        rcases Nat.lt_trichotomy p t with q | q | q
        · omega
        · subst q
          exact ⟨by omega, t2, by omega, by omega, g2, fun _ => by omega⟩
        · rcases Nat.lt_or_ge p t2 with q2 | q2
          · obtain ⟨k1, x, k2, k3, k4, k5⟩ := tb_fl wd ks ls ss d _ _ _ _ g1 p (by omega) q2 hp3
            exact ⟨by omega, x, by omega, k3, k4, k5⟩
          · exact tb_fl wd ks ls ss d _ _ _ _ g3 p q2 hp2 hp3
      · obtain ⟨g1, g2⟩ := h3 c c2
        have l1 := tb_lt wd ks ls ss d _ _ _ _ g2
        by_cases q : p = t
        · subst q
          exact ⟨by omega, p, by omega, Nat.le_refl p, g1, fun k => by rw [h0] at k; exact absurd k c2⟩
        · obtain ⟨k1, x, k2, k3, k4, k5⟩ := tb_fl wd ks ls ss d _ _ _ _ g2 p (by omega) hp2 hp3
          exact ⟨by omega, x, by omega, k3, k4, k5⟩
/-- the path's cells over a world -/
def p_w (X : Lay) (w : Wd) (wd : Nat → Int32) (nn tt ft : Int32) (ks ls ss : Nat → Int32) : Wd := fun g i => if i = 0 then (if g = 4 then oB 2 [.ref (pw_a X 5 0), .ref (pw_a X 6 0), .ref (pw_a X 7 0), .ref (pw_a X 8 0), .int nn, .int tt, .int ft] else if g = 5 then aI X 60 wd else if g = 6 then aI X 40 ks else if g = 7 then aI X 40 ls else if g = 8 then aI X 40 ss else w g i) else w g i
theorem p_u4 {X : Lay} {w : Wd} {wd ks ls ss : Nat → Int32} {nn tt ft : Int32} {n1 t1 f1 : Int32} : pw_up (p_w X w wd nn tt ft ks ls ss) 4 0 (oB 2 [.ref (pw_a X 5 0), .ref (pw_a X 6 0), .ref (pw_a X 7 0), .ref (pw_a X 8 0), .int n1, .int t1, .int f1]) = p_w X w wd n1 t1 f1 ks ls ss := by
  funext g i
  by_cases hi : i = 0
  · by_cases hg : g = 4
    · subst hi; subst hg; rfl
    · rw [pw_up_ne _ _ (fun q => hg q.1)]
      simp only [p_w, hi, hg, if_true, if_false]
  · rw [pw_up_ne _ _ (fun q => hi q.2)]
    simp only [p_w, hi, if_false]
theorem p_u5 {X : Lay} {w : Wd} {wd ks ls ss : Nat → Int32} {nn tt ft : Int32} {f : Nat → Int32} : pw_up (p_w X w wd nn tt ft ks ls ss) 5 0 (aI X 60 f) = p_w X w f nn tt ft ks ls ss := by
  funext g i
  by_cases hi : i = 0
  · by_cases hg : g = 5
    · subst hi; subst hg; rfl
    · rw [pw_up_ne _ _ (fun q => hg q.1)]
      simp only [p_w, hi, hg, if_true, if_false]
  · rw [pw_up_ne _ _ (fun q => hi q.2)]
    simp only [p_w, hi, if_false]
theorem p_u6 {X : Lay} {w : Wd} {wd ks ls ss : Nat → Int32} {nn tt ft : Int32} {f : Nat → Int32} : pw_up (p_w X w wd nn tt ft ks ls ss) 6 0 (aI X 40 f) = p_w X w wd nn tt ft f ls ss := by
  funext g i
  by_cases hi : i = 0
  · by_cases hg : g = 6
    · subst hi; subst hg; rfl
    · rw [pw_up_ne _ _ (fun q => hg q.1)]
      simp only [p_w, hi, hg, if_true, if_false]
  · rw [pw_up_ne _ _ (fun q => hi q.2)]
    simp only [p_w, hi, if_false]
theorem p_u7 {X : Lay} {w : Wd} {wd ks ls ss : Nat → Int32} {nn tt ft : Int32} {f : Nat → Int32} : pw_up (p_w X w wd nn tt ft ks ls ss) 7 0 (aI X 40 f) = p_w X w wd nn tt ft ks f ss := by
  funext g i
  by_cases hi : i = 0
  · by_cases hg : g = 7
    · subst hi; subst hg; rfl
    · rw [pw_up_ne _ _ (fun q => hg q.1)]
      simp only [p_w, hi, hg, if_true, if_false]
  · rw [pw_up_ne _ _ (fun q => hi q.2)]
    simp only [p_w, hi, if_false]
theorem p_u8 {X : Lay} {w : Wd} {wd ks ls ss : Nat → Int32} {nn tt ft : Int32} {f : Nat → Int32} : pw_up (p_w X w wd nn tt ft ks ls ss) 8 0 (aI X 40 f) = p_w X w wd nn tt ft ks ls f := by
  funext g i
  by_cases hi : i = 0
  · by_cases hg : g = 8
    · subst hi; subst hg; rfl
    · rw [pw_up_ne _ _ (fun q => hg q.1)]
      simp only [p_w, hi, hg, if_true, if_false]
  · rw [pw_up_ne _ _ (fun q => hi q.2)]
    simp only [p_w, hi, if_false]
theorem p_row {X : Lay} {w : Wd} {wd ks ls ss : Nat → Int32} {nn tt ft : Int32} {g : Nat} (h4 : g ≠ 4) (h5 : g ≠ 5) (h6 : g ≠ 6) (h7 : g ≠ 7) (h8 : g ≠ 8) : p_w X w wd nn tt ft ks ls ss g = w g := by
  funext i
  by_cases hi : i = 0
  · simp only [p_w, hi, h4, h5, h6, h7, h8, if_true, if_false]
  · simp only [p_w, hi, if_false]
theorem p_ww {X : Lay} {w : Wd} {wd ks ls ss : Nat → Int32} {nn tt ft : Int32} {wd' ks' ls' ss' : Nat → Int32} {n' t' f' : Int32} : p_w X (p_w X w wd' n' t' f' ks' ls' ss') wd nn tt ft ks ls ss = p_w X w wd nn tt ft ks ls ss := by
  funext g i
  by_cases hi : i = 0
  · by_cases h4 : g = 4
    · simp only [p_w, hi, h4, if_true]
    · by_cases h5 : g = 5
      · simp [p_w, hi, h5]
      · by_cases h6 : g = 6
        · simp [p_w, hi, h6]
        · by_cases h7 : g = 7
          · simp [p_w, hi, h7]
          · by_cases h8 : g = 8
            · simp [p_w, hi, h8]
            · simp only [p_w, hi, h4, h5, h6, h7, h8, if_true, if_false]
  · simp only [p_w, hi, if_false]
/-- which keys there are -/
def dm_k (g i : Nat) : Bool := if g = 3 then decide (i < 8) else if g = 11 then decide (i < 40) else if g = 16 then decide (i < 12) else decide ((g < 17 ∨ 19 < g) ∧ g < 27 ∧ i = 0)
def Dm (X : Lay) : Prop := ∀ g i, dm_k g i = true → pw_d X g i
theorem fc_neg : ∀ b, b < 200 → (-100 - nI b : Int32) < 0 := by decide +kernel
