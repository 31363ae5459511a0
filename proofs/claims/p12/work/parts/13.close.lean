/-! CLOSURES. wz_f r z: ways whose inner points are all below z -/
def wz_f (r : Nat → Nat → Bool) : Nat → Nat → Nat → Bool
  | 0 => r
  | z + 1 => fun x y => wz_f r z x y || (wz_f r z x z && wz_f r z z y)
theorem wz_col (r : Nat → Nat → Bool) (z x : Nat) : wz_f r (z + 1) x z = wz_f r z x z := by
  show (wz_f r z x z || (wz_f r z x z && wz_f r z z z)) = _
  cases wz_f r z x z <;> simp
theorem wz_row (r : Nat → Nat → Bool) (z y : Nat) : wz_f r (z + 1) z y = wz_f r z z y := by
  show (wz_f r z z y || (wz_f r z z z && wz_f r z z y)) = _
  cases wz_f r z z y <;> simp
theorem wz_mono (r : Nat → Nat → Bool) {z x y : Nat} (h : wz_f r z x y = true) : wz_f r (z + 1) x y = true := by
  show (wz_f r z x y || _) = true
  rw [h, Bool.true_or]
theorem wz_le (r : Nat → Nat → Bool) {a b x y : Nat} (hab : a ≤ b) (h : wz_f r a x y = true) : wz_f r b x y = true := by
  induction b with
  | zero => rw [show a = 0 by omega] at h; exact h
  | succ b ih =>
    rcases Nat.lt_or_ge b a with q | q
    · rw [show a = b + 1 by omega] at h; exact h
    · exact wz_mono r (ih q)
theorem wz_trans (r : Nat → Nat → Bool) : ∀ (z m x y : Nat), m < z → wz_f r z x m = true → wz_f r z m y = true → wz_f r z x y = true
  | 0, m, x, y, hm, _, _ => absurd hm (Nat.not_lt_zero m)
  | z + 1, m, x, y, hm, h1, h2 => by
    by_cases e : m = z
    · subst e
      rw [wz_col] at h1
      rw [wz_row] at h2
      show (wz_f r m x y || (wz_f r m x m && wz_f r m m y)) = true
      rw [h1, h2]; simp
    · have hlt : m < z := by omega
      have ih := wz_trans r z m
      have g1 : wz_f r z x m = true ∨ (wz_f r z x z = true ∧ wz_f r z z m = true) := by
        have : (wz_f r z x m || (wz_f r z x z && wz_f r z z m)) = true := h1
        simpa using this
      have g2 : wz_f r z m y = true ∨ (wz_f r z m z = true ∧ wz_f r z z y = true) := by
        have : (wz_f r z m y || (wz_f r z m z && wz_f r z z y)) = true := h2
        simpa using this
      show (wz_f r z x y || (wz_f r z x z && wz_f r z z y)) = true
      rcases g1 with a | ⟨a, b⟩ <;> rcases g2 with c | ⟨c, d⟩
      · rw [ih x y hlt a c]; simp
      · rw [ih x z hlt a c, d]; simp
      · rw [a, ih z y hlt b c]; simp
      · rw [a, d]; simp
/-- all points below n: the whole closure -/
theorem wz_iff (r : Nat → Nat → Bool) (n : Nat) (hn : ∀ x y, r x y = true → x < n ∧ y < n) (x y : Nat) : wz_f r n x y = true ↔ Relation.TransGen (fun a b => r a b = true) x y := by
  constructor
  · have go : ∀ (z x y : Nat), wz_f r z x y = true → Relation.TransGen (fun a b => r a b = true) x y := by
      intro z
      induction z with
      | zero => exact fun x y h => .single h
      | succ z ih =>
        intro x y h
        have : (wz_f r z x y || (wz_f r z x z && wz_f r z z y)) = true := h
        rcases (by simpa using this : wz_f r z x y = true ∨ (wz_f r z x z = true ∧ wz_f r z z y = true)) with a | ⟨a, b⟩
        · exact ih x y a
        · exact (ih x z a).trans (ih z y b)
    exact go n x y
  · intro h
    induction h with
    | single h => exact wz_le r (Nat.zero_le n) h
    | tail h1 h2 ih => exact wz_trans r n _ _ _ (hn _ _ h2).1 ih (wz_le r (Nat.zero_le n) h2)
