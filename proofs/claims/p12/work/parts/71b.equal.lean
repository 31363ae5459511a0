/-! THE ANSWERS OF BOTH SIDES -/
theorem j_two {V : Type} {r1 r2 bad no : V} {a b : Int32} {L : Prop} {f : Nat → Nat → V}
    (h1 : (¬ (is_n a 64 ∧ is_n b 64) ∧ r1 = bad) ∨ (is_n a 64 ∧ is_n b 64 ∧ ¬ L ∧ r1 = no) ∨ (L ∧ ∃ i j, i < 64 ∧ j < 64 ∧ a = nI i ∧ b = nI j ∧ r1 = f i j))
    (h2 : (¬ (is_n a 64 ∧ is_n b 64) ∧ r2 = bad) ∨ (is_n a 64 ∧ is_n b 64 ∧ ¬ L ∧ r2 = no) ∨ (L ∧ ∃ i j, i < 64 ∧ j < 64 ∧ a = nI i ∧ b = nI j ∧ r2 = f i j)) : r1 = r2 := by
  rcases h1 with ⟨p1, e1⟩ | ⟨a1, b1, l1, e1⟩ | ⟨l1, i, j, hi, hj, ea, eb, e1⟩
  · rcases h2 with ⟨p2, e2⟩ | ⟨a2, b2, l2, e2⟩ | ⟨l2, i2, j2, hi2, hj2, ea2, eb2, e2⟩
    · rw [e1, e2]
    · exact absurd ⟨a2, b2⟩ p1
    · exact absurd ⟨⟨i2, hi2, ea2⟩, ⟨j2, hj2, eb2⟩⟩ p1
  · rcases h2 with ⟨p2, e2⟩ | ⟨a2, b2, l2, e2⟩ | ⟨l2, i2, j2, hi2, hj2, ea2, eb2, e2⟩
    · exact absurd ⟨a1, b1⟩ p2
    · rw [e1, e2]
    · exact absurd l2 l1
  · rcases h2 with ⟨p2, e2⟩ | ⟨a2, b2, l2, e2⟩ | ⟨l2, i2, j2, hi2, hj2, ea2, eb2, e2⟩
    · exact absurd ⟨⟨i, hi, ea⟩, ⟨j, hj, eb⟩⟩ p2
    · exact absurd l1 l2
    · rw [e1, e2, nI_64 hi hi2 (ea.symm.trans ea2), nI_64 hj hj2 (eb.symm.trans eb2)]
theorem j_one {V : Type} {r1 r2 bad no : V} {a : Int32} {L : Prop} {f : Nat → V}
    (h1 : (¬ is_n a 64 ∧ r1 = bad) ∨ (is_n a 64 ∧ ¬ L ∧ r1 = no) ∨ (L ∧ ∃ i, i < 64 ∧ a = nI i ∧ r1 = f i))
    (h2 : (¬ is_n a 64 ∧ r2 = bad) ∨ (is_n a 64 ∧ ¬ L ∧ r2 = no) ∨ (L ∧ ∃ i, i < 64 ∧ a = nI i ∧ r2 = f i)) : r1 = r2 := by
  rcases h1 with ⟨p1, e1⟩ | ⟨a1, l1, e1⟩ | ⟨l1, i, hi, ea, e1⟩
  · rcases h2 with ⟨p2, e2⟩ | ⟨a2, l2, e2⟩ | ⟨l2, i2, hi2, ea2, e2⟩
    · rw [e1, e2]
    · exact absurd a2 p1
    · exact absurd ⟨i2, hi2, ea2⟩ p1
  · rcases h2 with ⟨p2, e2⟩ | ⟨a2, l2, e2⟩ | ⟨l2, i2, hi2, ea2, e2⟩
    · exact absurd a1 p2
    · rw [e1, e2]
    · exact absurd l2 l1
  · rcases h2 with ⟨p2, e2⟩ | ⟨a2, l2, e2⟩ | ⟨l2, i2, hi2, ea2, e2⟩
    · exact absurd ⟨i, hi, ea⟩ p2
    · exact absurd l1 l2
    · rw [e1, e2, nI_64 hi hi2 (ea.symm.trans ea2)]
/-- the bits of a row or of a column -/
theorem j_bits {r1 r2 : Int64} {a : Int32} {L : Prop} {f : Nat → Nat → Bool}
    (h1 : (¬ (L ∧ is_n a 64) ∧ r1 = 0) ∨ (L ∧ ∃ i, i < 64 ∧ a = nI i ∧ ∀ x, x < 64 → bt_f r1 x = f i x))
    (h2 : (¬ (L ∧ is_n a 64) ∧ r2 = 0) ∨ (L ∧ ∃ i, i < 64 ∧ a = nI i ∧ ∀ x, x < 64 → bt_f r2 x = f i x)) : r1 = r2 := by
  rcases h1 with ⟨p1, e1⟩ | ⟨l1, i, hi, ea, e1⟩
  · rcases h2 with ⟨p2, e2⟩ | ⟨l2, i2, hi2, ea2, e2⟩
    · rw [e1, e2]
    · exact absurd ⟨l2, i2, hi2, ea2⟩ p1
  · rcases h2 with ⟨p2, e2⟩ | ⟨l2, i2, hi2, ea2, e2⟩
    · exact absurd ⟨l1, i, hi, ea⟩ p2
    · have ei := nI_64 hi hi2 (ea.symm.trans ea2)
      subst ei
      exact bt_ext (fun x hx => (e1 x hx).trans (e2 x hx).symm)
theorem j_none {V : Type} {r1 r2 no v : V} {L : Prop} (h1 : (¬ L ∧ r1 = no) ∨ (L ∧ r1 = v)) (h2 : (¬ L ∧ r2 = no) ∨ (L ∧ r2 = v)) : r1 = r2 := by
  rcases h1 with ⟨l1, e1⟩ | ⟨l1, e1⟩
  · rcases h2 with ⟨l2, e2⟩ | ⟨l2, e2⟩
    · rw [e1, e2]
    · exact absurd l2 l1
  · rcases h2 with ⟨l2, e2⟩ | ⟨l2, e2⟩
    · exact absurd l1 l2
    · rw [e1, e2]
