/-! SUMS up to 10^15 -/
def C15 : Nat := 1000000000000000
def cp_f (n : Nat) : Nat := if n < C15 then n else C15
def sg_f (f : Nat → Nat) : Nat → Nat
  | 0 => 0
  | n + 1 => sg_f f n + f n
theorem cp_le (n : Nat) : cp_f n ≤ C15 := by unfold cp_f; split <;> omega
theorem cp_id {n : Nat} (h : n ≤ C15) : cp_f n = n := by unfold cp_f; split <;> omega
theorem cp_big {n : Nat} (h : C15 ≤ n) : cp_f n = C15 := by unfold cp_f; split <;> omega
theorem cp_cp (n : Nat) : cp_f (cp_f n) = cp_f n := cp_id (cp_le n)
theorem cp_add (a b : Nat) : cp_f (cp_f a + b) = cp_f (a + b) := by
  rcases Nat.lt_or_ge a C15 with h | h
  · rw [cp_id (Nat.le_of_lt h)]
  · rw [cp_big h, cp_big (show C15 ≤ C15 + b by omega), cp_big (show C15 ≤ a + b by omega)]
theorem cp_add' (a b : Nat) : cp_f (a + cp_f b) = cp_f (a + b) := by rw [Nat.add_comm, cp_add, Nat.add_comm]
theorem cp_mul (a s c : Nat) : cp_f (a + cp_f s * c) = cp_f (a + s * c) := by
  rcases Nat.lt_or_ge s C15 with h | h
  · rw [cp_id (Nat.le_of_lt h)]
  · rw [cp_big h]
    rcases Nat.eq_zero_or_pos c with q | q
    · subst q; simp
    · have h1 : C15 * 1 ≤ C15 * c := Nat.mul_le_mul_left _ q
      have h2 : C15 * c ≤ s * c := Nat.mul_le_mul_right _ h
      rw [cp_big (show C15 ≤ a + C15 * c by omega), cp_big (show C15 ≤ a + s * c by omega)]
theorem sg_congr {f g : Nat → Nat} : ∀ {n : Nat}, (∀ i, i < n → f i = g i) → sg_f f n = sg_f g n
  | 0, _ => rfl
  | n + 1, h => by
    show sg_f f n + f n = sg_f g n + g n
    rw [sg_congr (fun i hi => h i (by omega)), h n (by omega)]
theorem sg_add (f g : Nat → Nat) : ∀ n : Nat, sg_f (fun i => f i + g i) n = sg_f f n + sg_f g n
  | 0 => rfl
  | n + 1 => by
    show sg_f (fun i => f i + g i) n + (f n + g n) = sg_f f n + f n + (sg_f g n + g n)
    rw [sg_add f g n]; omega
theorem sg_mul (c : Nat) (f : Nat → Nat) : ∀ n : Nat, sg_f (fun i => c * f i) n = c * sg_f f n
  | 0 => rfl
  | n + 1 => by
    show sg_f (fun i => c * f i) n + c * f n = c * (sg_f f n + f n)
    rw [sg_mul c f n, Nat.mul_add]
theorem sg_mulr (c : Nat) (f : Nat → Nat) (n : Nat) : sg_f (fun i => f i * c) n = sg_f f n * c := by
  rw [Nat.mul_comm, ← sg_mul]
  exact sg_congr (fun i _ => Nat.mul_comm _ _)
theorem sg_zero (n : Nat) : sg_f (fun _ => 0) n = 0 := by
  induction n with
  | zero => rfl
  | succ n ih => show sg_f (fun _ => 0) n + 0 = 0; rw [ih]
theorem sg_swap (f : Nat → Nat → Nat) (m : Nat) : ∀ n : Nat, sg_f (fun i => sg_f (fun j => f i j) m) n = sg_f (fun j => sg_f (fun i => f i j) n) m
  | 0 => by show 0 = sg_f (fun _ => 0) m; rw [sg_zero]
  | n + 1 => by
    show sg_f (fun i => sg_f (fun j => f i j) m) n + sg_f (fun j => f n j) m = sg_f (fun j => sg_f (fun i => f i j) n + f n j) m
    rw [sg_swap f m n, ← sg_add]
/-- one place alone -/
theorem sg_one (f : Nat → Nat) {n k : Nat} (hk : k < n) (h : ∀ i, i < n → i ≠ k → f i = 0) : sg_f f n = f k := by
  induction n with
  | zero => exact absurd hk (Nat.not_lt_zero k)
  | succ n ih =>
    show sg_f f n + f n = f k
    by_cases e : k = n
    · subst e
      have : sg_f f k = sg_f (fun _ => 0) k := sg_congr (fun i hi => h i (by omega) (by omega))
      rw [this, sg_zero, Nat.zero_add]
    · rw [ih (by omega) (fun i hi hne => h i (by omega) hne), h n (by omega) (fun q => e q.symm), Nat.add_zero]
theorem cp_sg (f g : Nat → Nat) (a : Nat) (n : Nat) : cp_f (a + sg_f (fun i => cp_f (f i) * g i) n) = cp_f (a + sg_f (fun i => f i * g i) n) := by
  induction n generalizing a with
  | zero => rfl
  | succ n ih =>
    show cp_f (a + (sg_f (fun i => cp_f (f i) * g i) n + cp_f (f n) * g n)) = cp_f (a + (sg_f (fun i => f i * g i) n + f n * g n))
    have e1 : a + (sg_f (fun i => cp_f (f i) * g i) n + cp_f (f n) * g n) = (a + sg_f (fun i => cp_f (f i) * g i) n) + cp_f (f n) * g n := by omega
    have e2 : a + (sg_f (fun i => f i * g i) n + f n * g n) = (a + f n * g n) + sg_f (fun i => f i * g i) n := by omega
    have e3 : (a + sg_f (fun i => cp_f (f i) * g i) n) + f n * g n = (a + f n * g n) + sg_f (fun i => cp_f (f i) * g i) n := by omega
    rw [e1, cp_mul, e3, ih, e2]
theorem lc_lt (x y : Int64) : lg_cmp x y < 0 ↔ x < y := by
  unfold lg_cmp
  split
  · rename_i h
    constructor
    · intro q; exact absurd q (by decide)
    · intro q
      have := Int64.lt_iff_toInt_lt.mp q
      have := Int64.lt_iff_toInt_lt.mp h
      omega
  · split
    · rename_i h1 h2
      subst h2
      constructor
      · intro q; exact absurd q (by decide)
      · intro q; exact absurd q h1
    · rename_i h1 h2
      constructor
      · intro _
        have a : ¬ y.toInt < x.toInt := fun q => h1 (Int64.lt_iff_toInt_lt.mpr q)
        have b : ¬ x.toInt = y.toInt := fun q => h2 (Int64.toInt_inj.mp q)
        exact Int64.lt_iff_toInt_lt.mpr (by omega)
      · intro _; decide
theorem lc_eq (x y : Int64) : lg_cmp x y = 0 ↔ x = y := by
  unfold lg_cmp
  split
  · rename_i h
    constructor
    · intro q; exact absurd q (by decide)
    · intro q
      subst q
      have := Int64.lt_iff_toInt_lt.mp h
      omega
  · split
    · rename_i h2
      exact ⟨fun _ => h2, fun _ => rfl⟩
    · rename_i h1 h2
      constructor
      · intro q; exact absurd q (by decide)
      · intro q; exact absurd q h2
theorem lc_ge (x y : Int64) : 0 ≤ lg_cmp x y ↔ ¬ x < y := by
  rw [← lc_lt, Int32.not_lt]
