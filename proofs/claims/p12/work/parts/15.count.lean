/-! HOW MANY BITS: the JDK's way, byte by byte -/
def pq_m (c : Nat) : Nat → Nat
  | 0 => 0
  | n + 1 => c + 256 * pq_m c n
def pq_b (f : Nat → Nat) : Nat → Nat → Nat
  | 0, _ => 0
  | n + 1, x => f (x % 256) + 256 * pq_b f n (x / 256)
theorem an_split (p q : Nat) : p &&& q = ((p % 256) &&& (q % 256)) + 256 * ((p / 256) &&& (q / 256)) := by
  have h1 : (p &&& q) % 2 ^ 8 = (p % 2 ^ 8) &&& (q % 2 ^ 8) := Nat.and_mod_two_pow
  have h2 : (p &&& q) / 2 ^ 8 = (p / 2 ^ 8) &&& (q / 2 ^ 8) := Nat.and_div_two_pow
  have h3 := Nat.div_add_mod (p &&& q) 256
  rw [show (2 : Nat) ^ 8 = 256 from rfl] at h1 h2
  rw [← h1, ← h2]
  omega
theorem mk_mod {c n : Nat} (hc : c < 256) : pq_m c (n + 1) % 256 = c := by
  show (c + 256 * pq_m c n) % 256 = c
  omega
theorem mk_div {c n : Nat} (hc : c < 256) : pq_m c (n + 1) / 256 = pq_m c n := by
  show (c + 256 * pq_m c n) / 256 = pq_m c n
  omega
def pq_1 (b : Nat) : Nat := b - ((b / 2) &&& 85)
def pq_2 (b : Nat) : Nat := (b &&& 51) + ((b / 4) &&& 51)
def pq_3 (b : Nat) : Nat := (b + b / 16) &&& 15
theorem f1_a : ∀ b, b < 256 → ∀ e, e < 2 → ((b / 2 + 128 * e) &&& 85) = (b / 2) &&& 85 := by decide +kernel
theorem f1_b : ∀ b, b < 256 → (b / 2) &&& 85 ≤ b := by decide +kernel
theorem f2_a : ∀ b, b < 256 → ∀ e, e < 4 → ((b / 4 + 64 * e) &&& 51) = (b / 4) &&& 51 := by decide +kernel
theorem st1 : ∀ (n x : Nat), x - ((x / 2) &&& pq_m 85 n) = pq_b pq_1 n x + (x - x % 256 ^ n)
  | 0, x => by simp [pq_m, pq_b, Nat.mod_one]
  | n + 1, x => by
    have ih := st1 n (x / 256)
    have hb : x % 256 < 256 := Nat.mod_lt _ (by decide)
    have e1 : (x / 2) % 256 = (x % 256) / 2 + 128 * ((x / 256) % 2) := by omega
    have e2 : (x / 2) / 256 = (x / 256) / 2 := by omega
    rw [an_split (x / 2), mk_mod (by decide), mk_div (by decide), e1, e2, f1_a _ hb _ (Nat.mod_lt _ (by decide))]
    have h1 := f1_b _ hb
    have h2 : (x / 256 / 2) &&& pq_m 85 n ≤ x / 256 / 2 := Nat.and_le_left
    have h3 : pq_b pq_1 (n + 1) x = pq_1 (x % 256) + 256 * pq_b pq_1 n (x / 256) := rfl
    have h4 : pq_1 (x % 256) = x % 256 - ((x % 256) / 2 &&& 85) := rfl
    have h5 : x % 256 ^ (n + 1) = x % 256 + 256 * ((x / 256) % 256 ^ n) := by
      rw [Nat.pow_succ, Nat.mul_comm, Nat.mod_mul]
    have h6 : (x / 256) % 256 ^ n ≤ x / 256 := Nat.mod_le _ _
    have h7 := Nat.div_add_mod x 256
    rw [h3, h4, h5]
    omega
theorem st2 : ∀ (n x : Nat), (x &&& pq_m 51 n) + ((x / 4) &&& pq_m 51 n) = pq_b pq_2 n x
  | 0, x => by simp [pq_m, pq_b]
  | n + 1, x => by
    have ih := st2 n (x / 256)
    have hb : x % 256 < 256 := Nat.mod_lt _ (by decide)
    have e1 : (x / 4) % 256 = (x % 256) / 4 + 64 * ((x / 256) % 4) := by omega
    have e2 : (x / 4) / 256 = (x / 256) / 4 := by omega
    rw [an_split x, an_split (x / 4), mk_mod (by decide), mk_div (by decide), e1, e2, f2_a _ hb _ (Nat.mod_lt _ (by decide))]
    have h3 : pq_b pq_2 (n + 1) x = pq_2 (x % 256) + 256 * pq_b pq_2 n (x / 256) := rfl
    have h4 : pq_2 (x % 256) = (x % 256 &&& 51) + ((x % 256) / 4 &&& 51) := rfl
    rw [h3, h4]
    omega
/-- every half byte is 4 at most -/
def pq_n : Nat → Nat → Prop
  | 0, x => x = 0
  | n + 1, x => x % 16 ≤ 4 ∧ x / 16 % 16 ≤ 4 ∧ pq_n n (x / 256)
theorem f3_a : ∀ b, b < 256 → ∀ e, e < 16 → ((b + b / 16 + 16 * e) &&& 15) = (b + b / 16) &&& 15 := by decide +kernel
theorem st3 : ∀ (n x : Nat), pq_n n x → (x + x / 16) &&& pq_m 15 n = pq_b pq_3 n x
  | 0, x, _ => by simp [pq_m, pq_b]
  | n + 1, x, h => by
    obtain ⟨h1, h2, h3⟩ := h
    have ih := st3 n (x / 256) h3
    have hb : x % 256 < 256 := Nat.mod_lt _ (by decide)
    have ht : x / 256 % 16 ≤ 4 := by
      cases n with
      | zero => rw [show x / 256 = 0 from h3]; decide
      | succ n => exact h3.1
    have q1 : x / 16 = x / 16 % 16 + 16 * (x / 256) := by omega
    have q2 : x % 256 = x % 16 + 16 * (x / 16 % 16) := by omega
    have q3 : x % 256 / 16 = x / 16 % 16 := by omega
    have q4 : x = x % 16 + 16 * (x / 16 % 16) + 256 * (x / 256) := by omega
    have q5 : x / 256 = x / 256 % 16 + 16 * (x / 256 / 16) := by omega
    have e0 : x + x / 16 = (x % 16 + 17 * (x / 16 % 16) + 16 * (x / 256 % 16)) + 256 * (x / 256 + x / 256 / 16) := by
      generalize x / 16 % 16 = b at q1 q2 q3 q4 h2
      generalize x % 16 = a at q2 q4 h1
      generalize x / 256 % 16 = t at q5 ht
      generalize x / 256 / 16 = v at q5
      generalize x / 256 = u at q1 q4 q5
      omega
    have e1 : (x + x / 16) % 256 = x % 256 + (x % 256) / 16 + 16 * (x / 256 % 16) := by
      rw [e0, q3, q2]
      generalize x / 16 % 16 = b at h2
      generalize x % 16 = a at h1
      generalize x / 256 % 16 = t at ht
      generalize x / 256 + x / 256 / 16 = v
      omega
    have e2 : (x + x / 16) / 256 = x / 256 + x / 256 / 16 := by
      rw [e0]
      generalize x / 16 % 16 = b at h2
      generalize x % 16 = a at h1
      generalize x / 256 % 16 = t at ht
      generalize x / 256 + x / 256 / 16 = v
      omega
    rw [an_split (x + x / 16), mk_mod (by decide), mk_div (by decide), e1, e2, f3_a _ hb _ (Nat.mod_lt _ (by decide)), ih]
    rfl
theorem bm_lt {f : Nat → Nat} (hf : ∀ b, b < 256 → f b < 256) : ∀ (n x : Nat), pq_b f n x < 256 ^ n
  | 0, x => by simp [pq_b]
  | n + 1, x => by
    have h1 := bm_lt hf n (x / 256)
    have h2 := hf (x % 256) (Nat.mod_lt _ (by decide))
    have h3 : pq_b f (n + 1) x = f (x % 256) + 256 * pq_b f n (x / 256) := rfl
    rw [h3, Nat.pow_succ]
    omega
theorem bm_bm {f g : Nat → Nat} (hf : ∀ b, b < 256 → f b < 256) : ∀ (n x : Nat), pq_b g n (pq_b f n x) = pq_b (fun b => g (f b)) n x
  | 0, x => rfl
  | n + 1, x => by
    have h2 := hf (x % 256) (Nat.mod_lt _ (by decide))
    have h3 : pq_b f (n + 1) x = f (x % 256) + 256 * pq_b f n (x / 256) := rfl
    have e1 : pq_b f (n + 1) x % 256 = f (x % 256) := by rw [h3]; omega
    have e2 : pq_b f (n + 1) x / 256 = pq_b f n (x / 256) := by rw [h3]; omega
    show g (pq_b f (n + 1) x % 256) + 256 * pq_b g n (pq_b f (n + 1) x / 256) = g (f (x % 256)) + 256 * pq_b (fun b => g (f b)) n (x / 256)
    rw [e1, e2, bm_bm hf n (x / 256)]
theorem f12_n : ∀ b, b < 256 → pq_2 (pq_1 b) % 16 ≤ 4 ∧ pq_2 (pq_1 b) / 16 % 16 ≤ 4 ∧ pq_2 (pq_1 b) < 256 := by decide +kernel
theorem nib_bm : ∀ (n x : Nat), pq_n n (pq_b (fun b => pq_2 (pq_1 b)) n x)
  | 0, _ => rfl
  | n + 1, x => by
    obtain ⟨h1, h2, h4⟩ := f12_n (x % 256) (Nat.mod_lt _ (by decide))
    have ih := nib_bm n (x / 256)
    have h3 : pq_b (fun b => pq_2 (pq_1 b)) (n + 1) x = pq_2 (pq_1 (x % 256)) + 256 * pq_b (fun b => pq_2 (pq_1 b)) n (x / 256) := rfl
    generalize pq_b (fun b => pq_2 (pq_1 b)) n (x / 256) = y at ih h3
    refine ⟨by rw [h3]; omega, by rw [h3]; omega, ?_⟩
    have e : pq_b (fun b => pq_2 (pq_1 b)) (n + 1) x / 256 = y := by rw [h3]; omega
    rw [e]
    exact ih
def pq_8 (b : Nat) : Nat := sg_f (fun j => if b.testBit j then 1 else 0) 8
theorem f123 : ∀ b, b < 256 → pq_3 (pq_2 (pq_1 b)) = pq_8 b ∧ pq_8 b ≤ 8 := by decide +kernel
theorem f1_lt : ∀ b, b < 256 → pq_1 b < 256 := by decide +kernel
theorem bm_congr {f g : Nat → Nat} (h : ∀ b, b < 256 → f b = g b) : ∀ (n x : Nat), pq_b f n x = pq_b g n x
  | 0, _ => rfl
  | n + 1, x => by
    show f (x % 256) + 256 * pq_b f n (x / 256) = g (x % 256) + 256 * pq_b g n (x / 256)
    rw [h _ (Nat.mod_lt _ (by decide)), bm_congr h n]
/-- the first three steps: each byte's count in its byte -/
theorem st123 {x y z : Nat} (hx : x < 256 ^ 8) (hy : y = x - ((x / 2) &&& pq_m 85 8)) (hz : z = (y &&& pq_m 51 8) + ((y / 4) &&& pq_m 51 8)) : (z + z / 16) &&& pq_m 15 8 = pq_b pq_8 8 x := by
  have e1 : y = pq_b pq_1 8 x := by
    rw [hy, st1 8 x, Nat.mod_eq_of_lt hx, Nat.sub_self, Nat.add_zero]
  have e2 : z = pq_b (fun b => pq_2 (pq_1 b)) 8 x := by
    rw [hz, st2 8 y, e1, bm_bm f1_lt]
  rw [st3 8 z (by rw [e2]; exact nib_bm 8 x), e2, bm_bm (fun b hb => (f12_n b hb).2.2)]
  exact bm_congr (fun b hb => (f123 b hb).1) 8 x
theorem sg_split (f : Nat → Nat) (a : Nat) : ∀ b : Nat, sg_f f (a + b) = sg_f f a + sg_f (fun i => f (a + i)) b
  | 0 => by simp [sg_f]
  | b + 1 => by
    show sg_f f (a + b) + f (a + b) = sg_f f a + (sg_f (fun i => f (a + i)) b + f (a + b))
    rw [sg_split f a b]; omega
/-- the sum of the bytes' counts is the count -/
def pq_s : Nat → Nat → Nat
  | 0, _ => 0
  | n + 1, x => pq_8 (x % 256) + pq_s n (x / 256)
theorem bs_eq : ∀ (n x : Nat), pq_s n x = sg_f (fun j => if x.testBit j then 1 else 0) (8 * n)
  | 0, _ => rfl
  | n + 1, x => by
    have ih := bs_eq n (x / 256)
    show pq_8 (x % 256) + pq_s n (x / 256) = _
    rw [ih, show 8 * (n + 1) = 8 + 8 * n by omega, sg_split]
    congr 1
    · unfold pq_8
      refine sg_congr (fun i hi => ?_)
      have : (x % 256).testBit i = x.testBit i := by
        rw [show (256 : Nat) = 2 ^ 8 from rfl, Nat.testBit_mod_two_pow]
        simp [hi]
      rw [this]
    · refine sg_congr (fun i _ => ?_)
      have : (x / 256).testBit i = x.testBit (8 + i) := by
        rw [show (256 : Nat) = 2 ^ 8 from rfl, Nat.testBit_div_two_pow, Nat.add_comm]
      rw [this]
theorem p8_le {b : Nat} (h : b < 256) : pq_8 b ≤ 8 := (f123 b h).2
theorem st_div {t m : Nat} (r : Nat) (h : t < m) : (t + m * r) / m = r := by
  rw [Nat.add_mul_div_left _ _ (by omega), Nat.div_eq_of_lt h, Nat.zero_add]
theorem st_mod {t m : Nat} (r : Nat) (h : t < m) : (t + m * r) % m = t := by
  rw [Nat.add_mul_mod_self_left, Nat.mod_eq_of_lt h]
theorem st_e1 (c0 c1 c2 c3 c4 c5 c6 c7 : Nat) : (c0 + 256 * (c1 + 256 * (c2 + 256 * (c3 + 256 * (c4 + 256 * (c5 + 256 * (c6 + 256 * (c7 + 256 * 0)))))))) + (c1 + 256 * (c2 + 256 * (c3 + 256 * (c4 + 256 * (c5 + 256 * (c6 + 256 * (c7 + 256 * 0))))))) = (c0 + c1 + 256 * (c1 + c2)) + 65536 * ((c2 + c3) + 256 * (c3 + c4) + 65536 * (c4 + c5) + 16777216 * (c5 + c6) + 4294967296 * (c6 + c7) + 1099511627776 * c7) := by omega
theorem st_e2 (c0 c1 c2 c3 c4 c5 c6 c7 : Nat) : (c0 + c1 + 256 * (c1 + c2)) + 65536 * ((c2 + c3) + 256 * (c3 + c4) + 65536 * (c4 + c5) + 16777216 * (c5 + c6) + 4294967296 * (c6 + c7) + 1099511627776 * c7) + ((c2 + c3) + 256 * (c3 + c4) + 65536 * (c4 + c5) + 16777216 * (c5 + c6) + 4294967296 * (c6 + c7) + 1099511627776 * c7) = (c0 + c1 + c2 + c3 + 256 * (c1 + c2 + c3 + c4) + 65536 * (c2 + c3 + c4 + c5) + 16777216 * (c3 + c4 + c5 + c6)) + 4294967296 * ((c4 + c5 + c6 + c7) + 256 * (c5 + c6 + c7) + 65536 * (c6 + c7) + 16777216 * c7) := by omega
theorem st_e3 (c0 c1 c2 c3 c4 c5 c6 c7 : Nat) : (c0 + c1 + c2 + c3 + 256 * (c1 + c2 + c3 + c4) + 65536 * (c2 + c3 + c4 + c5) + 16777216 * (c3 + c4 + c5 + c6)) + 4294967296 * ((c4 + c5 + c6 + c7) + 256 * (c5 + c6 + c7) + 65536 * (c6 + c7) + 16777216 * c7) + ((c4 + c5 + c6 + c7) + 256 * (c5 + c6 + c7) + 65536 * (c6 + c7) + 16777216 * c7) = (c0 + (c1 + (c2 + (c3 + (c4 + (c5 + (c6 + (c7 + 0)))))))) + 128 * (2 * (c1 + c2 + c3 + c4 + c5 + c6 + c7) + 512 * (c2 + c3 + c4 + c5 + c6 + c7) + 131072 * (c3 + c4 + c5 + c6 + c7) + 33554432 * ((c4 + c5 + c6 + c7) + 256 * (c5 + c6 + c7) + 65536 * (c6 + c7) + 16777216 * c7)) := by omega
theorem st_b1 {c0 c1 c2 : Nat} (h0 : c0 ≤ 8) (h1 : c1 ≤ 8) (h2 : c2 ≤ 8) : c0 + c1 + 256 * (c1 + c2) < 65536 := by omega
theorem st_b2 {c0 c1 c2 c3 c4 c5 c6 : Nat} (h0 : c0 ≤ 8) (h1 : c1 ≤ 8) (h2 : c2 ≤ 8) (h3 : c3 ≤ 8) (h4 : c4 ≤ 8) (h5 : c5 ≤ 8) (h6 : c6 ≤ 8) : c0 + c1 + c2 + c3 + 256 * (c1 + c2 + c3 + c4) + 65536 * (c2 + c3 + c4 + c5) + 16777216 * (c3 + c4 + c5 + c6) < 4294967296 := by omega
theorem st_b3 {c0 c1 c2 c3 c4 c5 c6 c7 : Nat} (h0 : c0 ≤ 8) (h1 : c1 ≤ 8) (h2 : c2 ≤ 8) (h3 : c3 ≤ 8) (h4 : c4 ≤ 8) (h5 : c5 ≤ 8) (h6 : c6 ≤ 8) (h7 : c7 ≤ 8) : c0 + (c1 + (c2 + (c3 + (c4 + (c5 + (c6 + (c7 + 0))))))) ≤ 64 := by omega
theorem st_b4 {c1 c2 c3 c4 c5 c6 c7 : Nat} (h1 : c1 ≤ 8) (h2 : c2 ≤ 8) (h3 : c3 ≤ 8) (h4 : c4 ≤ 8) (h5 : c5 ≤ 8) (h6 : c6 ≤ 8) (h7 : c7 ≤ 8) : 2 * (c1 + c2 + c3 + c4 + c5 + c6 + c7) + 512 * (c2 + c3 + c4 + c5 + c6 + c7) + 131072 * (c3 + c4 + c5 + c6 + c7) + 33554432 * ((c4 + c5 + c6 + c7) + 256 * (c5 + c6 + c7) + 65536 * (c6 + c7) + 16777216 * c7) < 36028797018963968 := by omega
theorem st_all {c0 c1 c2 c3 c4 c5 c6 c7 a b c : Nat} (h0 : c0 ≤ 8) (h1 : c1 ≤ 8) (h2 : c2 ≤ 8) (h3 : c3 ≤ 8) (h4 : c4 ≤ 8) (h5 : c5 ≤ 8) (h6 : c6 ≤ 8) (h7 : c7 ≤ 8)
    (ha : a = (c0 + 256 * (c1 + 256 * (c2 + 256 * (c3 + 256 * (c4 + 256 * (c5 + 256 * (c6 + 256 * (c7 + 256 * 0)))))))) + (c0 + 256 * (c1 + 256 * (c2 + 256 * (c3 + 256 * (c4 + 256 * (c5 + 256 * (c6 + 256 * (c7 + 256 * 0)))))))) / 256) (hb : b = a + a / 65536) (hc : c = b + b / 4294967296) :
    c % 128 = c0 + (c1 + (c2 + (c3 + (c4 + (c5 + (c6 + (c7 + 0))))))) ∧ c0 + (c1 + (c2 + (c3 + (c4 + (c5 + (c6 + (c7 + 0))))))) ≤ 64 ∧ c < 4611686018427388032 := by
  rw [st_div _ (show c0 < 256 from Nat.lt_of_le_of_lt h0 (by decide)), st_e1] at ha
  rw [ha, st_div _ (st_b1 h0 h1 h2), st_e2] at hb
  rw [hb, st_div _ (st_b2 h0 h1 h2 h3 h4 h5 h6), st_e3] at hc
  have hs := st_b3 h0 h1 h2 h3 h4 h5 h6 h7
  have ht := st_b4 h1 h2 h3 h4 h5 h6 h7
  generalize c0 + (c1 + (c2 + (c3 + (c4 + (c5 + (c6 + (c7 + 0))))))) = t at hs hc ⊢
  generalize 2 * (c1 + c2 + c3 + c4 + c5 + c6 + c7) + 512 * (c2 + c3 + c4 + c5 + c6 + c7) + 131072 * (c3 + c4 + c5 + c6 + c7) + 33554432 * ((c4 + c5 + c6 + c7) + 256 * (c5 + c6 + c7) + 65536 * (c6 + c7) + 16777216 * c7) = r at ht hc
  clear ha hb h0 h1 h2 h3 h4 h5 h6 h7
  subst hc
  refine ⟨st_mod r (by omega), hs, by omega⟩
/-- the last three steps -/
theorem st456 {x a b c : Nat} (ha : a = pq_b pq_8 8 x + pq_b pq_8 8 x / 256) (hb : b = a + a / 65536) (hc : c = b + b / 4294967296) : c % 128 = pq_s 8 x ∧ pq_s 8 x ≤ 64 ∧ c < 4611686018427388032 :=
  st_all (p8_le (Nat.mod_lt x (show 0 < 256 by decide))) (p8_le (Nat.mod_lt (x / 256) (show 0 < 256 by decide))) (p8_le (Nat.mod_lt (x / 256 / 256) (show 0 < 256 by decide))) (p8_le (Nat.mod_lt (x / 256 / 256 / 256) (show 0 < 256 by decide))) (p8_le (Nat.mod_lt (x / 256 / 256 / 256 / 256) (show 0 < 256 by decide))) (p8_le (Nat.mod_lt (x / 256 / 256 / 256 / 256 / 256) (show 0 < 256 by decide))) (p8_le (Nat.mod_lt (x / 256 / 256 / 256 / 256 / 256 / 256) (show 0 < 256 by decide))) (p8_le (Nat.mod_lt (x / 256 / 256 / 256 / 256 / 256 / 256 / 256) (show 0 < 256 by decide))) ha hb hc
