/-! LEAVES: points, labels, bits, sums; the JDK's own -/
def is_n (x : Int32) (n : Nat) : Prop := ∃ j, j < n ∧ x = nI j
theorem is_of {x : Int32} {n : Nat} (hn : n < 2 ^ 31) (h1 : ¬ x < 0) (h2 : ¬ nI n ≤ x) : is_n x n := by
  rcases pk_ix x hn with h | h | h
  · exact absurd h h1
  · exact absurd h h2
  · exact h
theorem is_neg {x : Int32} {n : Nat} (hn : n < 2 ^ 31) (h : x < 0) : ¬ is_n x n := by
  rintro ⟨j, hj, rfl⟩
  exact nI_pos (by omega) h
theorem is_big {x : Int32} {n : Nat} (hn : n < 2 ^ 31) (h : nI n ≤ x) : ¬ is_n x n := by
  rintro ⟨j, hj, rfl⟩
  have := (nI_leI hn (by omega)).mp h
  omega
/-- a yes or no: 1 where P, 0 elsewhere -/
def yn (r : Int32) (P : Prop) : Prop := (r = 1 ∧ P) ∨ (r = 0 ∧ ¬ P)
theorem yn_1 {P : Prop} (h : P) : yn 1 P := Or.inl ⟨rfl, h⟩
theorem yn_0 {P : Prop} (h : ¬ P) : yn 0 P := Or.inr ⟨rfl, h⟩
theorem yn_t {r : Int32} {P : Prop} (h : yn r P) (hr : ¬ r = 0) : P := by
  rcases h with ⟨-, h⟩ | ⟨h, -⟩
  · exact h
  · exact absurd h hr
theorem yn_f {r : Int32} {P : Prop} (h : yn r P) (hr : r = 0) : ¬ P := by
  rcases h with ⟨h, -⟩ | ⟨-, h⟩
  · rw [h] at hr; exact absurd hr (by decide)
  · exact h
theorem yn_01 {r : Int32} {P : Prop} (h : yn r P) : r = 0 ∨ r = 1 := by
  rcases h with ⟨h, -⟩ | ⟨h, -⟩
  · exact Or.inr h
  · exact Or.inl h
set_option maxHeartbeats 4000000 in
set_option maxRecDepth 100000 in
theorem k_PF_isPoint (l : Launch) {X : Lay} (hI : pw_I X) (w : Wd) (x : Int32) : CtI l y_PF_isPoint (pw_ws y_PF_isPoint c_PF_isPoint 1 (some .boolean)) { frames := 0, cells := 0, slots := 0, locals := 0 } X w [.int x] (fun r w1 => w1 = w ∧ yn r (is_n x 64)) := by
  refine pw_open (by decide) hI [some (.int x)] rfl (Nat.le_of_ble_eq_true rfl) ?_
  intro zp ze zs zm za zb zt zc hargs C hr hlk hnm
  refine pw_iload_n C d_PF_isPoint_0 rfl ?_
  refine pw_if_lt C 14 d_PF_isPoint_1 (by decide) (fun h1 => ?_) (fun h1 => ?_)
  · refine pw_iconst C d_PF_isPoint_14 (v := 0) (by decide) ?_
    refine pw_zret C hr (by first | rfl | decide) hlk d_PF_isPoint_15 ?_
    exact ⟨rfl, yn_0 (is_neg (by decide) h1)⟩
  · refine pw_iload_n C d_PF_isPoint_4 rfl ?_
    refine pw_bipush C d_PF_isPoint_5 (v := 64) (by decide) ?_
    refine pw_icmp_ge C 14 d_PF_isPoint_7 (by decide) (fun h7 => ?_) (fun h7 => ?_)
    · refine pw_iconst C d_PF_isPoint_14 (v := 0) (by decide) ?_
      refine pw_zret C hr (by first | rfl | decide) hlk d_PF_isPoint_15 ?_
      exact ⟨rfl, yn_0 (is_big (by decide) h7)⟩
    · refine pw_iconst C d_PF_isPoint_10 (v := 1) (by decide) ?_
      refine pw_goto C 15 d_PF_isPoint_11 (by decide) ?_
      refine pw_zret C hr (by first | rfl | decide) hlk d_PF_isPoint_15 ?_
      exact ⟨rfl, yn_1 (is_of (by decide) h1 h7)⟩
set_option maxHeartbeats 4000000 in
set_option maxRecDepth 100000 in
theorem k_PF_isLabel (l : Launch) {X : Lay} (hI : pw_I X) (w : Wd) (x : Int32) : CtI l y_PF_isLabel (pw_ws y_PF_isLabel c_PF_isLabel 1 (some .boolean)) { frames := 0, cells := 0, slots := 0, locals := 0 } X w [.int x] (fun r w1 => w1 = w ∧ yn r (is_n x 8)) := by
  refine pw_open (by decide) hI [some (.int x)] rfl (Nat.le_of_ble_eq_true rfl) ?_
  intro zp ze zs zm za zb zt zc hargs C hr hlk hnm
  refine pw_iload_n C d_PF_isLabel_0 rfl ?_
  refine pw_if_lt C 14 d_PF_isLabel_1 (by decide) (fun h1 => ?_) (fun h1 => ?_)
  · refine pw_iconst C d_PF_isLabel_14 (v := 0) (by decide) ?_
    refine pw_zret C hr (by first | rfl | decide) hlk d_PF_isLabel_15 ?_
    exact ⟨rfl, yn_0 (is_neg (by decide) h1)⟩
  · refine pw_iload_n C d_PF_isLabel_4 rfl ?_
    refine pw_bipush C d_PF_isLabel_5 (v := 8) (by decide) ?_
    refine pw_icmp_ge C 14 d_PF_isLabel_7 (by decide) (fun h7 => ?_) (fun h7 => ?_)
    · refine pw_iconst C d_PF_isLabel_14 (v := 0) (by decide) ?_
      refine pw_zret C hr (by first | rfl | decide) hlk d_PF_isLabel_15 ?_
      exact ⟨rfl, yn_0 (is_big (by decide) h7)⟩
    · refine pw_iconst C d_PF_isLabel_10 (v := 1) (by decide) ?_
      refine pw_goto C 15 d_PF_isLabel_11 (by decide) ?_
      refine pw_zret C hr (by first | rfl | decide) hlk d_PF_isLabel_15 ?_
      exact ⟨rfl, yn_1 (is_of (by decide) h1 h7)⟩
set_option maxHeartbeats 4000000 in
set_option maxRecDepth 100000 in
theorem k_MO_isPoint (l : Launch) {X : Lay} (hI : pw_I X) (w : Wd) (x : Int32) : CtI l y_MO_isPoint (pw_ws y_MO_isPoint c_MO_isPoint 1 (some .boolean)) { frames := 0, cells := 0, slots := 0, locals := 0 } X w [.int x] (fun r w1 => w1 = w ∧ yn r (is_n x 64)) := by
  refine pw_open (by decide) hI [some (.int x)] rfl (Nat.le_of_ble_eq_true rfl) ?_
  intro zp ze zs zm za zb zt zc hargs C hr hlk hnm
  refine pw_iload_n C d_MO_isPoint_0 rfl ?_
  refine pw_if_lt C 14 d_MO_isPoint_1 (by decide) (fun h1 => ?_) (fun h1 => ?_)
  · refine pw_iconst C d_MO_isPoint_14 (v := 0) (by decide) ?_
    refine pw_zret C hr (by first | rfl | decide) hlk d_MO_isPoint_15 ?_
    exact ⟨rfl, yn_0 (is_neg (by decide) h1)⟩
  · refine pw_iload_n C d_MO_isPoint_4 rfl ?_
    refine pw_bipush C d_MO_isPoint_5 (v := 64) (by decide) ?_
    refine pw_icmp_ge C 14 d_MO_isPoint_7 (by decide) (fun h7 => ?_) (fun h7 => ?_)
    · refine pw_iconst C d_MO_isPoint_14 (v := 0) (by decide) ?_
      refine pw_zret C hr (by first | rfl | decide) hlk d_MO_isPoint_15 ?_
      exact ⟨rfl, yn_0 (is_big (by decide) h7)⟩
    · refine pw_iconst C d_MO_isPoint_10 (v := 1) (by decide) ?_
      refine pw_goto C 15 d_MO_isPoint_11 (by decide) ?_
      refine pw_zret C hr (by first | rfl | decide) hlk d_MO_isPoint_15 ?_
      exact ⟨rfl, yn_1 (is_of (by decide) h1 h7)⟩
set_option maxHeartbeats 4000000 in
set_option maxRecDepth 100000 in
theorem k_PF_bit (l : Launch) {X : Lay} (hI : pw_I X) (w : Wd) (k : Nat) : CtL l y_PF_bit (pw_ws y_PF_bit c_PF_bit 1 (some .long)) { frames := 0, cells := 0, slots := 0, locals := 0 } X w [.int (nI k)] (fun r w1 => w1 = w ∧ r = (1 : Int64) <<< ((nI k).toInt64 &&& 63)) := by
  refine pw_open (by decide) hI [some (.int (nI k))] rfl (Nat.le_of_ble_eq_true rfl) ?_
  intro zp ze zs zm za zb zt zc hargs C hr hlk hnm
  refine pw_lconst C d_PF_bit_0 (v := 1) (by decide) ?_
  refine pw_iload_n C d_PF_bit_1 rfl ?_
  refine pw_lshl C d_PF_bit_2 ?_
  refine pw_lret C hr hlk d_PF_bit_3 ?_
  exact ⟨rfl, rfl⟩
set_option maxHeartbeats 4000000 in
set_option maxRecDepth 100000 in
theorem k_PF_holds (l : Launch) {X : Lay} (hI : pw_I X) (w : Wd) (x : Int64) {k : Nat} (hk : k < 64) : CtI l y_PF_holds (pw_ws y_PF_holds c_PF_holds 3 (some .boolean)) { frames := 0, cells := 0, slots := 0, locals := 0 } X w [.long x, .int (nI k)] (fun r w1 => w1 = w ∧ yn r (bt_f x k = true)) := by
  refine pw_open (by decide) hI [some (.long x), none, some (.int (nI k))] rfl (Nat.le_of_ble_eq_true rfl) ?_
  intro zp ze zs zm za zb zt zc hargs C hr hlk hnm
  refine pw_lload_n C d_PF_holds_0 rfl ?_
  refine pw_iload_n C d_PF_holds_1 rfl ?_
  refine pw_lushr C d_PF_holds_2 ?_
  refine pw_lconst C d_PF_holds_3 (v := 1) (by decide) ?_
  refine pw_land C d_PF_holds_4 ?_
  refine pw_lconst C d_PF_holds_5 (v := 0) (by decide) ?_
  refine pw_lcmp C d_PF_holds_6 ?_
  refine pw_if_eq C 14 d_PF_holds_7 (by decide) (fun h7 => ?_) (fun h7 => ?_)
  · refine pw_iconst C d_PF_holds_14 (v := 0) (by decide) ?_
    refine pw_zret C hr (by first | rfl | decide) hlk d_PF_holds_15 ?_
    refine ⟨rfl, yn_0 ?_⟩
    rw [(bt_hold hk).mp ((lc_eq _ _).mp h7)]; decide
  · refine pw_iconst C d_PF_holds_10 (v := 1) (by decide) ?_
    refine pw_goto C 15 d_PF_holds_11 (by decide) ?_
    refine pw_zret C hr (by first | rfl | decide) hlk d_PF_holds_15 ?_
    refine ⟨rfl, yn_1 ?_⟩
    cases hb : bt_f x k with
    | true => rfl
    | false => exact absurd ((lc_eq _ _).mpr ((bt_hold hk).mpr hb)) h7
theorem su_add {a b : Nat} (ha : a ≤ C15) (hb : b ≤ C15) : (lN a + lN b < (1000000000000000 : Int64) ↔ a + b < C15) ∧ (cp_f (a + b) = if a + b < C15 then a + b else C15) := by
  refine ⟨?_, rfl⟩
  rw [lN_add]
  unfold C15 at *
  exact pk_lLT (a := a + b) (b := 1000000000000000) (by omega) (by omega)
set_option maxHeartbeats 4000000 in
set_option maxRecDepth 100000 in
theorem k_PF_sumOf (l : Launch) {X : Lay} (hI : pw_I X) (w : Wd) {a b : Nat} (ha : a ≤ C15) (hb : b ≤ C15) : CtL l y_PF_sumOf (pw_ws y_PF_sumOf c_PF_sumOf 6 (some .long)) { frames := 0, cells := 0, slots := 0, locals := 0 } X w [.long (lN a), .long (lN b)] (fun r w1 => w1 = w ∧ r = lN (cp_f (a + b))) := by
  refine pw_open (by decide) hI [some (.long (lN a)), none, some (.long (lN b)), none, none, none] rfl (Nat.le_of_ble_eq_true rfl) ?_
  intro zp ze zs zm za zb zt zc hargs C hr hlk hnm
  refine pw_lload_n C d_PF_sumOf_0 rfl ?_
  refine pw_lload_n C d_PF_sumOf_1 rfl ?_
  refine pw_ladd C d_PF_sumOf_2 ?_
  refine pw_lstore C d_PF_sumOf_3 (by decide) ?_
  refine pw_lload C d_PF_sumOf_5 rfl ?_
  refine pw_ldc2_w C d_PF_sumOf_7 (v := 1000000000000000) W_297 ?_
  refine pw_lcmp C d_PF_sumOf_10 ?_
  refine pw_if_ge C 19 d_PF_sumOf_11 (by decide) (fun h11 => ?_) (fun h11 => ?_)
  · refine pw_ldc2_w C d_PF_sumOf_19 (v := 1000000000000000) W_297 ?_
    refine pw_lret C hr hlk d_PF_sumOf_22 ?_
    refine ⟨rfl, ?_⟩
    have hn := mt (su_add ha hb).1.mpr ((lc_ge _ _).mp h11)
    rw [(su_add ha hb).2, if_neg hn]
    rfl
  · refine pw_lload C d_PF_sumOf_14 rfl ?_
    refine pw_goto C 22 d_PF_sumOf_16 (by decide) ?_
    refine pw_lret C hr hlk d_PF_sumOf_22 ?_
    refine ⟨rfl, ?_⟩
    have hn := (su_add ha hb).1.mp (Classical.byContradiction fun q => h11 ((lc_ge _ _).mpr q))
    rw [(su_add ha hb).2, if_pos hn, lN_add]
