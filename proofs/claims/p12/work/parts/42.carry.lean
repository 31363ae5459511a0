/-! COUNTS: carry, carryOverBoth: a row carried through a part -/
def mo_f (b : Bool) (M : Nat → Nat → Nat) (x y : Nat) : Nat := if b then M y x else M x y
/-- how many times a part is found, out of the tables and the relations' rows -/
def ct_f (T : Nat → Nat → Int64) (ks ls ss : Nat → Int32) (R : Nat → Nat → Int64) : Nat → Nat → Nat → Nat → Nat
  | 0, _, _, _ => 0
  | d + 1, p, x, y =>
    if ks p = 0 ∨ ks p = 7 then me_f false (ls p) T x y
    else if ks p = 1 then ct_f T ks ls ss R d (p + 1) y x
    else if ks p = 2 then sg_f (fun z => ct_f T ks ls ss R d (p + 1) x z * ct_f T ks ls ss R d (ss p).toNatClampNeg z y) 64
    else if ks p = 3 then ct_f T ks ls ss R d (p + 1) x y + ct_f T ks ls ss R d (ss p).toNatClampNeg x y
    else ma_f false (R p) x y
def c_st (X : Lay) (w : Wd) (T : Nat → Nat → Int64) (ks ls ss : Nat → Int32) (parts : Nat) (R : Nat → Nat → Int64) (st0 : Int32) : Prop :=
  v_rep X w T ks ls ss parts ∧ w 12 0 = oB 0 [.ref (pw_a X 1 0), .ref (pw_a X 4 0), .ref (pw_a X 9 0), .ref (pw_a X 13 0), .ref (pw_a X 14 0), .ref (pw_a X 15 0), .int st0] ∧ (∀ j, j < 40 → w 11 j = aL X 64 (R j)) ∧ (∃ f, w 15 0 = aQ X 12 f ∧ ∀ j, j < 12 → f j = some (pw_a X 16 j)) ∧ ∀ j, j < 12 → ∃ f, w 16 j = aL X 64 f
theorem c_st_of {X : Lay} {w w1 : Wd} {T : Nat → Nat → Int64} {ks ls ss : Nat → Int32} {parts : Nat} {R : Nat → Nat → Int64} {st0 : Int32} (h : c_st X w T ks ls ss parts R st0) (h1 : ∀ g, g < 13 ∨ g = 15 → w1 g = w g) (h2 : ∀ j, j < 12 → ∃ f, w1 16 j = aL X 64 f) : c_st X w1 T ks ls ss parts R st0 := by
  obtain ⟨a, b, c, d, -⟩ := h
  refine ⟨v_rep_of a (fun g hg => h1 g (Or.inl (by omega))), by rw [h1 12 (Or.inl (by decide))]; exact b, fun j hj => by rw [h1 11 (Or.inl (by decide))]; exact c j hj, by rw [h1 15 (Or.inr rfl)]; exact d, h2⟩
def ca_post (X : Lay) (w : Wd) (d go io : Nat) (c1 : Nat → Nat) (w1 : Wd) : Prop :=
  (∀ g i, ¬ (g = go ∧ i = io) → ¬ (g = 16 ∧ 12 - d ≤ i) → w1 g i = w g i) ∧ (∀ j, j < 12 → ∃ f, w1 16 j = aL X 64 f) ∧ ∃ f1, w1 go io = aL X 64 f1 ∧ tm_f f1 c1
theorem ca_up {X : Lay} {w : Wd} {d go io : Nat} {f1 : Nat → Int64} {c1 : Nat → Nat} (hb : ∀ j, j < 12 → ∃ f, w 16 j = aL X 64 f) (h : tm_f f1 c1) : ca_post X w d go io c1 (pw_up w go io (aL X 64 f1)) := by
  refine ⟨fun g i h1 _ => pw_up_ne _ _ h1, fun j hj => ?_, f1, pw_up_self _ _ _ _, h⟩
  by_cases q : 16 = go ∧ j = io
  · obtain ⟨rfl, rfl⟩ := q
    exact ⟨f1, pw_up_self _ _ _ _⟩
  · rw [pw_up_ne _ _ q]; exact hb j hj
theorem ca_mono {X : Lay} {w w1 : Wd} {d go io : Nat} {c1 c2 : Nat → Nat} (h : ca_post X w d go io c1 w1) (e : ∀ y, y < 64 → c1 y = c2 y) : ca_post X w (d + 1) go io c2 w1 := by
  obtain ⟨a, b, f1, c, t⟩ := h
  exact ⟨fun g i h1 h2 => a g i h1 (fun q => h2 ⟨q.1, by omega⟩), b, f1, c, tm_congr t e⟩
/-- the contract of carry with d levels left -/
def ca_ct (l : Launch) (X : Lay) (T : Nat → Nat → Int64) (ks ls ss : Nat → Int32) (parts : Nat) (R : Nat → Nat → Int64) (st0 : Int32) (d : Nat) : Prop :=
  ∀ (w : Wd) (p : Nat) (b : Bool) (gi ii go io : Nat) (IN F : Nat → Int64) (cI cO : Nat → Nat), c_st X w T ks ls ss parts R st0 → p < parts → pw_d X gi ii → w gi ii = aL X 64 IN → tm_f IN cI → pw_d X go io → w go io = aL X 64 F → tm_f F cO → (13 ≤ gi ∧ gi ≠ 15 ∧ (gi = 16 → ii < 12 - d)) → (13 ≤ go ∧ go ≠ 15 ∧ (go = 16 → io < 12 - d)) → ¬ (gi = go ∧ ii = io) →
    CtV l y_CN_carry (pw_ws y_CN_carry c_CN_carry 6 none) { frames := 2 * d + 5, cells := 0, slots := 0, locals := 53 * d + 120 } X w [.ref (pw_a X 12 0), .int (nI p), .int (bi_f b), .int (nI (12 - d)), .ref (pw_a X gi ii), .ref (pw_a X go io)] (ca_post X w d go io (cy_f cO cI (mo_f b (ct_f T ks ls ss R d p))))
/-- a row carried over one table and then over another -/
theorem cy_two (cO cI : Nat → Nat) (M N : Nat → Nat → Nat) (y : Nat) : cy_f cO (cy_f (fun _ => 0) cI M) N y = cy_f cO cI (fun x y => sg_f (fun z => M x z * N z y) 64) y := by
  unfold cy_f
  rw [cp_sg]
  congr 2
  have e1 : sg_f (fun z => (0 + sg_f (fun x => cI x * M x z) 64) * N z y) 64 = sg_f (fun z => sg_f (fun x => cI x * M x z * N z y) 64) 64 := sg_congr (fun z _ => by rw [Nat.zero_add, ← sg_mulr])
  rw [e1, sg_swap (fun z x => cI x * M x z * N z y)]
  refine sg_congr (fun x _ => ?_)
  rw [← sg_mul]
  exact sg_congr (fun z _ => Nat.mul_assoc _ _ _)
theorem cy_add (cO cI : Nat → Nat) (M N : Nat → Nat → Nat) (y : Nat) : cy_f (cy_f cO cI M) cI N y = cy_f cO cI (fun x y => M x y + N x y) y := by
  unfold cy_f
  rw [cp_add, Nat.add_assoc, ← sg_add]
  congr 2
  exact sg_congr (fun x _ => (Nat.mul_add _ _ _).symm)
theorem cy_0 (cO cI : Nat → Nat) (y : Nat) (h : cO y ≤ C15) : cy_f cO cI (fun _ _ => 0) y = cO y := by
  unfold cy_f
  have : sg_f (fun x => cI x * 0) 64 = sg_f (fun _ => 0) 64 := sg_congr (fun x _ => Nat.mul_zero _)
  rw [this, sg_zero, Nat.add_zero, cp_id h]
set_option maxHeartbeats 4000000 in
set_option maxRecDepth 100000 in
theorem k_CN_carryOverBoth (l : Launch) {X : Lay} (hI : pw_I X) (hX : Dm X) {T : Nat → Nat → Int64} {ks ls ss : Nat → Int32} {parts : Nat} {R : Nat → Nat → Int64} {st0 : Int32} (h40 : parts ≤ 40) {d : Nat} (hd12 : d < 12) (ih : ca_ct l X T ks ls ss parts R st0 d) (w : Wd) {p q : Nat} (b : Bool) {gi ii go io : Nat} {IN F : Nat → Int64} {cI cO : Nat → Nat} (hC : c_st X w T ks ls ss parts R st0) (hp1 : p + 1 < parts) (hq : q < parts) (hss : ss p = nI q) (hdi : pw_d X gi ii) (hwi : w gi ii = aL X 64 IN) (hIN : tm_f IN cI) (hdo : pw_d X go io) (hwo : w go io = aL X 64 F) (hF : tm_f F cO) (hgi : 13 ≤ gi ∧ gi ≠ 15 ∧ (gi = 16 → ii < 12 - (d + 1))) (hgo : 13 ≤ go ∧ go ≠ 15 ∧ (go = 16 → io < 12 - (d + 1))) (hio : ¬ (gi = go ∧ ii = io)) : CtV l y_CN_carryOverBoth (pw_ws y_CN_carryOverBoth c_CN_carryOverBoth 9 none) { frames := 2 * d + 6, cells := 0, slots := 0, locals := 53 * d + 145 } X w [.ref (pw_a X 12 0), .int (nI p), .int (bi_f b), .int (nI (12 - (d + 1))), .ref (pw_a X gi ii), .ref (pw_a X go io)] (ca_post X w (d + 1) go io (cy_f cO cI (mo_f b (fun x y => sg_f (fun z => ct_f T ks ls ss R d (p + 1) x z * ct_f T ks ls ss R d q z y) 64)))) := by
  obtain ⟨⟨hG, ⟨nn, ft, w4e⟩, w6e, w7e, w8e, hv9, hv10⟩, w12e, w11e, ⟨f15, w15e, hf15⟩, hb16⟩ := id hC
  have d16 : ∀ j, j < 12 → pw_d X 16 j := fun j hj => hX 16 j (by simp [dm_k, hj])
  obtain ⟨f16, w16e⟩ := hb16 (12 - (d + 1)) (by omega)
  refine pw_open (by decide) hI [some (.ref (pw_a X 12 0)), some (.int (nI p)), some (.int (bi_f b)), some (.int (nI (12 - (d + 1)))), some (.ref (pw_a X gi ii)), some (.ref (pw_a X go io)), none, none, none] rfl (Nat.le_of_ble_eq_true rfl) ?_
  intro zp ze zs zm za zb zt zc hargs C zr zk hnm
  cases b with
  | false =>
    refine pw_iload_n C d_CN_carryOverBoth_0 rfl ?_
    refine pw_iconst C d_CN_carryOverBoth_1 (v := 1) (by decide) ?_
    refine pw_iadd C d_CN_carryOverBoth_2 ?_
    rw [nI_1]
    refine pw_istore C d_CN_carryOverBoth_3 (by decide) ?_
    refine pw_aload_n C d_CN_carryOverBoth_5 rfl ?_
    refine pw_get C d_CN_carryOverBoth_6 (hX 12 0 rfl) w12e 1 rfl rfl (by decide) in_CN W_105 rfl ?_
    refine pw_getN C d_CN_carryOverBoth_9 (hX 4 0 rfl) w4e 3 rfl rfl (by decide) in_PA N_10 rfl ?_
    refine pw_iload_n C d_CN_carryOverBoth_12 rfl ?_
    refine pw_ialdK C d_CN_carryOverBoth_13 (hX 8 0 rfl) w8e (by omega) ?_
    rw [hss]
    refine pw_istore C d_CN_carryOverBoth_14 (by decide) ?_
    refine pw_aload_n C d_CN_carryOverBoth_16 rfl ?_
    refine pw_get C d_CN_carryOverBoth_17 (hX 12 0 rfl) w12e 5 rfl rfl (by decide) in_CN W_109 rfl ?_
    refine pw_iload_n C d_CN_carryOverBoth_20 rfl ?_
    refine pw_aaldK C d_CN_carryOverBoth_21 (hX 15 0 rfl) w15e (by omega) (hf15 _ (by omega)) ?_
    refine pw_astore C d_CN_carryOverBoth_22 (by decide) ?_
    refine pw_aload C d_CN_carryOverBoth_24 rfl ?_
    refine pw_lconst C d_CN_carryOverBoth_26 (v := 0) (by decide) ?_
    refine pw_callSv C (k_AR_fill l hI _ 0 (n := 64) (by decide) (d16 _ (by omega)) w16e) ⟨pw_cb C 2 W_245 W_7 W_277 ⟨rfl, rfl⟩ (by decide +kernel) ⟨by show 0 + 1 ≤ 2 * d + 6; omega, by show 8 + (5 + 11) + 0 ≤ 53 * d + 145; omega⟩, pw_w C W_244⟩ rfl rfl (Nat.le_of_ble_eq_true rfl) d_CN_carryOverBoth_27 ⟨Nat.zero_le _, Nat.zero_le _⟩ (fun w9 hp9 => ?_)
    obtain ⟨f0, e9, hf0⟩ := hp9
    refine MW.world e9 ?_
    have hC1 : c_st X (pw_up w 16 (12 - (d + 1)) (aL X 64 f0)) T ks ls ss parts R st0 := c_st_of hC (fun g hg => pw_up_row _ _ (by omega)) (fun j hj => by
      by_cases z : j = 12 - (d + 1)
      · exact ⟨f0, by rw [z]; exact pw_up_self _ _ _ _⟩
      · rw [pw_up_i _ _ z]; exact hb16 j hj)
    have hni : ¬ (gi = 16 ∧ ii = 12 - (d + 1)) := fun z => by have := hgi.2.2 z.1; omega
    have hno : ¬ (go = 16 ∧ io = 12 - (d + 1)) := fun z => by have := hgo.2.2 z.1; omega
    refine pw_aload_n C d_CN_carryOverBoth_30 rfl ?_
    refine pw_iload_n C d_CN_carryOverBoth_31 rfl ?_
    refine pw_if_eq C 40 d_CN_carryOverBoth_32 (by decide) (fun h32 => ?_) (fun h32 => ?_)
    · refine pw_iload C d_CN_carryOverBoth_40 rfl ?_
      refine pw_iload_n C d_CN_carryOverBoth_42 rfl ?_
      refine pw_iload_n C d_CN_carryOverBoth_43 rfl ?_
      refine pw_iconst C d_CN_carryOverBoth_44 (v := 1) (by decide) ?_
      refine pw_iadd C d_CN_carryOverBoth_45 ?_
      refine pw_aload C d_CN_carryOverBoth_46 rfl ?_
      refine pw_aload C d_CN_carryOverBoth_48 rfl ?_
      rw [show nI (12 - (d + 1)) + 1 = nI (12 - d) from by rw [nI_1]; congr 1; omega]
      refine pw_callVv C (ih _ (p + 1) false gi ii 16 (12 - (d + 1)) IN f0 cI (fun _ => 0) hC1 (by omega) hdi (by rw [pw_up_ne _ _ hni]; exact hwi) hIN (d16 _ (by omega)) (pw_up_self _ _ _ _) (fun j hj => ⟨hf0 j hj, Nat.zero_le _⟩) ⟨hgi.1, hgi.2.1, fun z => by have := hgi.2.2 z; omega⟩ ⟨by decide, by decide, fun _ => by omega⟩ hni) (hX 12 0 rfl) (by rw [pw_up_g _ _ (by decide)]; exact w12e) rfl ⟨pw_cb C 5 W_281 W_5 W_278 ⟨rfl, rfl⟩ (by decide +kernel) ⟨by show (2 * d + 5) + 1 ≤ 2 * d + 6; omega, by show 8 + (6 + 11) + (53 * d + 120) ≤ 53 * d + 145; omega⟩, pw_w C W_280, pw_w C V_14⟩ rfl rfl (Nat.le_of_ble_eq_true rfl) d_CN_carryOverBoth_50 ⟨Nat.zero_le _, Nat.zero_le _⟩ (fun w2 hp2 => ?_)
      obtain ⟨a1, a2, f1, a3, a4⟩ := hp2
      have hC2 : c_st X w2 T ks ls ss parts R st0 := c_st_of hC1 (fun g hg => funext fun i => a1 g i (fun z => by omega) (fun z => by omega)) a2
      have ho2 : w2 go io = aL X 64 F := by rw [a1 go io hno (fun z => by have := hgo.2.2 z.1; omega), pw_up_ne _ _ hno]; exact hwo
      refine pw_aload_n C d_CN_carryOverBoth_53 rfl ?_
      refine pw_iload_n C d_CN_carryOverBoth_54 rfl ?_
      refine pw_if_eq C 63 d_CN_carryOverBoth_55 (by decide) (fun h55 => ?_) (fun h55 => ?_)
      · refine pw_iload C d_CN_carryOverBoth_63 rfl ?_
        refine pw_iload_n C d_CN_carryOverBoth_65 rfl ?_
        refine pw_iload_n C d_CN_carryOverBoth_66 rfl ?_
        refine pw_iconst C d_CN_carryOverBoth_67 (v := 1) (by decide) ?_
        refine pw_iadd C d_CN_carryOverBoth_68 ?_
        refine pw_aload C d_CN_carryOverBoth_69 rfl ?_
        refine pw_aload C d_CN_carryOverBoth_71 rfl ?_
        rw [show nI (12 - (d + 1)) + 1 = nI (12 - d) from by rw [nI_1]; congr 1; omega]
        refine pw_callVv C (ih w2 q false 16 (12 - (d + 1)) go io f1 F _ cO hC2 (by omega) (d16 _ (by omega)) a3 a4 hdo ho2 hF ⟨by decide, by decide, fun _ => by omega⟩ ⟨hgo.1, hgo.2.1, fun z => by have := hgo.2.2 z; omega⟩ (fun z => hno ⟨z.1.symm, z.2.symm⟩)) (hX 12 0 rfl) hC2.2.1 rfl ⟨pw_cb C 5 W_281 W_5 W_278 ⟨rfl, rfl⟩ (by decide +kernel) ⟨by show (2 * d + 5) + 1 ≤ 2 * d + 6; omega, by show 8 + (6 + 11) + (53 * d + 120) ≤ 53 * d + 145; omega⟩, pw_w C W_280, pw_w C V_14⟩ rfl rfl (Nat.le_of_ble_eq_true rfl) d_CN_carryOverBoth_73 ⟨Nat.zero_le _, Nat.zero_le _⟩ (fun w3 hp3 => ?_)
        refine pw_vret C zr zk d_CN_carryOverBoth_76 ?_
        obtain ⟨b1, b2, f3, b3, b4⟩ := hp3
        refine ⟨fun g i g1 g2 => ?_, b2, f3, b3, tm_congr b4 (fun y hy => ?_)⟩
        · have z : ¬ (g = 16 ∧ i = 12 - (d + 1)) := fun z => g2 ⟨z.1, by omega⟩
          rw [b1 g i g1 (fun z => g2 ⟨z.1, by omega⟩), a1 g i z (fun z => g2 ⟨z.1, by omega⟩), pw_up_ne _ _ z]
        · rw [cy_two]
          exact cy_congr (fun x hx y hy => rfl) hy
      · exact absurd rfl h55
    · exact absurd rfl h32
  | true =>
    refine pw_iload_n C d_CN_carryOverBoth_0 rfl ?_
    refine pw_iconst C d_CN_carryOverBoth_1 (v := 1) (by decide) ?_
    refine pw_iadd C d_CN_carryOverBoth_2 ?_
    rw [nI_1]
    refine pw_istore C d_CN_carryOverBoth_3 (by decide) ?_
    refine pw_aload_n C d_CN_carryOverBoth_5 rfl ?_
    refine pw_get C d_CN_carryOverBoth_6 (hX 12 0 rfl) w12e 1 rfl rfl (by decide) in_CN W_105 rfl ?_
    refine pw_getN C d_CN_carryOverBoth_9 (hX 4 0 rfl) w4e 3 rfl rfl (by decide) in_PA N_10 rfl ?_
    refine pw_iload_n C d_CN_carryOverBoth_12 rfl ?_
    refine pw_ialdK C d_CN_carryOverBoth_13 (hX 8 0 rfl) w8e (by omega) ?_
    rw [hss]
    refine pw_istore C d_CN_carryOverBoth_14 (by decide) ?_
    refine pw_aload_n C d_CN_carryOverBoth_16 rfl ?_
    refine pw_get C d_CN_carryOverBoth_17 (hX 12 0 rfl) w12e 5 rfl rfl (by decide) in_CN W_109 rfl ?_
    refine pw_iload_n C d_CN_carryOverBoth_20 rfl ?_
    refine pw_aaldK C d_CN_carryOverBoth_21 (hX 15 0 rfl) w15e (by omega) (hf15 _ (by omega)) ?_
    refine pw_astore C d_CN_carryOverBoth_22 (by decide) ?_
    refine pw_aload C d_CN_carryOverBoth_24 rfl ?_
    refine pw_lconst C d_CN_carryOverBoth_26 (v := 0) (by decide) ?_
    refine pw_callSv C (k_AR_fill l hI _ 0 (n := 64) (by decide) (d16 _ (by omega)) w16e) ⟨pw_cb C 2 W_245 W_7 W_277 ⟨rfl, rfl⟩ (by decide +kernel) ⟨by show 0 + 1 ≤ 2 * d + 6; omega, by show 8 + (5 + 11) + 0 ≤ 53 * d + 145; omega⟩, pw_w C W_244⟩ rfl rfl (Nat.le_of_ble_eq_true rfl) d_CN_carryOverBoth_27 ⟨Nat.zero_le _, Nat.zero_le _⟩ (fun w9 hp9 => ?_)
    obtain ⟨f0, e9, hf0⟩ := hp9
    refine MW.world e9 ?_
    have hC1 : c_st X (pw_up w 16 (12 - (d + 1)) (aL X 64 f0)) T ks ls ss parts R st0 := c_st_of hC (fun g hg => pw_up_row _ _ (by omega)) (fun j hj => by
      by_cases z : j = 12 - (d + 1)
      · exact ⟨f0, by rw [z]; exact pw_up_self _ _ _ _⟩
      · rw [pw_up_i _ _ z]; exact hb16 j hj)
    have hni : ¬ (gi = 16 ∧ ii = 12 - (d + 1)) := fun z => by have := hgi.2.2 z.1; omega
    have hno : ¬ (go = 16 ∧ io = 12 - (d + 1)) := fun z => by have := hgo.2.2 z.1; omega
    refine pw_aload_n C d_CN_carryOverBoth_30 rfl ?_
    refine pw_iload_n C d_CN_carryOverBoth_31 rfl ?_
    refine pw_if_eq C 40 d_CN_carryOverBoth_32 (by decide) (fun h32 => ?_) (fun h32 => ?_)
    · exact absurd h32 (by decide)
    refine pw_iload C d_CN_carryOverBoth_35 rfl ?_
    refine pw_goto C 42 d_CN_carryOverBoth_37 (by decide) ?_
    refine pw_iload_n C d_CN_carryOverBoth_42 rfl ?_
    refine pw_iload_n C d_CN_carryOverBoth_43 rfl ?_
    refine pw_iconst C d_CN_carryOverBoth_44 (v := 1) (by decide) ?_
    refine pw_iadd C d_CN_carryOverBoth_45 ?_
    refine pw_aload C d_CN_carryOverBoth_46 rfl ?_
    refine pw_aload C d_CN_carryOverBoth_48 rfl ?_
    rw [show nI (12 - (d + 1)) + 1 = nI (12 - d) from by rw [nI_1]; congr 1; omega]
    refine pw_callVv C (ih _ q true gi ii 16 (12 - (d + 1)) IN f0 cI (fun _ => 0) hC1 (by omega) hdi (by rw [pw_up_ne _ _ hni]; exact hwi) hIN (d16 _ (by omega)) (pw_up_self _ _ _ _) (fun j hj => ⟨hf0 j hj, Nat.zero_le _⟩) ⟨hgi.1, hgi.2.1, fun z => by have := hgi.2.2 z; omega⟩ ⟨by decide, by decide, fun _ => by omega⟩ hni) (hX 12 0 rfl) (by rw [pw_up_g _ _ (by decide)]; exact w12e) rfl ⟨pw_cb C 5 W_281 W_5 W_278 ⟨rfl, rfl⟩ (by decide +kernel) ⟨by show (2 * d + 5) + 1 ≤ 2 * d + 6; omega, by show 8 + (6 + 11) + (53 * d + 120) ≤ 53 * d + 145; omega⟩, pw_w C W_280, pw_w C V_14⟩ rfl rfl (Nat.le_of_ble_eq_true rfl) d_CN_carryOverBoth_50 ⟨Nat.zero_le _, Nat.zero_le _⟩ (fun w2 hp2 => ?_)
    obtain ⟨a1, a2, f1, a3, a4⟩ := hp2
    have hC2 : c_st X w2 T ks ls ss parts R st0 := c_st_of hC1 (fun g hg => funext fun i => a1 g i (fun z => by omega) (fun z => by omega)) a2
    have ho2 : w2 go io = aL X 64 F := by rw [a1 go io hno (fun z => by have := hgo.2.2 z.1; omega), pw_up_ne _ _ hno]; exact hwo
    refine pw_aload_n C d_CN_carryOverBoth_53 rfl ?_
    refine pw_iload_n C d_CN_carryOverBoth_54 rfl ?_
    refine pw_if_eq C 63 d_CN_carryOverBoth_55 (by decide) (fun h55 => ?_) (fun h55 => ?_)
    · exact absurd h55 (by decide)
    refine pw_iload C d_CN_carryOverBoth_58 rfl ?_
    refine pw_goto C 65 d_CN_carryOverBoth_60 (by decide) ?_
    refine pw_iload_n C d_CN_carryOverBoth_65 rfl ?_
    refine pw_iload_n C d_CN_carryOverBoth_66 rfl ?_
    refine pw_iconst C d_CN_carryOverBoth_67 (v := 1) (by decide) ?_
    refine pw_iadd C d_CN_carryOverBoth_68 ?_
    refine pw_aload C d_CN_carryOverBoth_69 rfl ?_
    refine pw_aload C d_CN_carryOverBoth_71 rfl ?_
    rw [show nI (12 - (d + 1)) + 1 = nI (12 - d) from by rw [nI_1]; congr 1; omega]
    refine pw_callVv C (ih w2 (p + 1) true 16 (12 - (d + 1)) go io f1 F _ cO hC2 (by omega) (d16 _ (by omega)) a3 a4 hdo ho2 hF ⟨by decide, by decide, fun _ => by omega⟩ ⟨hgo.1, hgo.2.1, fun z => by have := hgo.2.2 z; omega⟩ (fun z => hno ⟨z.1.symm, z.2.symm⟩)) (hX 12 0 rfl) hC2.2.1 rfl ⟨pw_cb C 5 W_281 W_5 W_278 ⟨rfl, rfl⟩ (by decide +kernel) ⟨by show (2 * d + 5) + 1 ≤ 2 * d + 6; omega, by show 8 + (6 + 11) + (53 * d + 120) ≤ 53 * d + 145; omega⟩, pw_w C W_280, pw_w C V_14⟩ rfl rfl (Nat.le_of_ble_eq_true rfl) d_CN_carryOverBoth_73 ⟨Nat.zero_le _, Nat.zero_le _⟩ (fun w3 hp3 => ?_)
    refine pw_vret C zr zk d_CN_carryOverBoth_76 ?_
    obtain ⟨b1, b2, f3, b3, b4⟩ := hp3
    refine ⟨fun g i g1 g2 => ?_, b2, f3, b3, tm_congr b4 (fun y hy => ?_)⟩
    · have z : ¬ (g = 16 ∧ i = 12 - (d + 1)) := fun z => g2 ⟨z.1, by omega⟩
      rw [b1 g i g1 (fun z => g2 ⟨z.1, by omega⟩), a1 g i z (fun z => g2 ⟨z.1, by omega⟩), pw_up_ne _ _ z]
    · rw [cy_two]
      refine cy_congr (fun x hx y hy => ?_) hy
      exact sg_congr (fun z _ => Nat.mul_comm _ _)
theorem sw8 (x : Int32) : (x = 0 ∨ x = 7) ∨ x = 1 ∨ x = 2 ∨ x = 3 ∨ (x = 4 ∨ x = 5 ∨ x = 6) ∨ (x.toInt < 0 ∨ 7 < x.toInt) := by
  rcases (show (x.toInt = 0 ∨ x.toInt = 7) ∨ x.toInt = 1 ∨ x.toInt = 2 ∨ x.toInt = 3 ∨ (x.toInt = 4 ∨ x.toInt = 5 ∨ x.toInt = 6) ∨ (x.toInt < 0 ∨ 7 < x.toInt) by omega) with (h | h) | h | h | h | (h | h | h) | h
  · exact Or.inl (Or.inl (Int32.toInt_inj.mp (h.trans (by decide))))
  · exact Or.inl (Or.inr (Int32.toInt_inj.mp (h.trans (by decide))))
  · exact Or.inr (Or.inl (Int32.toInt_inj.mp (h.trans (by decide))))
  · exact Or.inr (Or.inr (Or.inl (Int32.toInt_inj.mp (h.trans (by decide)))))
  · exact Or.inr (Or.inr (Or.inr (Or.inl (Int32.toInt_inj.mp (h.trans (by decide))))))
  · exact Or.inr (Or.inr (Or.inr (Or.inr (Or.inl (Or.inl (Int32.toInt_inj.mp (h.trans (by decide))))))))
  · exact Or.inr (Or.inr (Or.inr (Or.inr (Or.inl (Or.inr (Or.inl (Int32.toInt_inj.mp (h.trans (by decide)))))))))
  · exact Or.inr (Or.inr (Or.inr (Or.inr (Or.inl (Or.inr (Or.inr (Int32.toInt_inj.mp (h.trans (by decide)))))))))
  · exact Or.inr (Or.inr (Or.inr (Or.inr (Or.inr h))))
set_option maxHeartbeats 4000000 in
set_option maxRecDepth 100000 in
theorem k_CN_carry (l : Launch) {X : Lay} (hI : pw_I X) (hX : Dm X) {T : Nat → Nat → Int64} {ks ls ss : Nat → Int32} {parts : Nat} {R : Nat → Nat → Int64} {st0 : Int32} (h40 : parts ≤ 40) (hfl : fl_f ks ss parts) : ∀ d, d ≤ 12 → ca_ct l X T ks ls ss parts R st0 d := by
  intro d
  induction d with
  | zero =>
    intro hd12 w p b gi ii go io IN F cI cO hC hp hdi hwi hIN hdo hwo hF hgi hgo hio
    refine pw_open (by decide) hI [some (.ref (pw_a X 12 0)), some (.int (nI p)), some (.int (bi_f b)), some (.int (nI (12 - 0))), some (.ref (pw_a X gi ii)), some (.ref (pw_a X go io))] rfl (Nat.le_of_ble_eq_true rfl) ?_
    intro zp ze zs zm za zb zt zc hargs C zr zk hnm
    refine pw_iload_n C d_CN_carry_0 rfl ?_
    refine pw_bipush C d_CN_carry_1 (v := 12) (by decide) ?_
    refine pw_icmp_ge C 17 d_CN_carry_3 (by decide) (fun h3 => ?_) (fun h3 => ?_)
    · refine pw_vret C zr zk d_CN_carry_17 ?_
      refine ⟨fun g i _ _ => rfl, hC.2.2.2.2, F, hwo, tm_congr hF (fun y hy => ?_)⟩
      have e : cy_f cO cI (mo_f b (ct_f T ks ls ss R 0 p)) y = cy_f cO cI (fun _ _ => 0) y := cy_congr (fun x _ y _ => by unfold mo_f; cases b <;> rfl) hy
      rw [e, cy_0 _ _ _ (hF y hy).2]
    · exact absurd (show (12 : Int32) ≤ nI (12 - 0) by decide) h3
  | succ d ihd =>
    intro hd12 w p b gi ii go io IN F cI cO hC hp hdi hwi hIN hdo hwo hF hgi hgo hio
    have ih := ihd (by omega)
    obtain ⟨⟨hG, ⟨nn, ft, w4e⟩, w6e, w7e, w8e, ⟨rdy, w9e⟩, ⟨f10, w10e, hf10⟩⟩, w12e, w11e, ⟨f15, w15e, hf15⟩, hb16⟩ := id hC
    obtain ⟨ng, hGr⟩ := hG
    have d11 : ∀ j, j < 40 → pw_d X 11 j := fun j hj => hX 11 j (by simp [dm_k, hj])
    refine pw_open (by decide) hI [some (.ref (pw_a X 12 0)), some (.int (nI p)), some (.int (bi_f b)), some (.int (nI (12 - (d + 1)))), some (.ref (pw_a X gi ii)), some (.ref (pw_a X go io))] rfl (Nat.le_of_ble_eq_true rfl) ?_
    intro zp ze zs zm za zb zt zc hargs C zr zk hnm
    refine pw_iload_n C d_CN_carry_0 rfl ?_
    refine pw_bipush C d_CN_carry_1 (v := 12) (by decide) ?_
    refine pw_icmp_ge C 17 d_CN_carry_3 (by decide) (fun h3 => ?_) (fun h3 => ?_)
    · exact absurd ((nI_leI (a := 12) (by decide) (by omega)).mp h3) (by omega)
    refine pw_iload_n C d_CN_carry_6 rfl ?_
    refine pw_aload_n C d_CN_carry_7 rfl ?_
    refine pw_get C d_CN_carry_8 (hX 12 0 rfl) w12e 1 rfl rfl (by decide) in_CN W_105 rfl ?_
    refine pw_getN C d_CN_carry_11 (hX 4 0 rfl) w4e 5 rfl rfl (by decide) in_PA N_12 rfl ?_
    refine pw_icmp_lt C 18 d_CN_carry_14 (by decide) (fun h14 => ?_) (fun h14 => ?_)
    · refine pw_aload_n C d_CN_carry_18 rfl ?_
      refine pw_get C d_CN_carry_19 (hX 12 0 rfl) w12e 1 rfl rfl (by decide) in_CN W_105 rfl ?_
      refine pw_getN C d_CN_carry_22 (hX 4 0 rfl) w4e 1 rfl rfl (by decide) in_PA N_6 rfl ?_
      refine pw_iload_n C d_CN_carry_25 rfl ?_
      refine pw_ialdK C d_CN_carry_26 (hX 6 0 rfl) w6e (by omega) ?_
      have L172 : ¬ (ks p = 0 ∨ ks p = 7) ∧ ¬ ks p = 1 ∧ ¬ ks p = 2 ∧ ¬ ks p = 3 → MW zp l ze ({ frames := 2 * (d + 1) + 5, cells := 0, slots := 0, locals := 53 * (d + 1) + 120 } : Room) zs zm za zb zt zc X 6 0 0 (MQ zb (va_Qv (ca_post X w (d + 1) go io (cy_f cO cI (mo_f b (ct_f T ks ls ss R (d + 1) p)))) (pw_B X) (pw_F X)) za zs 0 0 (pw_F X)) w 172 [some (.ref (pw_a X 12 0)), some (.int (nI p)), some (.int (bi_f b)), some (.int (nI (12 - (d + 1)))), some (.ref (pw_a X gi ii)), some (.ref (pw_a X go io))] [] := by
        intro hn
        refine pw_aload_n C d_CN_carry_172 rfl ?_
        refine pw_get C d_CN_carry_173 (hX 12 0 rfl) w12e 2 rfl rfl (by decide) in_CN W_106 rfl ?_
        refine pw_getN C d_CN_carry_176 (hX 9 0 rfl) w9e 2 rfl rfl (by decide) in_RE N_15 rfl ?_
        refine pw_iload_n C d_CN_carry_179 rfl ?_
        refine pw_aaldK C d_CN_carry_180 (hX 10 0 rfl) w10e (by omega) (hf10 p (by omega)) ?_
        refine pw_iload_n C d_CN_carry_181 rfl ?_
        refine pw_aload C d_CN_carry_182 rfl ?_
        refine pw_aload C d_CN_carry_184 rfl ?_
        refine pw_callSv C (k_CN_carryOver l hI w b (d11 p (by omega)) (w11e p (by omega)) hdi hwi hIN hdo hwo hF (fun z => by omega) hio) ⟨pw_cb C 4 W_289 W_5 W_287 ⟨rfl, rfl⟩ (by decide +kernel) ⟨by show 3 + 1 ≤ 2 * (d + 1) + 5; omega, by show 8 + (5 + 11) + 71 ≤ 53 * (d + 1) + 120; omega⟩, pw_w C W_288⟩ rfl rfl (Nat.le_of_ble_eq_true rfl) d_CN_carry_186 ⟨Nat.zero_le _, Nat.zero_le _⟩ (fun w9 hp9 => ?_)
        obtain ⟨f1, rfl, hf1⟩ := hp9
        refine pw_vret C zr zk d_CN_carry_189 ?_
        refine ca_up hb16 (tm_congr hf1 (fun y hy => cy_congr (fun x hx y hy => ?_) hy))
        have e : ct_f T ks ls ss R (d + 1) p = ma_f false (R p) := by
          funext x y
          exact (if_neg hn.1).trans ((if_neg hn.2.1).trans ((if_neg hn.2.2.1).trans (if_neg hn.2.2.2)))
        rw [e]
        unfold mo_f
        cases b <;> rfl
      rcases sw8 (ks p) with hk | hk | hk | hk | hk | hk
      · have L72 : MW zp l ze ({ frames := 2 * (d + 1) + 5, cells := 0, slots := 0, locals := 53 * (d + 1) + 120 } : Room) zs zm za zb zt zc X 6 0 0 (MQ zb (va_Qv (ca_post X w (d + 1) go io (cy_f cO cI (mo_f b (ct_f T ks ls ss R (d + 1) p)))) (pw_B X) (pw_F X)) za zs 0 0 (pw_F X)) w 72 [some (.ref (pw_a X 12 0)), some (.int (nI p)), some (.int (bi_f b)), some (.int (nI (12 - (d + 1)))), some (.ref (pw_a X gi ii)), some (.ref (pw_a X go io))] [] := by
          refine pw_aload_n C d_CN_carry_72 rfl ?_
          refine pw_aload_n C d_CN_carry_73 rfl ?_
          refine pw_get C d_CN_carry_74 (hX 12 0 rfl) w12e 1 rfl rfl (by decide) in_CN W_105 rfl ?_
          refine pw_getN C d_CN_carry_77 (hX 4 0 rfl) w4e 2 rfl rfl (by decide) in_PA N_8 rfl ?_
          refine pw_iload_n C d_CN_carry_80 rfl ?_
          refine pw_ialdK C d_CN_carry_81 (hX 7 0 rfl) w7e (by omega) ?_
          refine pw_iload_n C d_CN_carry_82 rfl ?_
          refine pw_aload C d_CN_carry_83 rfl ?_
          refine pw_aload C d_CN_carry_85 rfl ?_
          refine pw_callVv C (k_CN_carryOverEdges l hI w (ls p) b hX hGr w12e hdi hwi hIN hdo hwo hF hgo.1 hio) (hX 12 0 rfl) w12e rfl ⟨pw_cb C 4 W_285 W_5 W_282 ⟨rfl, rfl⟩ (by decide +kernel) ⟨by show 4 + 1 ≤ 2 * (d + 1) + 5; omega, by show 8 + (6 + 11) + 95 ≤ 53 * (d + 1) + 120; omega⟩, pw_w C W_284, pw_w C V_15⟩ rfl rfl (Nat.le_of_ble_eq_true rfl) d_CN_carry_87 ⟨Nat.zero_le _, Nat.zero_le _⟩ (fun w9 hp9 => ?_)
          obtain ⟨f1, rfl, hf1⟩ := hp9
          refine pw_goto C 189 d_CN_carry_90 (by decide) ?_
          refine pw_vret C zr zk d_CN_carry_189 ?_
          refine ca_up hb16 (tm_congr hf1 (fun y hy => cy_congr (fun x hx y hy => ?_) hy))
          have e : ct_f T ks ls ss R (d + 1) p = me_f false (ls p) T := by funext x y; exact if_pos hk
          rw [e]
          unfold mo_f
          cases b <;> rfl
        rcases hk with hk | hk
        · rw [hk]
          exact pw_tableIn C 72 d_CN_carry_27 (by decide) (by decide) rfl (by decide) L72
        · rw [hk]
          exact pw_tableIn C 72 d_CN_carry_27 (by decide) (by decide) rfl (by decide) L72
      · have hl : ¬ (ks p = 0 ∨ ks p = 7) := by rw [hk]; decide
        obtain ⟨hp1, -⟩ := hfl p hp hl
        have e : ct_f T ks ls ss R (d + 1) p = fun x y => ct_f T ks ls ss R d (p + 1) y x := by funext x y; exact (if_neg hl).trans (if_pos hk)
        rw [hk]
        refine pw_tableIn C 93 d_CN_carry_27 (by decide) (by decide) rfl (by decide) ?_
        cases b with
        | false =>
          refine pw_aload_n C d_CN_carry_93 rfl ?_
          refine pw_iload_n C d_CN_carry_94 rfl ?_
          refine pw_iconst C d_CN_carry_95 (v := 1) (by decide) ?_
          refine pw_iadd C d_CN_carry_96 ?_
          refine pw_iload_n C d_CN_carry_97 rfl ?_
          refine pw_if_ne C 105 d_CN_carry_98 (by decide) (fun h98 => ?_) (fun h98 => ?_)
          · exact absurd rfl h98
          refine pw_iconst C d_CN_carry_101 (v := 1) (by decide) ?_
          refine pw_goto C 106 d_CN_carry_102 (by decide) ?_
          refine pw_iload_n C d_CN_carry_106 rfl ?_
          refine pw_iconst C d_CN_carry_107 (v := 1) (by decide) ?_
          refine pw_iadd C d_CN_carry_108 ?_
          refine pw_aload C d_CN_carry_109 rfl ?_
          refine pw_aload C d_CN_carry_111 rfl ?_
          rw [nI_1 p, show nI (12 - (d + 1)) + 1 = nI (12 - d) from by rw [nI_1]; congr 1; omega]
          refine pw_callVv C (ih w (p + 1) true gi ii go io IN F cI cO hC hp1 hdi hwi hIN hdo hwo hF ⟨hgi.1, hgi.2.1, fun z => by have := hgi.2.2 z; omega⟩ ⟨hgo.1, hgo.2.1, fun z => by have := hgo.2.2 z; omega⟩ hio) (hX 12 0 rfl) w12e rfl ⟨pw_cb C 5 W_281 W_5 W_278 ⟨rfl, rfl⟩ (by decide +kernel) ⟨by show (2 * d + 5) + 1 ≤ 2 * (d + 1) + 5; omega, by show 8 + (6 + 11) + (53 * d + 120) ≤ 53 * (d + 1) + 120; omega⟩, pw_w C W_280, pw_w C V_14⟩ rfl rfl (Nat.le_of_ble_eq_true rfl) d_CN_carry_113 ⟨Nat.zero_le _, Nat.zero_le _⟩ (fun w9 hp9 => ?_)
          refine pw_goto C 189 d_CN_carry_116 (by decide) ?_
          refine pw_vret C zr zk d_CN_carry_189 ?_
          refine ca_mono hp9 (fun y hy => cy_congr (fun x hx y hy => ?_) hy)
          rw [e]
          rfl
        | true =>
          refine pw_aload_n C d_CN_carry_93 rfl ?_
          refine pw_iload_n C d_CN_carry_94 rfl ?_
          refine pw_iconst C d_CN_carry_95 (v := 1) (by decide) ?_
          refine pw_iadd C d_CN_carry_96 ?_
          refine pw_iload_n C d_CN_carry_97 rfl ?_
          refine pw_if_ne C 105 d_CN_carry_98 (by decide) (fun h98 => ?_) (fun h98 => ?_)
          · refine pw_iconst C d_CN_carry_105 (v := 0) (by decide) ?_
            refine pw_iload_n C d_CN_carry_106 rfl ?_
            refine pw_iconst C d_CN_carry_107 (v := 1) (by decide) ?_
            refine pw_iadd C d_CN_carry_108 ?_
            refine pw_aload C d_CN_carry_109 rfl ?_
            refine pw_aload C d_CN_carry_111 rfl ?_
            rw [nI_1 p, show nI (12 - (d + 1)) + 1 = nI (12 - d) from by rw [nI_1]; congr 1; omega]
            refine pw_callVv C (ih w (p + 1) false gi ii go io IN F cI cO hC hp1 hdi hwi hIN hdo hwo hF ⟨hgi.1, hgi.2.1, fun z => by have := hgi.2.2 z; omega⟩ ⟨hgo.1, hgo.2.1, fun z => by have := hgo.2.2 z; omega⟩ hio) (hX 12 0 rfl) w12e rfl ⟨pw_cb C 5 W_281 W_5 W_278 ⟨rfl, rfl⟩ (by decide +kernel) ⟨by show (2 * d + 5) + 1 ≤ 2 * (d + 1) + 5; omega, by show 8 + (6 + 11) + (53 * d + 120) ≤ 53 * (d + 1) + 120; omega⟩, pw_w C W_280, pw_w C V_14⟩ rfl rfl (Nat.le_of_ble_eq_true rfl) d_CN_carry_113 ⟨Nat.zero_le _, Nat.zero_le _⟩ (fun w9 hp9 => ?_)
            refine pw_goto C 189 d_CN_carry_116 (by decide) ?_
            refine pw_vret C zr zk d_CN_carry_189 ?_
            refine ca_mono hp9 (fun y hy => cy_congr (fun x hx y hy => ?_) hy)
            rw [e]
            rfl
          · exact absurd h98 (by decide)
      · have hl : ¬ (ks p = 0 ∨ ks p = 7) := by rw [hk]; decide
        obtain ⟨hp1, q, hq, -, hss, -⟩ := hfl p hp hl
        have e : ct_f T ks ls ss R (d + 1) p = fun x y => sg_f (fun z => ct_f T ks ls ss R d (p + 1) x z * ct_f T ks ls ss R d q z y) 64 := by
          funext x y
          refine (if_neg hl).trans ((if_neg (by rw [hk]; decide)).trans ((if_pos hk).trans ?_))
          rw [hss, nI_clamp (by omega)]
        rw [hk]
        refine pw_tableIn C 119 d_CN_carry_27 (by decide) (by decide) rfl (by decide) ?_
        refine pw_aload_n C d_CN_carry_119 rfl ?_
        refine pw_iload_n C d_CN_carry_120 rfl ?_
        refine pw_iload_n C d_CN_carry_121 rfl ?_
        refine pw_iload_n C d_CN_carry_122 rfl ?_
        refine pw_aload C d_CN_carry_123 rfl ?_
        refine pw_aload C d_CN_carry_125 rfl ?_
        refine pw_callVv C (k_CN_carryOverBoth l hI hX h40 (by omega) ih w b hC hp1 hq hss hdi hwi hIN hdo hwo hF hgi hgo hio) (hX 12 0 rfl) w12e rfl ⟨pw_cb C 5 W_304 W_5 W_301 ⟨rfl, rfl⟩ (by decide +kernel) ⟨by show (2 * d + 6) + 1 ≤ 2 * (d + 1) + 5; omega, by show 8 + (9 + 11) + (53 * d + 145) ≤ 53 * (d + 1) + 120; omega⟩, pw_w C W_303, pw_w C V_16⟩ rfl rfl (Nat.le_of_ble_eq_true rfl) d_CN_carry_127 ⟨Nat.zero_le _, Nat.zero_le _⟩ (fun w9 hp9 => ?_)
        refine pw_goto C 189 d_CN_carry_130 (by decide) ?_
        refine pw_vret C zr zk d_CN_carry_189 ?_
        rw [e]
        exact hp9
      · have hl : ¬ (ks p = 0 ∨ ks p = 7) := by rw [hk]; decide
        obtain ⟨hp1, q, hq, -, hss, -⟩ := hfl p hp hl
        have e : ct_f T ks ls ss R (d + 1) p = fun x y => ct_f T ks ls ss R d (p + 1) x y + ct_f T ks ls ss R d q x y := by
          funext x y
          refine (if_neg hl).trans ((if_neg (by rw [hk]; decide)).trans ((if_neg (by rw [hk]; decide)).trans ((if_pos hk).trans ?_)))
          rw [hss, nI_clamp (by omega)]
        rw [hk]
        refine pw_tableIn C 133 d_CN_carry_27 (by decide) (by decide) rfl (by decide) ?_
        refine pw_aload_n C d_CN_carry_133 rfl ?_
        refine pw_iload_n C d_CN_carry_134 rfl ?_
        refine pw_iconst C d_CN_carry_135 (v := 1) (by decide) ?_
        refine pw_iadd C d_CN_carry_136 ?_
        refine pw_iload_n C d_CN_carry_137 rfl ?_
        refine pw_iload_n C d_CN_carry_138 rfl ?_
        refine pw_iconst C d_CN_carry_139 (v := 1) (by decide) ?_
        refine pw_iadd C d_CN_carry_140 ?_
        refine pw_aload C d_CN_carry_141 rfl ?_
        refine pw_aload C d_CN_carry_143 rfl ?_
        rw [nI_1 p, show nI (12 - (d + 1)) + 1 = nI (12 - d) from by rw [nI_1]; congr 1; omega]
        refine pw_callVv C (ih w (p + 1) b gi ii go io IN F cI cO hC hp1 hdi hwi hIN hdo hwo hF ⟨hgi.1, hgi.2.1, fun z => by have := hgi.2.2 z; omega⟩ ⟨hgo.1, hgo.2.1, fun z => by have := hgo.2.2 z; omega⟩ hio) (hX 12 0 rfl) w12e rfl ⟨pw_cb C 5 W_281 W_5 W_278 ⟨rfl, rfl⟩ (by decide +kernel) ⟨by show (2 * d + 5) + 1 ≤ 2 * (d + 1) + 5; omega, by show 8 + (6 + 11) + (53 * d + 120) ≤ 53 * (d + 1) + 120; omega⟩, pw_w C W_280, pw_w C V_14⟩ rfl rfl (Nat.le_of_ble_eq_true rfl) d_CN_carry_145 ⟨Nat.zero_le _, Nat.zero_le _⟩ (fun w2 hp2 => ?_)
        obtain ⟨a1, a2, f1, a3, a4⟩ := hp2
        have hC2 : c_st X w2 T ks ls ss parts R st0 := c_st_of hC (fun g hg => funext fun i => a1 g i (fun z => by omega) (fun z => by omega)) a2
        have hi2 : w2 gi ii = aL X 64 IN := by rw [a1 gi ii hio (fun z => by have := hgi.2.2 z.1; omega)]; exact hwi
        obtain ⟨-, ⟨nn2, ft2, w4e2⟩, -, -, w8e2, -, -⟩ := hC2.1
        refine pw_aload_n C d_CN_carry_148 rfl ?_
        refine pw_aload_n C d_CN_carry_149 rfl ?_
        refine pw_get C d_CN_carry_150 (hX 12 0 rfl) hC2.2.1 1 rfl rfl (by decide) in_CN W_105 rfl ?_
        refine pw_getN C d_CN_carry_153 (hX 4 0 rfl) w4e2 3 rfl rfl (by decide) in_PA N_10 rfl ?_
        refine pw_iload_n C d_CN_carry_156 rfl ?_
        refine pw_ialdK C d_CN_carry_157 (hX 8 0 rfl) w8e2 (by omega) ?_
        rw [hss]
        refine pw_iload_n C d_CN_carry_158 rfl ?_
        refine pw_iload_n C d_CN_carry_159 rfl ?_
        refine pw_iconst C d_CN_carry_160 (v := 1) (by decide) ?_
        refine pw_iadd C d_CN_carry_161 ?_
        refine pw_aload C d_CN_carry_162 rfl ?_
        refine pw_aload C d_CN_carry_164 rfl ?_
        rw [show nI (12 - (d + 1)) + 1 = nI (12 - d) from by rw [nI_1]; congr 1; omega]
        refine pw_callVv C (ih w2 q b gi ii go io IN f1 cI _ hC2 hq hdi hi2 hIN hdo a3 a4 ⟨hgi.1, hgi.2.1, fun z => by have := hgi.2.2 z; omega⟩ ⟨hgo.1, hgo.2.1, fun z => by have := hgo.2.2 z; omega⟩ hio) (hX 12 0 rfl) hC2.2.1 rfl ⟨pw_cb C 5 W_281 W_5 W_278 ⟨rfl, rfl⟩ (by decide +kernel) ⟨by show (2 * d + 5) + 1 ≤ 2 * (d + 1) + 5; omega, by show 8 + (6 + 11) + (53 * d + 120) ≤ 53 * (d + 1) + 120; omega⟩, pw_w C W_280, pw_w C V_14⟩ rfl rfl (Nat.le_of_ble_eq_true rfl) d_CN_carry_166 ⟨Nat.zero_le _, Nat.zero_le _⟩ (fun w3 hp3 => ?_)
        refine pw_goto C 189 d_CN_carry_169 (by decide) ?_
        refine pw_vret C zr zk d_CN_carry_189 ?_
        obtain ⟨b1, b2, f3, b3, b4⟩ := hp3
        refine ⟨fun g i g1 g2 => ?_, b2, f3, b3, tm_congr b4 (fun y hy => ?_)⟩
        · rw [b1 g i g1 (fun z => g2 ⟨z.1, by omega⟩), a1 g i g1 (fun z => g2 ⟨z.1, by omega⟩)]
        · rw [cy_add]
          refine cy_congr (fun x hx y hy => ?_) hy
          rw [e]
          unfold mo_f
          cases b <;> rfl
      · rcases hk with hk | hk | hk
        · have hn : ¬ (ks p = 0 ∨ ks p = 7) ∧ ¬ ks p = 1 ∧ ¬ ks p = 2 ∧ ¬ ks p = 3 := by rw [hk]; decide
          rw [hk]
          exact pw_tableIn C 172 d_CN_carry_27 (by decide) (by decide) rfl (by decide) (L172 hn)
        · have hn : ¬ (ks p = 0 ∨ ks p = 7) ∧ ¬ ks p = 1 ∧ ¬ ks p = 2 ∧ ¬ ks p = 3 := by rw [hk]; decide
          rw [hk]
          exact pw_tableIn C 172 d_CN_carry_27 (by decide) (by decide) rfl (by decide) (L172 hn)
        · have hn : ¬ (ks p = 0 ∨ ks p = 7) ∧ ¬ ks p = 1 ∧ ¬ ks p = 2 ∧ ¬ ks p = 3 := by rw [hk]; decide
          rw [hk]
          exact pw_tableIn C 172 d_CN_carry_27 (by decide) (by decide) rfl (by decide) (L172 hn)
      · have hn : ¬ (ks p = 0 ∨ ks p = 7) ∧ ¬ ks p = 1 ∧ ¬ ks p = 2 ∧ ¬ ks p = 3 := by
          refine ⟨fun z => ?_, fun z => ?_, fun z => ?_, fun z => ?_⟩
          · rcases z with z | z <;> (rw [z] at hk; exact absurd hk (by decide))
          · rw [z] at hk; exact absurd hk (by decide)
          · rw [z] at hk; exact absurd hk (by decide)
          · rw [z] at hk; exact absurd hk (by decide)
        exact pw_tableOut C 172 d_CN_carry_27 hk (by decide) (L172 hn)
    · exact absurd (nI_lt hp (by omega)) h14
