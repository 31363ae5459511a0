/-! COUNTS: carryOver, carryOverEdges -/
def bi_f (b : Bool) : Int32 := if b then 1 else 0
/-- rows as a table of 0 and 1, turned if b -/
def ma_f (b : Bool) (RW : Nat → Int64) (x y : Nat) : Nat := if b then (if bt_f (RW y) x then 1 else 0) else (if bt_f (RW x) y then 1 else 0)
/-- what a row of times becomes: old times, and the row in carried over M -/
def cy_f (cO cI : Nat → Nat) (M : Nat → Nat → Nat) (y : Nat) : Nat := cp_f (cO y + sg_f (fun x => cI x * M x y) 64)
theorem cy_congr {cO cI : Nat → Nat} {M M' : Nat → Nat → Nat} (h : ∀ x, x < 64 → ∀ y, y < 64 → M x y = M' x y) {y : Nat} (hy : y < 64) : cy_f cO cI M y = cy_f cO cI M' y := by
  unfold cy_f
  rw [sg_congr (fun x hx => by rw [h x hx y hy])]
theorem tm_congr {f : Nat → Int64} {c c' : Nat → Nat} (h : tm_f f c) (e : ∀ y, y < 64 → c y = c' y) : tm_f f c' := fun j hj => by rw [← e j hj]; exact h j hj
set_option maxHeartbeats 4000000 in
set_option maxRecDepth 100000 in
theorem k_CN_carryOver (l : Launch) {X : Lay} (hI : pw_I X) (w : Wd) {gr ir gi ii go io : Nat} {RW IN F : Nat → Int64} {cI cO : Nat → Nat} (b : Bool) (hdr : pw_d X gr ir) (hwr : w gr ir = aL X 64 RW) (hdi : pw_d X gi ii) (hwi : w gi ii = aL X 64 IN) (hIN : tm_f IN cI) (hdo : pw_d X go io) (hwo : w go io = aL X 64 F) (hF : tm_f F cO) (hro : ¬ (gr = go ∧ ir = io)) (hio : ¬ (gi = go ∧ ii = io)) : CtV l y_CN_carryOver (pw_ws y_CN_carryOver c_CN_carryOver 5 none) { frames := 3, cells := 0, slots := 0, locals := 71 } X w [.ref (pw_a X gr ir), .int (bi_f b), .ref (pw_a X gi ii), .ref (pw_a X go io)] (fun w1 => ∃ f1, w1 = pw_up w go io (aL X 64 f1) ∧ tm_f f1 (cy_f cO cI (ma_f b RW))) := by
  refine pw_open (by decide) hI [some (.ref (pw_a X gr ir)), some (.int (bi_f b)), some (.ref (pw_a X gi ii)), some (.ref (pw_a X go io)), none] rfl (Nat.le_of_ble_eq_true rfl) ?_
  intro zp ze zs zm za zb zt zc hargs C zr zk hnm
  cases b with
  | false =>
    have L : ∀ d k : Nat, k + d = 64 → ∀ f1 : Nat → Int64, tm_f f1 (fun y => cp_f (cO y + sg_f (fun x => cI x * ma_f false RW x y) k)) → MW zp l ze ({ frames := 3, cells := 0, slots := 0, locals := 71 } : Room) zs zm za zb zt zc X 5 0 0 (MQ zb (va_Qv (fun w1 => ∃ f1, w1 = pw_up w go io (aL X 64 f1) ∧ tm_f f1 (cy_f cO cI (ma_f false RW))) (pw_B X) (pw_F X)) za zs 0 0 (pw_F X)) (pw_up w go io (aL X 64 f1)) 3 [some (.ref (pw_a X gr ir)), some (.int (bi_f false)), some (.ref (pw_a X gi ii)), some (.ref (pw_a X go io)), some (.int (nI k))] [] := by
      intro d
      induction d with
      | zero =>
        intro k hkd f1 hf
        have hk64 : k = 64 := by omega
        subst hk64
        refine pw_iload C d_CN_carryOver_3 rfl ?_
        refine pw_bipush C d_CN_carryOver_5 (v := 64) (by decide) ?_
        refine pw_icmp_ge C 63 d_CN_carryOver_7 (by decide) (fun h7 => ?_) (fun h7 => ?_)
        · refine pw_vret C zr zk d_CN_carryOver_63 ?_
          exact ⟨f1, rfl, hf⟩
        · exact absurd (nI_le (a := 64) (b := 64) (by omega) (by omega)) h7
      | succ d ih =>
        intro k hkd f1 hf
        refine pw_iload C d_CN_carryOver_3 rfl ?_
        refine pw_bipush C d_CN_carryOver_5 (v := 64) (by decide) ?_
        refine pw_icmp_ge C 63 d_CN_carryOver_7 (by decide) (fun h7 => ?_) (fun h7 => ?_)
        · exact absurd ((nI_leI (a := 64) (by decide) (by omega)).mp h7) (by omega)
        refine pw_iload_n C d_CN_carryOver_10 rfl ?_
        refine pw_if_eq C 36 d_CN_carryOver_11 (by decide) (fun h11 => ?_) (fun h11 => ?_)
        · refine pw_aload_n C d_CN_carryOver_36 rfl ?_
          refine pw_iload C d_CN_carryOver_37 rfl ?_
          refine pw_laldK C d_CN_carryOver_39 hdi (by rw [pw_up_ne _ _ hio]; exact hwi) (by omega) ?_
          refine pw_lconst C d_CN_carryOver_40 (v := 0) (by decide) ?_
          refine pw_lcmp C d_CN_carryOver_41 ?_
          refine pw_if_eq C 57 d_CN_carryOver_42 (by decide) (fun h42 => ?_) (fun h42 => ?_)
          · refine pw_iinc1 C d_CN_carryOver_57 rfl (by decide) ?_
            refine pw_goto C 3 d_CN_carryOver_60 (by decide) ?_
            have hz : cI k = 0 := by
              have e := (lc_eq _ _).mp h42
              rw [(hIN k (by omega)).1] at e
              have h15 : C15 < 2 ^ 63 := by decide
              exact (pk_lEQ (a := cI k) (b := 0) (Nat.lt_of_le_of_lt (hIN k (by omega)).2 h15) (by decide)).mp e
            refine ih (k + 1) (by omega) f1 (tm_congr hf (fun y hy => ?_))
            show _ = cp_f (cO y + (sg_f (fun x => cI x * ma_f false RW x y) k + cI k * ma_f false RW k y))
            rw [hz]; simp
          · refine pw_aload_n C d_CN_carryOver_45 rfl ?_
            refine pw_iload C d_CN_carryOver_46 rfl ?_
            refine pw_laldK C d_CN_carryOver_48 hdr (by rw [pw_up_ne _ _ hro]; exact hwr) (by omega) ?_
            refine pw_aload_n C d_CN_carryOver_49 rfl ?_
            refine pw_iload C d_CN_carryOver_50 rfl ?_
            refine pw_laldK C d_CN_carryOver_52 hdi (by rw [pw_up_ne _ _ hio]; exact hwi) (by omega) ?_
            refine pw_aload_n C d_CN_carryOver_53 rfl ?_
            rw [(hIN k (by omega)).1]
            refine pw_callSv C (k_CN_spread l hI _ (c := cI k) (RW k) (hIN k (by omega)).2 hdo (pw_up_self w go io _) hf) ⟨pw_cb C 3 W_300 W_5 W_298 ⟨rfl, rfl⟩ (by decide +kernel) ⟨(Nat.le_of_ble_eq_true rfl), (Nat.le_of_ble_eq_true rfl)⟩, pw_w C W_299⟩ rfl rfl (Nat.le_of_ble_eq_true rfl) d_CN_carryOver_54 ⟨Nat.zero_le _, Nat.zero_le _⟩ (fun w9 hp => ?_)
            obtain ⟨f2, e9, hf2⟩ := hp
            refine MW.world e9 ?_
            rw [pw_up_up]
            refine pw_iinc1 C d_CN_carryOver_57 rfl (by decide) ?_
            refine pw_goto C 3 d_CN_carryOver_60 (by decide) ?_
            refine ih (k + 1) (by omega) f2 (tm_congr hf2 (fun y hy => ?_))
            show cp_f (cp_f (cO y + sg_f (fun x => cI x * ma_f false RW x y) k) + (if bt_f (RW k) y then cI k else 0)) = cp_f (cO y + (sg_f (fun x => cI x * ma_f false RW x y) k + cI k * ma_f false RW k y))
            rw [cp_add, Nat.add_assoc]
            congr 3
            unfold ma_f
            by_cases q : bt_f (RW k) y <;> simp [q]
        · exact absurd rfl h11
    refine pw_iconst C d_CN_carryOver_0 (v := 0) (by decide) ?_
    refine pw_istore C d_CN_carryOver_1 (by decide) ?_
    refine MW.world (pw_up_id w hwo).symm ?_
    exact L 64 0 rfl F (fun y hy => ⟨by rw [(hF y hy).1]; show _ = lN (cp_f (cO y + 0)); rw [Nat.add_zero, cp_id (hF y hy).2], cp_le _⟩)
  | true =>
    have L : ∀ d k : Nat, k + d = 64 → ∀ f1 : Nat → Int64, tm_f f1 (fun y => if y < k then cy_f cO cI (ma_f true RW) y else cO y) → MW zp l ze ({ frames := 3, cells := 0, slots := 0, locals := 71 } : Room) zs zm za zb zt zc X 5 0 0 (MQ zb (va_Qv (fun w1 => ∃ f1, w1 = pw_up w go io (aL X 64 f1) ∧ tm_f f1 (cy_f cO cI (ma_f true RW))) (pw_B X) (pw_F X)) za zs 0 0 (pw_F X)) (pw_up w go io (aL X 64 f1)) 3 [some (.ref (pw_a X gr ir)), some (.int (bi_f true)), some (.ref (pw_a X gi ii)), some (.ref (pw_a X go io)), some (.int (nI k))] [] := by
      intro d
      induction d with
      | zero =>
        intro k hkd f1 hf
        have hk64 : k = 64 := by omega
        subst hk64
        refine pw_iload C d_CN_carryOver_3 rfl ?_
        refine pw_bipush C d_CN_carryOver_5 (v := 64) (by decide) ?_
        refine pw_icmp_ge C 63 d_CN_carryOver_7 (by decide) (fun h7 => ?_) (fun h7 => ?_)
        · refine pw_vret C zr zk d_CN_carryOver_63 ?_
          exact ⟨f1, rfl, tm_congr hf (fun y hy => if_pos hy)⟩
        · exact absurd (nI_le (a := 64) (b := 64) (by omega) (by omega)) h7
      | succ d ih =>
        intro k hkd f1 hf
        refine pw_iload C d_CN_carryOver_3 rfl ?_
        refine pw_bipush C d_CN_carryOver_5 (v := 64) (by decide) ?_
        refine pw_icmp_ge C 63 d_CN_carryOver_7 (by decide) (fun h7 => ?_) (fun h7 => ?_)
        · exact absurd ((nI_leI (a := 64) (by decide) (by omega)).mp h7) (by omega)
        refine pw_iload_n C d_CN_carryOver_10 rfl ?_
        refine pw_if_eq C 36 d_CN_carryOver_11 (by decide) (fun h11 => ?_) (fun h11 => ?_)
        · exact absurd h11 (by decide)
        refine pw_aload_n C d_CN_carryOver_14 rfl ?_
        refine pw_iload C d_CN_carryOver_15 rfl ?_
        refine pw_aload_n C d_CN_carryOver_17 rfl ?_
        refine pw_iload C d_CN_carryOver_18 rfl ?_
        refine pw_laldK C d_CN_carryOver_20 hdo (pw_up_self w go io _) (by omega) ?_
        refine pw_aload_n C d_CN_carryOver_21 rfl ?_
        refine pw_iload C d_CN_carryOver_22 rfl ?_
        refine pw_laldK C d_CN_carryOver_24 hdr (by rw [pw_up_ne _ _ hro]; exact hwr) (by omega) ?_
        refine pw_aload_n C d_CN_carryOver_25 rfl ?_
        refine pw_callSl C (k_CN_gather l hI _ (RW k) hdi (by rw [pw_up_ne _ _ hio]; exact hwi) hIN) ⟨pw_cb C 2 W_292 W_5 W_290 ⟨rfl, rfl⟩ (by decide +kernel) ⟨(Nat.le_of_ble_eq_true rfl), (Nat.le_of_ble_eq_true rfl)⟩, pw_w C W_291⟩ rfl rfl (Nat.le_of_ble_eq_true rfl) d_CN_carryOver_26 ⟨Nat.zero_le _, Nat.zero_le _⟩ (fun rg w9 hp => ?_)
        obtain ⟨e9, hp⟩ := hp
        subst hp
        refine MW.world e9 ?_
        have e1 : f1 k = lN (cO k) := by
          have := (hf k (by omega)).1
          simpa using this
        rw [e1]
        refine pw_callSNl C (k_PF_sumOf l hI _ (hF k (by omega)).2 (cp_le _)) ⟨pw_cn C 2 W_296 W_1 N_34 ⟨rfl, rfl⟩ (by decide +kernel) ⟨(Nat.le_of_ble_eq_true rfl), (Nat.le_of_ble_eq_true rfl)⟩, pw_w C W_295, trivial⟩ rfl rfl (Nat.le_of_ble_eq_true rfl) d_CN_carryOver_29 ⟨Nat.zero_le _, Nat.zero_le _⟩ (fun rs w9 hp => ?_)
        obtain ⟨e9, hp⟩ := hp
        subst hp
        refine MW.world e9 ?_
        refine pw_lastK C d_CN_carryOver_32 hdo (pw_up_self w go io _) (by omega) ?_
        refine pw_goto C 57 d_CN_carryOver_33 (by decide) ?_
        refine pw_iinc1 C d_CN_carryOver_57 rfl (by decide) ?_
        refine pw_goto C 3 d_CN_carryOver_60 (by decide) ?_
        rw [pw_up_up]
        refine ih (k + 1) (by omega) _ (fun y hy => ?_)
        by_cases q : y = k
        · subst q
          rw [pk_uLs]
          have q2 : y < y + 1 := by omega
          simp only [q2, if_true]
          refine ⟨?_, cp_le _⟩
          congr 1
          unfold cy_f
          rw [cp_add']
          congr 2
          refine sg_congr (fun x hx => ?_)
          unfold ma_f
          by_cases q3 : bt_f (RW y) x <;> simp [q3]
        · rw [pk_uLn q]
          have h := hf y hy
          by_cases q2 : y < k
          · have q3 : y < k + 1 := by omega
            simp only [q2, q3, if_true] at h ⊢
            exact h
          · have q3 : ¬ y < k + 1 := by omega
            simp only [q2, q3, if_false] at h ⊢
            exact h
    refine pw_iconst C d_CN_carryOver_0 (v := 0) (by decide) ?_
    refine pw_istore C d_CN_carryOver_1 (by decide) ?_
    refine MW.world (pw_up_id w hwo).symm ?_
    exact L 64 0 rfl F (fun y hy => by simpa using hF y hy)
/-- the edges of a set of labels as a table of numbers, turned if b -/
def me_f (b : Bool) (v : Int32) (T : Nat → Nat → Int64) (x y : Nat) : Nat := sg_f (fun k => if bt_f v.toInt64 k then ma_f b (T k) x y else 0) 8
set_option maxHeartbeats 4000000 in
set_option maxRecDepth 100000 in
theorem k_CN_carryOverEdges (l : Launch) {X : Lay} (hI : pw_I X) (w : Wd) {T : Nat → Nat → Int64} {n st0 : Int32} {gi ii go io : Nat} {IN F : Nat → Int64} {cI cO : Nat → Nat} (v : Int32) (b : Bool) (hX : Dm X) (hG : g_rep X w T n) (h12 : w 12 0 = oB 0 [.ref (pw_a X 1 0), .ref (pw_a X 4 0), .ref (pw_a X 9 0), .ref (pw_a X 13 0), .ref (pw_a X 14 0), .ref (pw_a X 15 0), .int st0]) (hdi : pw_d X gi ii) (hwi : w gi ii = aL X 64 IN) (hIN : tm_f IN cI) (hdo : pw_d X go io) (hwo : w go io = aL X 64 F) (hF : tm_f F cO) (hgo : 13 ≤ go) (hio : ¬ (gi = go ∧ ii = io)) : CtV l y_CN_carryOverEdges (pw_ws y_CN_carryOverEdges c_CN_carryOverEdges 6 none) { frames := 4, cells := 0, slots := 0, locals := 95 } X w [.ref (pw_a X 12 0), .int v, .int (bi_f b), .ref (pw_a X gi ii), .ref (pw_a X go io)] (fun w1 => ∃ f1, w1 = pw_up w go io (aL X 64 f1) ∧ tm_f f1 (cy_f cO cI (me_f b v T))) := by
  refine pw_open (by decide) hI [some (.ref (pw_a X 12 0)), some (.int v), some (.int (bi_f b)), some (.ref (pw_a X gi ii)), some (.ref (pw_a X go io)), none] rfl (Nat.le_of_ble_eq_true rfl) ?_
  intro zp ze zs zm za zb zt zc hargs C zr zk hnm
  have L : ∀ d k : Nat, k + d = 8 → ∀ f1 : Nat → Int64, tm_f f1 (cy_f cO cI (fun x y => sg_f (fun k => if bt_f v.toInt64 k then ma_f b (T k) x y else 0) k)) → MW zp l ze ({ frames := 4, cells := 0, slots := 0, locals := 95 } : Room) zs zm za zb zt zc X 6 0 0 (MQ zb (va_Qv (fun w1 => ∃ f1, w1 = pw_up w go io (aL X 64 f1) ∧ tm_f f1 (cy_f cO cI (me_f b v T))) (pw_B X) (pw_F X)) za zs 0 0 (pw_F X)) (pw_up w go io (aL X 64 f1)) 3 [some (.ref (pw_a X 12 0)), some (.int v), some (.int (bi_f b)), some (.ref (pw_a X gi ii)), some (.ref (pw_a X go io)), some (.int (nI k))] [] := by
    intro d
    induction d with
    | zero =>
      intro k hkd f1 hf
      have hk8 : k = 8 := by omega
      subst hk8
      refine pw_iload C d_CN_carryOverEdges_3 rfl ?_
      refine pw_bipush C d_CN_carryOverEdges_5 (v := 8) (by decide) ?_
      refine pw_icmp_ge C 43 d_CN_carryOverEdges_7 (by decide) (fun h7 => ?_) (fun h7 => ?_)
      · refine pw_vret C zr zk d_CN_carryOverEdges_43 ?_
        exact ⟨f1, rfl, hf⟩
      · exact absurd (nI_le (a := 8) (b := 8) (by omega) (by omega)) h7
    | succ d ih =>
      intro k hkd f1 hf
      obtain ⟨d1, d2, d3, w1e, ⟨f, w2e, hff⟩, w3e⟩ := g_rep_of (w1 := pw_up w go io (aL X 64 f1)) hG (pw_up_row _ _ (by omega)) (pw_up_row _ _ (by omega)) (pw_up_row _ _ (by omega))
      refine pw_iload C d_CN_carryOverEdges_3 rfl ?_
      refine pw_bipush C d_CN_carryOverEdges_5 (v := 8) (by decide) ?_
      refine pw_icmp_ge C 43 d_CN_carryOverEdges_7 (by decide) (fun h7 => ?_) (fun h7 => ?_)
      · exact absurd ((nI_leI (a := 8) (by decide) (by omega)).mp h7) (by omega)
      refine pw_iload_n C d_CN_carryOverEdges_10 rfl ?_
      refine pw_i2l C d_CN_carryOverEdges_11 ?_
      refine pw_iload C d_CN_carryOverEdges_12 rfl ?_
      refine pw_callSNi C (k_PF_holds l hI _ v.toInt64 (k := k) (by omega)) ⟨pw_cn C 2 W_159 W_1 N_33 ⟨rfl, rfl⟩ (by decide +kernel) ⟨(Nat.le_of_ble_eq_true rfl), (Nat.le_of_ble_eq_true rfl)⟩, pw_w C W_158, trivial⟩ rfl rfl (Nat.le_of_ble_eq_true rfl) d_CN_carryOverEdges_14 ⟨Nat.zero_le _, Nat.zero_le _⟩ (fun r w9 hp => ?_)
      obtain ⟨e9, hp⟩ := hp
      refine MW.world e9 ?_
      refine pw_if_eq C 37 d_CN_carryOverEdges_17 (by decide) (fun h17 => ?_) (fun h17 => ?_)
      · refine pw_iinc1 C d_CN_carryOverEdges_37 rfl (by decide) ?_
        refine pw_goto C 3 d_CN_carryOverEdges_40 (by decide) ?_
        refine ih (k + 1) (by omega) f1 (tm_congr hf (fun y hy => cy_congr (fun x hx y hy => ?_) hy))
        have hz : bt_f v.toInt64 k = false := by
          cases hb : bt_f v.toInt64 k with
          | false => rfl
          | true => exact absurd hb (yn_f hp h17)
        show _ = sg_f (fun k => if bt_f v.toInt64 k then ma_f b (T k) x y else 0) k + (if bt_f v.toInt64 k then ma_f b (T k) x y else 0)
        rw [hz]; simp
      · refine pw_aload_n C d_CN_carryOverEdges_20 rfl ?_
        refine pw_get C d_CN_carryOverEdges_21 (hX 12 0 rfl) (by rw [pw_up_g _ _ (by omega)]; exact h12) 0 rfl rfl (by decide) in_CN W_104 rfl ?_
        refine pw_getN C d_CN_carryOverEdges_24 d1 w1e 0 rfl rfl (by decide) in_GR N_2 rfl ?_
        refine pw_iload C d_CN_carryOverEdges_27 rfl ?_
        refine pw_aaldK C d_CN_carryOverEdges_29 d2 w2e (by omega) (hff k (by omega)) ?_
        refine pw_iload_n C d_CN_carryOverEdges_30 rfl ?_
        refine pw_aload_n C d_CN_carryOverEdges_31 rfl ?_
        refine pw_aload C d_CN_carryOverEdges_32 rfl ?_
        refine pw_callSv C (k_CN_carryOver l hI _ b (d3 k (by omega)) (w3e k (by omega)) hdi (by rw [pw_up_ne _ _ hio]; exact hwi) hIN hdo (pw_up_self w go io _) hf (fun q => by omega) hio) ⟨pw_cb C 4 W_289 W_5 W_287 ⟨rfl, rfl⟩ (by decide +kernel) ⟨(Nat.le_of_ble_eq_true rfl), (Nat.le_of_ble_eq_true rfl)⟩, pw_w C W_288⟩ rfl rfl (Nat.le_of_ble_eq_true rfl) d_CN_carryOverEdges_34 ⟨Nat.zero_le _, Nat.zero_le _⟩ (fun w9 hp2 => ?_)
        obtain ⟨f2, e9, hf2⟩ := hp2
        refine MW.world e9 ?_
        rw [pw_up_up]
        refine pw_iinc1 C d_CN_carryOverEdges_37 rfl (by decide) ?_
        refine pw_goto C 3 d_CN_carryOverEdges_40 (by decide) ?_
        refine ih (k + 1) (by omega) f2 (tm_congr hf2 (fun y hy => ?_))
        have ht : bt_f v.toInt64 k = true := yn_t hp h17
        unfold cy_f
        rw [cp_add, Nat.add_assoc, ← sg_add]
        congr 2
        refine sg_congr (fun x hx => ?_)
        show _ = cI x * (sg_f (fun k => if bt_f v.toInt64 k then ma_f b (T k) x y else 0) k + (if bt_f v.toInt64 k then ma_f b (T k) x y else 0))
        rw [ht, Nat.mul_add]
        simp
  refine pw_iconst C d_CN_carryOverEdges_0 (v := 0) (by decide) ?_
  refine pw_istore C d_CN_carryOverEdges_1 (by decide) ?_
  refine MW.world (pw_up_id w hwo).symm ?_
  refine L 8 0 rfl F (fun y hy => ⟨?_, cp_le _⟩)
  rw [(hF y hy).1]
  unfold cy_f
  have : sg_f (fun x => cI x * sg_f (fun k => if bt_f v.toInt64 k then ma_f b (T k) x y else 0) 0) 64 = sg_f (fun _ => 0) 64 := sg_congr (fun x _ => Nat.mul_zero _)
  rw [this, sg_zero, Nat.add_zero, cp_id (hF y hy).2]
