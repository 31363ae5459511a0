/-! THE CLASS'S PUBLIC METHODS -/
def pf_st (X : Lay) (w : Wd) (T : Nat → Nat → Int64) (ne : Int32) (wd : Nat → Int32) (n : Nat) : Prop :=
  ∃ parts ks ls ss rdy R st0 BF AF, pf_sh X w T ne wd n parts (lk_f wd n) ks ls ss rdy R st0 BF AF ∧ n ≤ 60 ∧ p_st wd n parts ks ls ss ∧ pf_ok T parts ks ls ss rdy R st0 AF
theorem p_id {X : Lay} {w : Wd} {T : Nat → Nat → Int64} {ne : Int32} {wd : Nat → Int32} {n parts : Nat} {ft : Int32} {ks ls ss : Nat → Int32} {rdy : Int32} {R : Nat → Nat → Int64} {st0 : Int32} {BF AF : Nat → Int64} (h : pf_sh X w T ne wd n parts ft ks ls ss rdy R st0 BF AF) : p_w X w wd (nI n) (nI parts) ft ks ls ss = w := by
  obtain ⟨-, -, ⟨s4, s5, s6, s7, s8⟩, -⟩ := h
  funext g i
  by_cases hi : i = 0
  · subst hi
    by_cases h4 : g = 4
    · subst h4; exact s4.symm
    · by_cases h5 : g = 5
      · subst h5; exact s5.symm
      · by_cases h6 : g = 6
        · subst h6; exact s6.symm
        · by_cases h7 : g = 7
          · subst h7; exact s7.symm
          · by_cases h8 : g = 8
            · subst h8; exact s8.symm
            · simp only [p_w, h4, h5, h6, h7, h8, if_true, if_false]
  · simp only [p_w, hi, if_false]
theorem sh_path {X : Lay} {w : Wd} {T : Nat → Nat → Int64} {ne : Int32} {wd : Nat → Int32} {n parts : Nat} {ft : Int32} {ks ls ss : Nat → Int32} {rdy : Int32} {R : Nat → Nat → Int64} {st0 : Int32} {BF AF : Nat → Int64} (h : pf_sh X w T ne wd n parts ft ks ls ss rdy R st0 BF AF) (wd1 : Nat → Int32) (n1 t1 : Nat) (f1 : Int32) (k1 l1 s1 : Nat → Int32) : pf_sh X (p_w X w wd1 (nI n1) (nI t1) f1 k1 l1 s1) T ne wd1 n1 t1 f1 k1 l1 s1 rdy R st0 BF AF := by
  obtain ⟨s0, sg, -, ⟨s9, s10, s11⟩, s12, s13, s14, s15, s16⟩ := h
  have x : ∀ g, g < 4 ∨ 8 < g → p_w X w wd1 (nI n1) (nI t1) f1 k1 l1 s1 g = w g := fun g hg => p_row (by omega) (by omega) (by omega) (by omega) (by omega)
  refine ⟨by rw [x 0 (by decide)]; exact s0, g_rep_of sg (x 1 (by decide)) (x 2 (by decide)) (x 3 (by decide)), ⟨rfl, rfl, rfl, rfl, rfl⟩, ⟨by rw [x 9 (by decide)]; exact s9, by rw [x 10 (by decide)]; exact s10, fun j hj => by rw [x 11 (by decide)]; exact s11 j hj⟩, by rw [x 12 (by decide)]; exact s12, by rw [x 13 (by decide)]; exact s13, by rw [x 14 (by decide)]; exact s14, by rw [x 15 (by decide)]; exact s15, fun j hj => by rw [x 16 (by decide)]; exact s16 j hj⟩
theorem sh_graph {X : Lay} {w : Wd} {T : Nat → Nat → Int64} {ne : Int32} {wd : Nat → Int32} {n parts : Nat} {ft : Int32} {ks ls ss : Nat → Int32} {rdy : Int32} {R : Nat → Nat → Int64} {st0 : Int32} {BF AF : Nat → Int64} {w1 : Wd} {T1 : Nat → Nat → Int64} {n2 : Int32} (h : pf_sh X w T ne wd n parts ft ks ls ss rdy R st0 BF AF) (x : ∀ g, g ≠ 1 → g ≠ 3 → w1 g = w g) (hg : g_rep X w1 T1 n2) : pf_sh X w1 T1 n2 wd n parts ft ks ls ss rdy R st0 BF AF := by
  obtain ⟨s0, -, ⟨s4, s5, s6, s7, s8⟩, ⟨s9, s10, s11⟩, s12, s13, s14, s15, s16⟩ := h
  refine ⟨by rw [x 0 (by decide) (by decide)]; exact s0, hg, ⟨by rw [x 4 (by decide) (by decide)]; exact s4, by rw [x 5 (by decide) (by decide)]; exact s5, by rw [x 6 (by decide) (by decide)]; exact s6, by rw [x 7 (by decide) (by decide)]; exact s7, by rw [x 8 (by decide) (by decide)]; exact s8⟩, ⟨by rw [x 9 (by decide) (by decide)]; exact s9, by rw [x 10 (by decide) (by decide)]; exact s10, fun j hj => by rw [x 11 (by decide) (by decide)]; exact s11 j hj⟩, by rw [x 12 (by decide) (by decide)]; exact s12, by rw [x 13 (by decide) (by decide)]; exact s13, by rw [x 14 (by decide) (by decide)]; exact s14, by rw [x 15 (by decide) (by decide)]; exact s15, fun j hj => by rw [x 16 (by decide) (by decide)]; exact s16 j hj⟩
theorem sh_rel {X : Lay} {w : Wd} {T : Nat → Nat → Int64} {ne : Int32} {wd : Nat → Int32} {n parts : Nat} {ft : Int32} {ks ls ss : Nat → Int32} {rdy : Int32} {R : Nat → Nat → Int64} {st0 : Int32} {BF AF : Nat → Int64} {w1 : Wd} {rdy1 : Int32} {R1 : Nat → Nat → Int64} (h : pf_sh X w T ne wd n parts ft ks ls ss rdy R st0 BF AF) (x : ∀ g, g ≠ 9 → g ≠ 11 → w1 g = w g) (h9 : w1 9 0 = oB 3 [.ref (pw_a X 1 0), .ref (pw_a X 4 0), .ref (pw_a X 10 0), .int rdy1]) (h11 : ∀ j, j < 40 → w1 11 j = aL X 64 (R1 j)) : pf_sh X w1 T ne wd n parts ft ks ls ss rdy1 R1 st0 BF AF := by
  obtain ⟨s0, sg, ⟨s4, s5, s6, s7, s8⟩, ⟨s9, s10, s11⟩, s12, s13, s14, s15, s16⟩ := h
  refine ⟨by rw [x 0 (by decide) (by decide)]; exact s0, g_rep_of sg (x 1 (by decide) (by decide)) (x 2 (by decide) (by decide)) (x 3 (by decide) (by decide)), ⟨by rw [x 4 (by decide) (by decide)]; exact s4, by rw [x 5 (by decide) (by decide)]; exact s5, by rw [x 6 (by decide) (by decide)]; exact s6, by rw [x 7 (by decide) (by decide)]; exact s7, by rw [x 8 (by decide) (by decide)]; exact s8⟩, ⟨h9, by rw [x 10 (by decide) (by decide)]; exact s10, h11⟩, by rw [x 12 (by decide) (by decide)]; exact s12, by rw [x 13 (by decide) (by decide)]; exact s13, by rw [x 14 (by decide) (by decide)]; exact s14, by rw [x 15 (by decide) (by decide)]; exact s15, fun j hj => by rw [x 16 (by decide) (by decide)]; exact s16 j hj⟩
theorem sh_start {X : Lay} {w : Wd} {T : Nat → Nat → Int64} {ne : Int32} {wd : Nat → Int32} {n parts : Nat} {ft : Int32} {ks ls ss : Nat → Int32} {rdy : Int32} {R : Nat → Nat → Int64} {st0 : Int32} {BF AF : Nat → Int64} (st1 : Int32) (h : pf_sh X w T ne wd n parts ft ks ls ss rdy R st0 BF AF) : pf_sh X (pw_up w 12 0 (oB 0 [.ref (pw_a X 1 0), .ref (pw_a X 4 0), .ref (pw_a X 9 0), .ref (pw_a X 13 0), .ref (pw_a X 14 0), .ref (pw_a X 15 0), .int st1])) T ne wd n parts ft ks ls ss rdy R st1 BF AF := by
  obtain ⟨s0, sg, ⟨s4, s5, s6, s7, s8⟩, ⟨s9, s10, s11⟩, s12, s13, s14, s15, s16⟩ := h
  have x : ∀ g, g ≠ 12 → pw_up w 12 0 (oB 0 [.ref (pw_a X 1 0), .ref (pw_a X 4 0), .ref (pw_a X 9 0), .ref (pw_a X 13 0), .ref (pw_a X 14 0), .ref (pw_a X 15 0), .int st1]) g = w g := fun g hg => pw_up_row _ _ hg
  refine ⟨by rw [x 0 (by decide)]; exact s0, g_rep_of sg (x 1 (by decide)) (x 2 (by decide)) (x 3 (by decide)), ⟨by rw [x 4 (by decide)]; exact s4, by rw [x 5 (by decide)]; exact s5, by rw [x 6 (by decide)]; exact s6, by rw [x 7 (by decide)]; exact s7, by rw [x 8 (by decide)]; exact s8⟩, ⟨by rw [x 9 (by decide)]; exact s9, by rw [x 10 (by decide)]; exact s10, fun j hj => by rw [x 11 (by decide)]; exact s11 j hj⟩, pw_up_self _ _ _ _, by rw [x 13 (by decide)]; exact s13, by rw [x 14 (by decide)]; exact s14, by rw [x 15 (by decide)]; exact s15, fun j hj => by rw [x 16 (by decide)]; exact s16 j hj⟩
/-- nothing is kept -/
theorem ok_none (T : Nat → Nat → Int64) (parts : Nat) (ks ls ss : Nat → Int32) (R : Nat → Nat → Int64) (AF : Nat → Int64) : pf_ok T parts ks ls ss 0 R (-1) AF := ⟨fun h => absurd rfl h, fun h => absurd rfl h⟩
theorem js_f {wd : Nat → Int32} {n parts : Nat} {ks ls ss : Nat → Int32} (hn : n ≤ 60) (hl : lk_f wd n = 0) (hp : p_st wd n parts ks ls ss) : tb_f wd ks ls ss 12 0 0 n parts ∧ fl_f ks ss parts ∧ 0 < parts ∧ parts ≤ 40 := by
  obtain ⟨ok, b, hrd, htb⟩ := hp
  have hin := rd_in wd n 12 0 0 ok b parts hrd (Nat.zero_le _) (by omega)
  unfold lk_f at hl
  rw [hrd] at hl
  cases ok with
  | false =>
    have := fc_neg b (by omega)
    have h2 : (-100 - nI b : Int32) = 0 := hl
    rw [h2] at this
    exact absurd this (by decide)
  | true =>
    have hb : ¬ b < n := fun q => by
      have h2 : (-100 - nI b : Int32) = 0 := (if_pos q).symm.trans hl
      have := fc_neg b (by omega)
      rw [h2] at this
      exact absurd this (by decide)
    have hbn : b = n := by omega
    subst hbn
    have ht := htb rfl
    exact ⟨ht, fun p hp => tb_fl wd ks ls ss 12 0 0 b parts ht p (Nat.zero_le p) hp, tb_lt wd ks ls ss 12 0 0 b parts ht, hin.2.2.2.1⟩
/-- behind ofPath -/
theorem of_sh {X : Lay} {w : Wd} {T : Nat → Nat → Int64} {ne : Int32} {wd : Nat → Int32} {n parts : Nat} {ft : Int32} {ks ls ss : Nat → Int32} {rdy : Int32} {R : Nat → Nat → Int64} {st0 : Int32} {BF AF : Nat → Int64} {w1 : Wd} (hS : pf_sh X w T ne wd n parts ft ks ls ss rdy R st0 BF AF) (hO : pf_ok T parts ks ls ss rdy R st0 AF) (hp1 : (¬ rdy = 0 ∧ w1 = r_w X w R) ∨ (rdy = 0 ∧ ∃ R1, w1 = r_w X (pw_up w 9 0 (oB 3 [.ref (pw_a X 1 0), .ref (pw_a X 4 0), .ref (pw_a X 10 0), .int 1])) R1 ∧ (∀ j, parts ≤ j → R1 j = R j) ∧ ∀ p, p < parts → ∀ x, x < 64 → ∀ y, y < 64 → (bt_f (R1 p x) y = true ↔ rl_f T ks ls ss R1 p x y))) :
    ∃ rdy1 R1, ¬ rdy1 = 0 ∧ rv_f T ks ls ss R1 parts ∧ pf_sh X w1 T ne wd n parts ft ks ls ss rdy1 R1 st0 BF AF ∧ pf_ok T parts ks ls ss rdy1 R1 st0 AF ∧ ∀ g, 16 < g → w1 g = w g := by
  have s9 := hS.2.2.2.1.1
  have s11 := hS.2.2.2.1.2.2
  rcases hp1 with ⟨a, b⟩ | ⟨a, R1, b, -, c⟩
  · rw [b, r_id s11]
    exact ⟨rdy, R, a, hO.1 a, hS, hO, fun g _ => rfl⟩
  · have h0 : st0 = -1 := Classical.byContradiction fun q => (hO.2 q).1 a
    refine ⟨1, R1, by decide, c, sh_rel hS (fun g g1 g2 => by rw [b, r_row g2, pw_up_row _ _ g1]) (by rw [b, r_row (by decide), pw_up_self]) (fun j hj => by rw [b, r_get hj]), ⟨fun _ => c, fun q => absurd h0 q⟩, fun g hg => by rw [b, r_row (by omega), pw_up_row _ _ (by omega)]⟩
set_option maxHeartbeats 4000000 in
set_option maxRecDepth 100000 in
theorem k_PF_forget (l : Launch) {X : Lay} (hI : pw_I X) (hX : Dm X) (w : Wd) {T : Nat → Nat → Int64} {ne : Int32} {wd : Nat → Int32} {n parts : Nat} {ft : Int32} {ks ls ss : Nat → Int32} {rdy : Int32} {R : Nat → Nat → Int64} {st0 : Int32} {BF AF : Nat → Int64} (hS : pf_sh X w T ne wd n parts ft ks ls ss rdy R st0 BF AF) : CtV l y_PF_forget (pw_ws y_PF_forget c_PF_forget 1 none) { frames := 0, cells := 0, slots := 0, locals := 0 } X w [.ref (pw_a X 0 0)] (fun w1 => pf_sh X w1 T ne wd n parts ft ks ls ss 0 R (-1) BF AF ∧ ∀ g, 16 < g → w1 g = w g) := by
  obtain ⟨s0, sg1, ⟨s4, s5, s6, s7, s8⟩, ⟨s9, s10, s11⟩, s12, s13, s14, s15, s16⟩ := id hS
  refine pw_open (by decide) hI [some (.ref (pw_a X 0 0))] rfl (Nat.le_of_ble_eq_true rfl) ?_
  intro zp ze zs zm za zb zt zc hargs C zr zk hnm
  refine pw_aload_n C d_PF_forget_0 rfl ?_
  refine pw_get C d_PF_forget_1 (hX 0 0 rfl) s0 2 rfl rfl (by decide) in_PF W_129 rfl ?_
  refine pw_iconst C d_PF_forget_4 (v := 0) (by decide) ?_
  refine pw_putN C d_PF_forget_5 (hX 9 0 rfl) s9 3 (Nat.le_of_ble_eq_true rfl) rfl (by decide) in_RE t_RE tk_RE n_RE N_16 rfl rfl (tk_RE 3 (by decide)) rfl rfl ?_
  refine MW.world (w' := (pw_up w 9 0 (oB 3 [.ref (pw_a X 1 0), .ref (pw_a X 4 0), .ref (pw_a X 10 0), .int 0]))) rfl ?_
  refine pw_aload_n C d_PF_forget_8 rfl ?_
  refine pw_get C d_PF_forget_9 (hX 0 0 rfl) (by rw [pw_up_g _ _ (by decide)]; exact s0) 3 rfl rfl (by decide) in_PF W_130 rfl ?_
  refine pw_iconst C d_PF_forget_12 (v := -1) (by decide) ?_
  refine pw_putN C d_PF_forget_13 (hX 12 0 rfl) (by rw [pw_up_g _ _ (by decide)]; exact s12) 6 (Nat.le_of_ble_eq_true rfl) rfl (by decide) in_CN t_CN tk_CN n_CN N_18 rfl rfl (tk_CN 6 (by decide)) rfl rfl ?_
  refine MW.world (w' := pw_up (pw_up w 9 0 (oB 3 [.ref (pw_a X 1 0), .ref (pw_a X 4 0), .ref (pw_a X 10 0), .int 0])) 12 0 (oB 0 [.ref (pw_a X 1 0), .ref (pw_a X 4 0), .ref (pw_a X 9 0), .ref (pw_a X 13 0), .ref (pw_a X 14 0), .ref (pw_a X 15 0), .int (-1)])) rfl ?_
  refine pw_vret C zr zk d_PF_forget_16 ?_
  refine ⟨sh_start (-1) (sh_rel (rdy1 := 0) (R1 := R) hS (fun g g1 g2 => pw_up_row _ _ g1) (pw_up_self _ _ _ _) (fun j hj => by rw [pw_up_g _ _ (by decide)]; exact s11 j hj)), fun g hg => by rw [pw_up_row _ _ (by omega), pw_up_row _ _ (by omega)]⟩
set_option maxHeartbeats 4000000 in
set_option maxRecDepth 100000 in
theorem k_PF_edge (l : Launch) {X : Lay} (hI : pw_I X) (hX : Dm X) (w : Wd) {T : Nat → Nat → Int64} {ne : Int32} {wd : Nat → Int32} {n : Nat} (hst : pf_st X w T ne wd n) (a b c : Int32) : CtI l y_PF_edge (pw_ws y_PF_edge c_PF_edge 5 (some .int)) { frames := 3, cells := 0, slots := 0, locals := 65 } X w [.ref (pw_a X 0 0), .int a, .int b, .int c] (fun r w1 => (∀ g, 16 < g → w1 g = w g) ∧ ((¬ (is_n a 64 ∧ is_n b 8 ∧ is_n c 64) ∧ r = -1 ∧ pf_st X w1 T ne wd n) ∨ ∃ i k j : Nat, i < 64 ∧ k < 8 ∧ j < 64 ∧ a = nI i ∧ b = nI k ∧ c = nI j ∧ ((bt_f (T k i) j = true ∧ r = 0 ∧ pf_st X w1 T ne wd n) ∨ (bt_f (T k i) j = !true ∧ r = 1 ∧ ∃ T1, pf_st X w1 T1 (ne + 1) wd n ∧ ∀ k1 i1 j1, j1 < 64 → bt_f (T1 k1 i1) j1 = if k1 = k ∧ i1 = i ∧ j1 = j then true else bt_f (T k1 i1) j1)))) := by
  have hst0 := hst
  obtain ⟨parts, ks, ls, ss, rdy, R, st0, BF, AF, hS, hn, hp, hO⟩ := hst
  have hpw := p_id hS
  obtain ⟨s0, sg1, ⟨s4, s5, s6, s7, s8⟩, ⟨s9, s10, s11⟩, s12, s13, s14, s15, s16⟩ := id hS
  refine pw_open (by decide) hI [some (.ref (pw_a X 0 0)), some (.int a), some (.int b), some (.int c), none] rfl (Nat.le_of_ble_eq_true rfl) ?_
  intro zp ze zs zm za zb zt zc hargs C zr zk hnm
  refine pw_aload_n C d_PF_edge_0 rfl ?_
  refine pw_get C d_PF_edge_1 (hX 0 0 rfl) s0 0 rfl rfl (by decide) in_PF W_127 rfl ?_
  refine pw_iload_n C d_PF_edge_4 rfl ?_
  refine pw_iload_n C d_PF_edge_5 rfl ?_
  refine pw_iload_n C d_PF_edge_6 rfl ?_
  refine pw_callVNi C (k_GR_put l hI w sg1 a b c) (hX 1 0 rfl) sg1.2.2.2.1 rfl ⟨pw_cn C 3 W_147 W_2 N_19 ⟨rfl, rfl⟩ (by decide +kernel) ⟨(Nat.le_of_ble_eq_true rfl), (Nat.le_of_ble_eq_true rfl)⟩, pw_w C W_146, pw_w C V_0⟩ rfl rfl (Nat.le_of_ble_eq_true rfl) d_PF_edge_7 ⟨Nat.zero_le _, Nat.zero_le _⟩ (fun r w2 hp2 => ?_)
  rcases hp2 with ⟨hb, hr2, hw2⟩ | ⟨i, k, j, hi, hk, hj, ha2, hb2, hc2, ⟨hbt, hr2, hw2⟩ | ⟨hbt, hr2, hfr, T1, hT1, hT1s⟩⟩
  · subst hr2
    refine MW.world hw2 ?_
    refine pw_istore C d_PF_edge_10 (by decide) ?_
    refine pw_iload C d_PF_edge_12 rfl ?_
    refine pw_iconst C d_PF_edge_14 (v := 1) (by decide) ?_
    refine pw_icmp_ne C 22 d_PF_edge_15 (by decide) (fun h15 => ?_) (fun h15 => ?_)
    · refine pw_iload C d_PF_edge_22 rfl ?_
      refine pw_iret C zr zk d_PF_edge_24 ?_
      exact ⟨fun g _ => rfl, Or.inl ⟨hb, rfl, hst0⟩⟩
    · exact absurd h15 (by decide)
  · subst hr2
    refine MW.world hw2 ?_
    refine pw_istore C d_PF_edge_10 (by decide) ?_
    refine pw_iload C d_PF_edge_12 rfl ?_
    refine pw_iconst C d_PF_edge_14 (v := 1) (by decide) ?_
    refine pw_icmp_ne C 22 d_PF_edge_15 (by decide) (fun h15 => ?_) (fun h15 => ?_)
    · refine pw_iload C d_PF_edge_22 rfl ?_
      refine pw_iret C zr zk d_PF_edge_24 ?_
      exact ⟨fun g _ => rfl, Or.inr ⟨i, k, j, hi, hk, hj, ha2, hb2, hc2, Or.inl ⟨hbt, rfl, hst0⟩⟩⟩
    · exact absurd h15 (by decide)
  · subst hr2
    have hS2 := sh_graph hS hfr hT1
    refine pw_istore C d_PF_edge_10 (by decide) ?_
    refine pw_iload C d_PF_edge_12 rfl ?_
    refine pw_iconst C d_PF_edge_14 (v := 1) (by decide) ?_
    refine pw_icmp_ne C 22 d_PF_edge_15 (by decide) (fun h15 => ?_) (fun h15 => ?_)
    · exact absurd rfl h15
    refine pw_aload_n C d_PF_edge_18 rfl ?_
    refine pw_callVv C (k_PF_forget l hI hX w2 hS2) (hX 0 0 rfl) hS2.1 rfl ⟨pw_cb C 0 W_166 W_1 W_163 ⟨rfl, rfl⟩ (by decide +kernel) ⟨(Nat.le_of_ble_eq_true rfl), (Nat.le_of_ble_eq_true rfl)⟩, pw_w C W_165, pw_w C V_1⟩ rfl rfl (Nat.le_of_ble_eq_true rfl) d_PF_edge_19 ⟨Nat.zero_le _, Nat.zero_le _⟩ (fun w3 hp3 => ?_)
    refine pw_iload C d_PF_edge_22 rfl ?_
    refine pw_iret C zr zk d_PF_edge_24 ?_
    obtain ⟨g1, g2⟩ := hp3
    exact ⟨fun g hg => by rw [g2 g hg, hfr g (by omega) (by omega)], Or.inr ⟨i, k, j, hi, hk, hj, ha2, hb2, hc2, Or.inr ⟨hbt, rfl, T1, ⟨parts, ks, ls, ss, 0, R, -1, BF, AF, g1, hn, hp, ok_none _ _ _ _ _ _ _⟩, hT1s⟩⟩⟩
set_option maxHeartbeats 4000000 in
set_option maxRecDepth 100000 in
theorem k_PF_drop (l : Launch) {X : Lay} (hI : pw_I X) (hX : Dm X) (w : Wd) {T : Nat → Nat → Int64} {ne : Int32} {wd : Nat → Int32} {n : Nat} (hst : pf_st X w T ne wd n) (a b c : Int32) : CtI l y_PF_drop (pw_ws y_PF_drop c_PF_drop 5 (some .int)) { frames := 3, cells := 0, slots := 0, locals := 65 } X w [.ref (pw_a X 0 0), .int a, .int b, .int c] (fun r w1 => (∀ g, 16 < g → w1 g = w g) ∧ ((¬ (is_n a 64 ∧ is_n b 8 ∧ is_n c 64) ∧ r = -1 ∧ pf_st X w1 T ne wd n) ∨ ∃ i k j : Nat, i < 64 ∧ k < 8 ∧ j < 64 ∧ a = nI i ∧ b = nI k ∧ c = nI j ∧ ((bt_f (T k i) j = false ∧ r = 0 ∧ pf_st X w1 T ne wd n) ∨ (bt_f (T k i) j = !false ∧ r = 1 ∧ ∃ T1, pf_st X w1 T1 (ne + (-1)) wd n ∧ ∀ k1 i1 j1, j1 < 64 → bt_f (T1 k1 i1) j1 = if k1 = k ∧ i1 = i ∧ j1 = j then false else bt_f (T k1 i1) j1)))) := by
  have hst0 := hst
  obtain ⟨parts, ks, ls, ss, rdy, R, st0, BF, AF, hS, hn, hp, hO⟩ := hst
  have hpw := p_id hS
  obtain ⟨s0, sg1, ⟨s4, s5, s6, s7, s8⟩, ⟨s9, s10, s11⟩, s12, s13, s14, s15, s16⟩ := id hS
  refine pw_open (by decide) hI [some (.ref (pw_a X 0 0)), some (.int a), some (.int b), some (.int c), none] rfl (Nat.le_of_ble_eq_true rfl) ?_
  intro zp ze zs zm za zb zt zc hargs C zr zk hnm
  refine pw_aload_n C d_PF_drop_0 rfl ?_
  refine pw_get C d_PF_drop_1 (hX 0 0 rfl) s0 0 rfl rfl (by decide) in_PF W_127 rfl ?_
  refine pw_iload_n C d_PF_drop_4 rfl ?_
  refine pw_iload_n C d_PF_drop_5 rfl ?_
  refine pw_iload_n C d_PF_drop_6 rfl ?_
  refine pw_callVNi C (k_GR_remove l hI w sg1 a b c) (hX 1 0 rfl) sg1.2.2.2.1 rfl ⟨pw_cn C 3 W_174 W_2 N_24 ⟨rfl, rfl⟩ (by decide +kernel) ⟨(Nat.le_of_ble_eq_true rfl), (Nat.le_of_ble_eq_true rfl)⟩, pw_w C W_173, pw_w C V_2⟩ rfl rfl (Nat.le_of_ble_eq_true rfl) d_PF_drop_7 ⟨Nat.zero_le _, Nat.zero_le _⟩ (fun r w2 hp2 => ?_)
  rcases hp2 with ⟨hb, hr2, hw2⟩ | ⟨i, k, j, hi, hk, hj, ha2, hb2, hc2, ⟨hbt, hr2, hw2⟩ | ⟨hbt, hr2, hfr, T1, hT1, hT1s⟩⟩
  · subst hr2
    refine MW.world hw2 ?_
    refine pw_istore C d_PF_drop_10 (by decide) ?_
    refine pw_iload C d_PF_drop_12 rfl ?_
    refine pw_iconst C d_PF_drop_14 (v := 1) (by decide) ?_
    refine pw_icmp_ne C 22 d_PF_drop_15 (by decide) (fun h15 => ?_) (fun h15 => ?_)
    · refine pw_iload C d_PF_drop_22 rfl ?_
      refine pw_iret C zr zk d_PF_drop_24 ?_
      exact ⟨fun g _ => rfl, Or.inl ⟨hb, rfl, hst0⟩⟩
    · exact absurd h15 (by decide)
  · subst hr2
    refine MW.world hw2 ?_
    refine pw_istore C d_PF_drop_10 (by decide) ?_
    refine pw_iload C d_PF_drop_12 rfl ?_
    refine pw_iconst C d_PF_drop_14 (v := 1) (by decide) ?_
    refine pw_icmp_ne C 22 d_PF_drop_15 (by decide) (fun h15 => ?_) (fun h15 => ?_)
    · refine pw_iload C d_PF_drop_22 rfl ?_
      refine pw_iret C zr zk d_PF_drop_24 ?_
      exact ⟨fun g _ => rfl, Or.inr ⟨i, k, j, hi, hk, hj, ha2, hb2, hc2, Or.inl ⟨hbt, rfl, hst0⟩⟩⟩
    · exact absurd h15 (by decide)
  · subst hr2
    have hS2 := sh_graph hS hfr hT1
    refine pw_istore C d_PF_drop_10 (by decide) ?_
    refine pw_iload C d_PF_drop_12 rfl ?_
    refine pw_iconst C d_PF_drop_14 (v := 1) (by decide) ?_
    refine pw_icmp_ne C 22 d_PF_drop_15 (by decide) (fun h15 => ?_) (fun h15 => ?_)
    · exact absurd rfl h15
    refine pw_aload_n C d_PF_drop_18 rfl ?_
    refine pw_callVv C (k_PF_forget l hI hX w2 hS2) (hX 0 0 rfl) hS2.1 rfl ⟨pw_cb C 0 W_166 W_1 W_163 ⟨rfl, rfl⟩ (by decide +kernel) ⟨(Nat.le_of_ble_eq_true rfl), (Nat.le_of_ble_eq_true rfl)⟩, pw_w C W_165, pw_w C V_1⟩ rfl rfl (Nat.le_of_ble_eq_true rfl) d_PF_drop_19 ⟨Nat.zero_le _, Nat.zero_le _⟩ (fun w3 hp3 => ?_)
    refine pw_iload C d_PF_drop_22 rfl ?_
    refine pw_iret C zr zk d_PF_drop_24 ?_
    obtain ⟨g1, g2⟩ := hp3
    exact ⟨fun g hg => by rw [g2 g hg, hfr g (by omega) (by omega)], Or.inr ⟨i, k, j, hi, hk, hj, ha2, hb2, hc2, Or.inr ⟨hbt, rfl, T1, ⟨parts, ks, ls, ss, 0, R, -1, BF, AF, g1, hn, hp, ok_none _ _ _ _ _ _ _⟩, hT1s⟩⟩⟩
set_option maxHeartbeats 4000000 in
set_option maxRecDepth 100000 in
theorem k_PF_edges (l : Launch) {X : Lay} (hI : pw_I X) (hX : Dm X) (w : Wd) {T : Nat → Nat → Int64} {ne : Int32} {wd : Nat → Int32} {n : Nat} (hst : pf_st X w T ne wd n) : CtI l y_PF_edges (pw_ws y_PF_edges c_PF_edges 1 (some .int)) { frames := 0, cells := 0, slots := 0, locals := 0 } X w [.ref (pw_a X 0 0)] (fun r w1 => (∀ g, 16 < g → w1 g = w g) ∧ r = ne ∧ pf_st X w1 T ne wd n) := by
  have hst0 := hst
  obtain ⟨parts, ks, ls, ss, rdy, R, st0, BF, AF, hS, hn, hp, hO⟩ := hst
  have hpw := p_id hS
  obtain ⟨s0, sg1, ⟨s4, s5, s6, s7, s8⟩, ⟨s9, s10, s11⟩, s12, s13, s14, s15, s16⟩ := id hS
  refine pw_open (by decide) hI [some (.ref (pw_a X 0 0))] rfl (Nat.le_of_ble_eq_true rfl) ?_
  intro zp ze zs zm za zb zt zc hargs C zr zk hnm
  refine pw_aload_n C d_PF_edges_0 rfl ?_
  refine pw_get C d_PF_edges_1 (hX 0 0 rfl) s0 0 rfl rfl (by decide) in_PF W_127 rfl ?_
  refine pw_getN C d_PF_edges_4 (hX 1 0 rfl) sg1.2.2.2.1 1 rfl rfl (by decide) in_GR N_3 rfl ?_
  refine pw_iret C zr zk d_PF_edges_7 ?_
  exact ⟨fun g _ => rfl, rfl, hst0⟩
set_option maxHeartbeats 4000000 in
set_option maxRecDepth 100000 in
theorem k_PF_look (l : Launch) {X : Lay} (hI : pw_I X) (hX : Dm X) (w : Wd) {T : Nat → Nat → Int64} {ne : Int32} {wd : Nat → Int32} {n : Nat} (hst : pf_st X w T ne wd n) : CtI l y_PF_look (pw_ws y_PF_look c_PF_look 1 (some .int)) { frames := 0, cells := 0, slots := 0, locals := 0 } X w [.ref (pw_a X 0 0)] (fun r w1 => (∀ g, 16 < g → w1 g = w g) ∧ r = lk_f wd n ∧ pf_st X w1 T ne wd n) := by
  have hst0 := hst
  obtain ⟨parts, ks, ls, ss, rdy, R, st0, BF, AF, hS, hn, hp, hO⟩ := hst
  have hpw := p_id hS
  obtain ⟨s0, sg1, ⟨s4, s5, s6, s7, s8⟩, ⟨s9, s10, s11⟩, s12, s13, s14, s15, s16⟩ := id hS
  refine pw_open (by decide) hI [some (.ref (pw_a X 0 0))] rfl (Nat.le_of_ble_eq_true rfl) ?_
  intro zp ze zs zm za zb zt zc hargs C zr zk hnm
  refine pw_aload_n C d_PF_look_0 rfl ?_
  refine pw_get C d_PF_look_1 (hX 0 0 rfl) s0 1 rfl rfl (by decide) in_PF W_128 rfl ?_
  refine pw_getN C d_PF_look_4 (hX 4 0 rfl) s4 6 rfl rfl (by decide) in_PA N_13 rfl ?_
  refine pw_iret C zr zk d_PF_look_7 ?_
  exact ⟨fun g _ => rfl, rfl, hst0⟩
set_option maxHeartbeats 4000000 in
set_option maxRecDepth 100000 in
theorem k_PF_word (l : Launch) {X : Lay} (hI : pw_I X) (hX : Dm X) (w : Wd) {T : Nat → Nat → Int64} {ne : Int32} {wd : Nat → Int32} {n : Nat} (hst : pf_st X w T ne wd n) (v : Int32) : CtI l y_PF_word (pw_ws y_PF_word c_PF_word 3 (some .int)) { frames := 17, cells := 0, slots := 0, locals := 414 } X w [.ref (pw_a X 0 0), .int v] (fun r w1 => (∀ g, 16 < g → w1 g = w g) ∧ ((n = 60 ∧ r = -3 ∧ pf_st X w1 T ne wd n) ∨ (n < 60 ∧ r = nI (n + 1) ∧ pf_st X w1 T ne (upd wd n v) (n + 1)))) := by
  have hst0 := hst
  obtain ⟨parts, ks, ls, ss, rdy, R, st0, BF, AF, hS, hn, hp, hO⟩ := hst
  have hpw := p_id hS
  obtain ⟨s0, sg1, ⟨s4, s5, s6, s7, s8⟩, ⟨s9, s10, s11⟩, s12, s13, s14, s15, s16⟩ := id hS
  refine pw_open (by decide) hI [some (.ref (pw_a X 0 0)), some (.int v), none] rfl (Nat.le_of_ble_eq_true rfl) ?_
  intro zp ze zs zm za zb zt zc hargs C zr zk hnm
  refine pw_aload_n C d_PF_word_0 rfl ?_
  refine pw_get C d_PF_word_1 (hX 0 0 rfl) s0 1 rfl rfl (by decide) in_PF W_128 rfl ?_
  refine pw_iload_n C d_PF_word_4 rfl ?_
  refine MW.world hpw.symm ?_
  refine pw_callVNi C (k_PA_append l hI hX w hn v) (hX 4 0 rfl) rfl rfl ⟨pw_cn C 1 W_187 W_3 N_25 ⟨rfl, rfl⟩ (by decide +kernel) ⟨(Nat.le_of_ble_eq_true rfl), (Nat.le_of_ble_eq_true rfl)⟩, pw_w C W_186, pw_w C V_3⟩ rfl rfl (Nat.le_of_ble_eq_true rfl) d_PF_word_5 ⟨Nat.zero_le _, Nat.zero_le _⟩ (fun r w2 hp2 => ?_)
  rcases hp2 with ⟨hb, hr2, hw2⟩ | ⟨hb, hr2, t1, ks1, ls1, ss1, hw2, hp1⟩
  · subst hr2
    refine MW.world (hw2.trans hpw) ?_
    refine pw_istore_n C d_PF_word_8 (by decide) ?_
    refine pw_aload_n C d_PF_word_9 rfl ?_
    refine pw_callVv C (k_PF_forget l hI hX w hS) (hX 0 0 rfl) s0 rfl ⟨pw_cb C 0 W_166 W_1 W_163 ⟨rfl, rfl⟩ (by decide +kernel) ⟨(Nat.le_of_ble_eq_true rfl), (Nat.le_of_ble_eq_true rfl)⟩, pw_w C W_165, pw_w C V_1⟩ rfl rfl (Nat.le_of_ble_eq_true rfl) d_PF_word_10 ⟨Nat.zero_le _, Nat.zero_le _⟩ (fun w3 hp3 => ?_)
    refine pw_iload_n C d_PF_word_13 rfl ?_
    refine pw_iret C zr zk d_PF_word_14 ?_
    obtain ⟨g1, g2⟩ := hp3
    exact ⟨g2, Or.inl ⟨hb, rfl, parts, ks, ls, ss, 0, R, -1, BF, AF, g1, hn, hp, ok_none _ _ _ _ _ _ _⟩⟩
  · subst hr2
    have hS2 := sh_path hS (upd wd n v) (n + 1) t1 (lk_f (upd wd n v) (n + 1)) ks1 ls1 ss1
    refine MW.world hw2 ?_
    refine pw_istore_n C d_PF_word_8 (by decide) ?_
    refine pw_aload_n C d_PF_word_9 rfl ?_
    refine pw_callVv C (k_PF_forget l hI hX _ hS2) (hX 0 0 rfl) hS2.1 rfl ⟨pw_cb C 0 W_166 W_1 W_163 ⟨rfl, rfl⟩ (by decide +kernel) ⟨(Nat.le_of_ble_eq_true rfl), (Nat.le_of_ble_eq_true rfl)⟩, pw_w C W_165, pw_w C V_1⟩ rfl rfl (Nat.le_of_ble_eq_true rfl) d_PF_word_10 ⟨Nat.zero_le _, Nat.zero_le _⟩ (fun w3 hp3 => ?_)
    refine pw_iload_n C d_PF_word_13 rfl ?_
    refine pw_iret C zr zk d_PF_word_14 ?_
    obtain ⟨g1, g2⟩ := hp3
    exact ⟨fun g hg => by rw [g2 g hg]; exact p_row (by omega) (by omega) (by omega) (by omega) (by omega), Or.inr ⟨hb, rfl, t1, ks1, ls1, ss1, 0, R, -1, BF, AF, g1, by omega, hp1, ok_none _ _ _ _ _ _ _⟩⟩
set_option maxHeartbeats 4000000 in
set_option maxRecDepth 100000 in
theorem k_PF_clear (l : Launch) {X : Lay} (hI : pw_I X) (hX : Dm X) (w : Wd) {T : Nat → Nat → Int64} {ne : Int32} {wd : Nat → Int32} {n : Nat} (hst : pf_st X w T ne wd n) : CtI l y_PF_clear (pw_ws y_PF_clear c_PF_clear 2 (some .int)) { frames := 17, cells := 0, slots := 0, locals := 414 } X w [.ref (pw_a X 0 0)] (fun r w1 => (∀ g, 16 < g → w1 g = w g) ∧ r = nI n ∧ pf_st X w1 T ne wd 0) := by
  have hst0 := hst
  obtain ⟨parts, ks, ls, ss, rdy, R, st0, BF, AF, hS, hn, hp, hO⟩ := hst
  have hpw := p_id hS
  obtain ⟨s0, sg1, ⟨s4, s5, s6, s7, s8⟩, ⟨s9, s10, s11⟩, s12, s13, s14, s15, s16⟩ := id hS
  refine pw_open (by decide) hI [some (.ref (pw_a X 0 0)), none] rfl (Nat.le_of_ble_eq_true rfl) ?_
  intro zp ze zs zm za zb zt zc hargs C zr zk hnm
  refine pw_aload_n C d_PF_clear_0 rfl ?_
  refine pw_get C d_PF_clear_1 (hX 0 0 rfl) s0 1 rfl rfl (by decide) in_PF W_128 rfl ?_
  refine MW.world hpw.symm ?_
  refine pw_callVNi C (k_PA_empty l hI hX w) (hX 4 0 rfl) rfl rfl ⟨pw_cn C 0 W_214 W_3 N_26 ⟨rfl, rfl⟩ (by decide +kernel) ⟨(Nat.le_of_ble_eq_true rfl), (Nat.le_of_ble_eq_true rfl)⟩, pw_w C W_213, pw_w C V_8⟩ rfl rfl (Nat.le_of_ble_eq_true rfl) d_PF_clear_4 ⟨Nat.zero_le _, Nat.zero_le _⟩ (fun r w2 hp2 => ?_)
  obtain ⟨hr2, t1, ks1, ls1, ss1, hw2, hp1⟩ := hp2
  subst hr2
  have hS2 := sh_path hS wd 0 t1 (lk_f wd 0) ks1 ls1 ss1
  refine MW.world hw2 ?_
  refine pw_istore_n C d_PF_clear_7 (by decide) ?_
  refine pw_aload_n C d_PF_clear_8 rfl ?_
  refine pw_callVv C (k_PF_forget l hI hX _ hS2) (hX 0 0 rfl) hS2.1 rfl ⟨pw_cb C 0 W_166 W_1 W_163 ⟨rfl, rfl⟩ (by decide +kernel) ⟨(Nat.le_of_ble_eq_true rfl), (Nat.le_of_ble_eq_true rfl)⟩, pw_w C W_165, pw_w C V_1⟩ rfl rfl (Nat.le_of_ble_eq_true rfl) d_PF_clear_9 ⟨Nat.zero_le _, Nat.zero_le _⟩ (fun w3 hp3 => ?_)
  refine pw_iload_n C d_PF_clear_12 rfl ?_
  refine pw_iret C zr zk d_PF_clear_13 ?_
  obtain ⟨g1, g2⟩ := hp3
  exact ⟨fun g hg => by rw [g2 g hg]; exact p_row (by omega) (by omega) (by omega) (by omega) (by omega), rfl, t1, ks1, ls1, ss1, 0, R, -1, BF, AF, g1, by omega, hp1, ok_none _ _ _ _ _ _ _⟩
