/-! THE CLASS'S STATE; Counts.from -/
/-- the cells of the class, what they hold -/
def pf_sh (X : Lay) (w : Wd) (T : Nat → Nat → Int64) (ne : Int32) (wd : Nat → Int32) (n parts : Nat) (ft : Int32) (ks ls ss : Nat → Int32) (rdy : Int32) (R : Nat → Nat → Int64) (st0 : Int32) (BF AF : Nat → Int64) : Prop :=
  w 0 0 = oB 4 [.ref (pw_a X 1 0), .ref (pw_a X 4 0), .ref (pw_a X 9 0), .ref (pw_a X 12 0)] ∧ g_rep X w T ne ∧ (w 4 0 = oB 2 [.ref (pw_a X 5 0), .ref (pw_a X 6 0), .ref (pw_a X 7 0), .ref (pw_a X 8 0), .int (nI n), .int (nI parts), .int ft] ∧ w 5 0 = aI X 60 wd ∧ w 6 0 = aI X 40 ks ∧ w 7 0 = aI X 40 ls ∧ w 8 0 = aI X 40 ss) ∧ (w 9 0 = oB 3 [.ref (pw_a X 1 0), .ref (pw_a X 4 0), .ref (pw_a X 10 0), .int rdy] ∧ (∃ f, w 10 0 = aQ X 40 f ∧ ∀ j, j < 40 → f j = some (pw_a X 11 j)) ∧ ∀ j, j < 40 → w 11 j = aL X 64 (R j)) ∧ w 12 0 = oB 0 [.ref (pw_a X 1 0), .ref (pw_a X 4 0), .ref (pw_a X 9 0), .ref (pw_a X 13 0), .ref (pw_a X 14 0), .ref (pw_a X 15 0), .int st0] ∧ w 13 0 = aL X 64 BF ∧ w 14 0 = aL X 64 AF ∧ (∃ f, w 15 0 = aQ X 12 f ∧ ∀ j, j < 12 → f j = some (pw_a X 16 j)) ∧ ∀ j, j < 12 → ∃ f, w 16 j = aL X 64 f
/-- the relations' rows are right -/
def rv_f (T : Nat → Nat → Int64) (ks ls ss : Nat → Int32) (R : Nat → Nat → Int64) (parts : Nat) : Prop := ∀ p, p < parts → ∀ x, x < 64 → ∀ y, y < 64 → (bt_f (R p x) y = true ↔ rl_f T ks ls ss R p x y)
/-- what is kept is right -/
def pf_ok (T : Nat → Nat → Int64) (parts : Nat) (ks ls ss : Nat → Int32) (rdy : Int32) (R : Nat → Nat → Int64) (st0 : Int32) (AF : Nat → Int64) : Prop :=
  (¬ rdy = 0 → rv_f T ks ls ss R parts) ∧ (¬ st0 = -1 → ¬ rdy = 0 ∧ ∃ i, i < 64 ∧ st0 = nI i ∧ tm_f AF (fun y => cp_f (ct_f T ks ls ss R 12 0 i y)))
theorem nI_m1 {i : Nat} (h : i < 64) : ¬ nI i = -1 := fun q => by
  have := nI_pos (n := i) (by omega)
  rw [q] at this
  exact this (by decide)
theorem v_of_sh {X : Lay} {w : Wd} {T : Nat → Nat → Int64} {ne : Int32} {wd : Nat → Int32} {n parts : Nat} {ft : Int32} {ks ls ss : Nat → Int32} {rdy : Int32} {R : Nat → Nat → Int64} {st0 : Int32} {BF AF : Nat → Int64} (h : pf_sh X w T ne wd n parts ft ks ls ss rdy R st0 BF AF) : v_rep X w T ks ls ss parts := by
  obtain ⟨-, a, ⟨b, -, c, d, e⟩, ⟨f, g, -⟩, -⟩ := h
  exact ⟨⟨ne, a⟩, ⟨nI n, ft, b⟩, c, d, e, ⟨rdy, f⟩, g⟩
set_option maxHeartbeats 4000000 in
set_option maxRecDepth 100000 in
theorem k_CN_from (l : Launch) {X : Lay} (hI : pw_I X) (hX : Dm X) (w : Wd) {T : Nat → Nat → Int64} {ne : Int32} {wd : Nat → Int32} {n parts : Nat} {ft : Int32} {ks ls ss : Nat → Int32} {rdy : Int32} {R : Nat → Nat → Int64} {st0 : Int32} {BF AF : Nat → Int64} (hS : pf_sh X w T ne wd n parts ft ks ls ss rdy R st0 BF AF) (hO : pf_ok T parts ks ls ss rdy R st0 AF) (h40 : parts ≤ 40) (h0 : 0 < parts) (hfl : fl_f ks ss parts) {i : Nat} (hi : i < 64) : CtR l y_CN_from (pw_ws y_CN_from c_CN_from 2 (some (.array .long))) { frames := 30, cells := 0, slots := 0, locals := 781 } X w [.ref (pw_a X 12 0), .int (nI i)] 14 0 (fun w1 => ∃ rdy1 R1 BF1 AF1, ¬ rdy1 = 0 ∧ pf_sh X w1 T ne wd n parts ft ks ls ss rdy1 R1 (nI i) BF1 AF1 ∧ pf_ok T parts ks ls ss rdy1 R1 (nI i) AF1 ∧ tm_f AF1 (fun y => cp_f (ct_f T ks ls ss R1 12 0 i y)) ∧ ∀ g, 16 < g → w1 g = w g) := by
  have hV := v_of_sh hS
  obtain ⟨s0, sg1, ⟨s4, s5, s6, s7, s8⟩, ⟨s9, s10, s11⟩, s12, s13, s14, s15, s16⟩ := id hS
  have d11 : ∀ j, j < 40 → pw_d X 11 j := fun j hj => hX 11 j (by simp [dm_k, hj])
  refine pw_open (by decide) hI [some (.ref (pw_a X 12 0)), some (.int (nI i))] rfl (Nat.le_of_ble_eq_true rfl) ?_
  intro zp ze zs zm za zb zt zc hargs C zr zk hnm
  refine pw_aload_n C d_CN_from_0 rfl ?_
  refine pw_get C d_CN_from_1 (hX 12 0 rfl) s12 6 rfl rfl (by decide) in_CN W_110 rfl ?_
  refine pw_iload_n C d_CN_from_4 rfl ?_
  refine pw_icmp_eq C 66 d_CN_from_5 (by decide) (fun h5 => ?_) (fun h5 => ?_)
  · refine pw_aload_n C d_CN_from_66 rfl ?_
    refine pw_get C d_CN_from_67 (hX 12 0 rfl) s12 4 rfl rfl (by decide) in_CN W_108 rfl ?_
    refine pw_aret C zr zk d_CN_from_70 ?_
    obtain ⟨g1, i2, g2, g3, g4⟩ := hO.2 (by rw [h5]; exact nI_m1 hi)
    have : i2 = i := (nI_eq (by omega) (by omega)).mp (g3.symm.trans h5)
    subst this
    subst h5
    exact ⟨rdy, R, BF, AF, g1, hS, hO, g4, fun g _ => rfl⟩
  · refine pw_iload_n C d_CN_from_8 rfl ?_
    refine pw_callSNi C (k_PF_isPoint l hI _ (nI i)) ⟨pw_cn C 1 W_153 W_1 N_29 ⟨rfl, rfl⟩ (by decide +kernel) ⟨(Nat.le_of_ble_eq_true rfl), (Nat.le_of_ble_eq_true rfl)⟩, pw_w C W_152, trivial⟩ rfl rfl (Nat.le_of_ble_eq_true rfl) d_CN_from_9 ⟨Nat.zero_le _, Nat.zero_le _⟩ (fun r w9 hp => ?_)
    obtain ⟨e9, hp⟩ := hp
    refine MW.world e9 ?_
    refine pw_if_eq C 66 d_CN_from_12 (by decide) (fun h12 => ?_) (fun h12 => ?_)
    · exact absurd ⟨i, hi, rfl⟩ (yn_f hp h12)
    refine pw_aload_n C d_CN_from_15 rfl ?_
    refine pw_get C d_CN_from_16 (hX 12 0 rfl) s12 2 rfl rfl (by decide) in_CN W_106 rfl ?_
    refine MW.world (r_id s11).symm ?_
    refine pw_callVNr C (k_RE_ofPath l hI hX w (R := R) hV h40 (fun _ => hfl) s9) (hX 9 0 rfl) (by rw [r_row (by decide)]; exact s9) rfl ⟨pw_cn C 0 W_238 W_4 N_30 ⟨rfl, rfl⟩ (by decide +kernel) ⟨(Nat.le_of_ble_eq_true rfl), (Nat.le_of_ble_eq_true rfl)⟩, pw_w C W_237, pw_w C V_11⟩ rfl rfl (Nat.le_of_ble_eq_true rfl) d_CN_from_19 ⟨Nat.zero_le _, Nat.zero_le _⟩ (fun w1 hp1 => ?_)
    obtain ⟨rdy1, R1, hr1, hw1e, hrv⟩ : ∃ rdy1 R1, ¬ rdy1 = 0 ∧ w1 = r_w X (pw_up w 9 0 (oB 3 [.ref (pw_a X 1 0), .ref (pw_a X 4 0), .ref (pw_a X 10 0), .int rdy1])) R1 ∧ rv_f T ks ls ss R1 parts := by
      rcases hp1 with ⟨a, b⟩ | ⟨a, R1, b, -, c⟩
      · exact ⟨rdy, R, a, by rw [b, pw_up_id w s9], hO.1 a⟩
      · exact ⟨1, R1, by decide, b, c⟩
    have t9 : w1 9 0 = oB 3 [.ref (pw_a X 1 0), .ref (pw_a X 4 0), .ref (pw_a X 10 0), .int rdy1] := by rw [hw1e, r_row (by decide), pw_up_self]
    have t11 : ∀ j, j < 40 → w1 11 j = aL X 64 (R1 j) := fun j hj => by rw [hw1e, r_get hj]
    have tt : ∀ g, g ≠ 9 → g ≠ 11 → w1 g = w g := fun g g1 g2 => by rw [hw1e, r_row g2, pw_up_row _ _ g1]
    clear hp1 hw1e
    refine pw_pop C d_CN_from_22 rfl ?_
    refine pw_aload_n C d_CN_from_23 rfl ?_
    refine pw_get C d_CN_from_24 (hX 12 0 rfl) (by rw [tt 12 (by decide) (by decide)]; exact s12) 3 rfl rfl (by decide) in_CN W_107 rfl ?_
    refine pw_lconst C d_CN_from_27 (v := 0) (by decide) ?_
    refine pw_callSv C (k_AR_fill l hI _ 0 (n := 64) (by decide) (hX 13 0 rfl) (by rw [tt 13 (by decide) (by decide)]; exact s13)) ⟨pw_cb C 2 W_245 W_7 W_277 ⟨rfl, rfl⟩ (by decide +kernel) ⟨(Nat.le_of_ble_eq_true rfl), (Nat.le_of_ble_eq_true rfl)⟩, pw_w C W_244⟩ rfl rfl (Nat.le_of_ble_eq_true rfl) d_CN_from_28 ⟨Nat.zero_le _, Nat.zero_le _⟩ (fun w9 hp2 => ?_)
    obtain ⟨f0, e9, hf0⟩ := hp2
    refine MW.world e9 ?_
    refine pw_aload_n C d_CN_from_31 rfl ?_
    refine pw_get C d_CN_from_32 (hX 12 0 rfl) (by rw [pw_up_g _ _ (by decide), tt 12 (by decide) (by decide)]; exact s12) 4 rfl rfl (by decide) in_CN W_108 rfl ?_
    refine pw_lconst C d_CN_from_35 (v := 0) (by decide) ?_
    refine pw_callSv C (k_AR_fill l hI _ 0 (n := 64) (by decide) (hX 14 0 rfl) (by rw [pw_up_g _ _ (by decide), tt 14 (by decide) (by decide)]; exact s14)) ⟨pw_cb C 2 W_245 W_7 W_277 ⟨rfl, rfl⟩ (by decide +kernel) ⟨(Nat.le_of_ble_eq_true rfl), (Nat.le_of_ble_eq_true rfl)⟩, pw_w C W_244⟩ rfl rfl (Nat.le_of_ble_eq_true rfl) d_CN_from_36 ⟨Nat.zero_le _, Nat.zero_le _⟩ (fun w9 hp3 => ?_)
    obtain ⟨f2, e9, hf2⟩ := hp3
    refine MW.world e9 ?_
    refine pw_aload_n C d_CN_from_39 rfl ?_
    refine pw_get C d_CN_from_40 (hX 12 0 rfl) (by rw [pw_up_g _ _ (by decide), pw_up_g _ _ (by decide), tt 12 (by decide) (by decide)]; exact s12) 3 rfl rfl (by decide) in_CN W_107 rfl ?_
    refine pw_iload_n C d_CN_from_43 rfl ?_
    refine pw_lconst C d_CN_from_44 (v := 1) (by decide) ?_
    refine pw_lastK C d_CN_from_45 (hX 13 0 rfl) (by rw [pw_up_g _ _ (by decide)]; exact pw_up_self _ _ _ _) hi ?_
    have u0 : ∀ g, g ≠ 9 → g ≠ 11 → g ≠ 13 → g ≠ 14 → pw_up (pw_up (pw_up w1 13 0 (aL X 64 f0)) 14 0 (aL X 64 f2)) 13 0 (aL X 64 (vp_updL f0 i 1)) g = w g := fun g g1 g2 g3 g4 => by rw [pw_up_row _ _ g3, pw_up_row _ _ g4, pw_up_row _ _ g3, tt g g1 g2]
    have u9 : pw_up (pw_up (pw_up w1 13 0 (aL X 64 f0)) 14 0 (aL X 64 f2)) 13 0 (aL X 64 (vp_updL f0 i 1)) 9 = w1 9 := by rw [pw_up_row _ _ (by decide), pw_up_row _ _ (by decide), pw_up_row _ _ (by decide)]
    have u11 : pw_up (pw_up (pw_up w1 13 0 (aL X 64 f0)) 14 0 (aL X 64 f2)) 13 0 (aL X 64 (vp_updL f0 i 1)) 11 = w1 11 := by rw [pw_up_row _ _ (by decide), pw_up_row _ _ (by decide), pw_up_row _ _ (by decide)]
    have u13 : pw_up (pw_up (pw_up w1 13 0 (aL X 64 f0)) 14 0 (aL X 64 f2)) 13 0 (aL X 64 (vp_updL f0 i 1)) 13 0 = aL X 64 (vp_updL f0 i 1) := pw_up_self _ _ _ _
    have u14 : pw_up (pw_up (pw_up w1 13 0 (aL X 64 f0)) 14 0 (aL X 64 f2)) 13 0 (aL X 64 (vp_updL f0 i 1)) 14 0 = aL X 64 f2 := by rw [pw_up_g _ _ (by decide), pw_up_self]
    generalize pw_up (pw_up (pw_up w1 13 0 (aL X 64 f0)) 14 0 (aL X 64 f2)) 13 0 (aL X 64 (vp_updL f0 i 1)) = w4 at u0 u9 u11 u13 u14 ⊢
    have hC : c_st X w4 T ks ls ss parts R1 st0 := by
      refine ⟨⟨⟨ne, g_rep_of sg1 (u0 1 (by decide) (by decide) (by decide) (by decide)) (u0 2 (by decide) (by decide) (by decide) (by decide)) (u0 3 (by decide) (by decide) (by decide) (by decide))⟩, ⟨nI n, ft, ?_⟩, ?_, ?_, ?_, ⟨rdy1, ?_⟩, ?_⟩, ?_, fun j hj => ?_, ?_, fun j hj => ?_⟩
      · rw [u0 4 (by decide) (by decide) (by decide) (by decide)]; exact s4
      · rw [u0 6 (by decide) (by decide) (by decide) (by decide)]; exact s6
      · rw [u0 7 (by decide) (by decide) (by decide) (by decide)]; exact s7
      · rw [u0 8 (by decide) (by decide) (by decide) (by decide)]; exact s8
      · rw [u9]; exact t9
      · rw [u0 10 (by decide) (by decide) (by decide) (by decide)]; exact s10
      · rw [u0 12 (by decide) (by decide) (by decide) (by decide)]; exact s12
      · rw [u11]; exact t11 j hj
      · rw [u0 15 (by decide) (by decide) (by decide) (by decide)]; exact s15
      · rw [u0 16 (by decide) (by decide) (by decide) (by decide)]; exact s16 j hj
    have hin : tm_f (vp_updL f0 i 1) (fun j => if j = i then 1 else 0) := fun j hj => by
      by_cases q : j = i
      · subst q; rw [pk_uLs]; exact ⟨by simp; rfl, by simp [C15]⟩
      · rw [pk_uLn q, hf0 j hj]; exact ⟨by simp [q]; rfl, by simp [q]⟩
    have hout : tm_f f2 (fun _ => 0) := fun j hj => ⟨hf2 j hj, Nat.zero_le _⟩
    refine pw_aload_n C d_CN_from_46 rfl ?_
    refine pw_iconst C d_CN_from_47 (v := 0) (by decide) ?_
    refine pw_iconst C d_CN_from_48 (v := 0) (by decide) ?_
    refine pw_iconst C d_CN_from_49 (v := 0) (by decide) ?_
    refine pw_aload_n C d_CN_from_50 rfl ?_
    refine pw_get C d_CN_from_51 (hX 12 0 rfl) hC.2.1 3 rfl rfl (by decide) in_CN W_107 rfl ?_
    refine pw_aload_n C d_CN_from_54 rfl ?_
    refine pw_get C d_CN_from_55 (hX 12 0 rfl) hC.2.1 4 rfl rfl (by decide) in_CN W_108 rfl ?_
    refine pw_callVv C (k_CN_carry l hI hX h40 hfl 12 (Nat.le_refl 12) w4 0 false 13 0 14 0 _ _ _ _ hC h0 (hX 13 0 rfl) u13 hin (hX 14 0 rfl) u14 hout ⟨by decide, by decide, fun z => absurd z (by decide)⟩ ⟨by decide, by decide, fun z => absurd z (by decide)⟩ (fun z => absurd z.1 (by decide))) (hX 12 0 rfl) hC.2.1 rfl ⟨pw_cb C 5 W_281 W_5 W_278 ⟨rfl, rfl⟩ (by decide +kernel) ⟨(Nat.le_of_ble_eq_true rfl), (Nat.le_of_ble_eq_true rfl)⟩, pw_w C W_280, pw_w C V_14⟩ rfl rfl (Nat.le_of_ble_eq_true rfl) d_CN_from_58 ⟨Nat.zero_le _, Nat.zero_le _⟩ (fun w5 hp5 => ?_)
    obtain ⟨a1, a2, f5, a3, a4⟩ := hp5
    have v0 : ∀ g, g ≠ 14 → g ≠ 16 → w5 g = w4 g := fun g g1 g2 => funext fun j => a1 g j (fun z => g1 z.1) (fun z => g2 z.1)
    refine pw_aload_n C d_CN_from_61 rfl ?_
    refine pw_iload_n C d_CN_from_62 rfl ?_
    refine pw_put C d_CN_from_63 (hX 12 0 rfl) (by rw [v0 12 (by decide) (by decide)]; exact hC.2.1) 6 (Nat.le_of_ble_eq_true rfl) rfl (by decide) in_CN t_CN tk_CN n_CN W_110 rfl rfl (tk_CN 6 (by decide)) rfl rfl ?_
    refine MW.world (w' := pw_up w5 12 0 (oB 0 [.ref (pw_a X 1 0), .ref (pw_a X 4 0), .ref (pw_a X 9 0), .ref (pw_a X 13 0), .ref (pw_a X 14 0), .ref (pw_a X 15 0), .int (nI i)])) rfl ?_
    refine pw_aload_n C d_CN_from_66 rfl ?_
    refine pw_get C d_CN_from_67 (hX 12 0 rfl) (pw_up_self _ 12 0 _) 4 rfl rfl (by decide) in_CN W_108 rfl ?_
    refine pw_aret C zr zk d_CN_from_70 ?_
    have hA : tm_f f5 (fun y => cp_f (ct_f T ks ls ss R1 12 0 i y)) := tm_congr a4 (fun y hy => by
      unfold cy_f
      rw [sg_one _ hi (fun x hx hne => by simp [hne]), Nat.zero_add]
      simp
      rfl)
    have x0 : ∀ g, g ≠ 9 → g ≠ 11 → g ≠ 12 → g ≠ 13 → g ≠ 14 → g ≠ 16 → pw_up w5 12 0 (oB 0 [.ref (pw_a X 1 0), .ref (pw_a X 4 0), .ref (pw_a X 9 0), .ref (pw_a X 13 0), .ref (pw_a X 14 0), .ref (pw_a X 15 0), .int (nI i)]) g = w g := fun g g1 g2 g3 g4 g5 g6 => by rw [pw_up_row _ _ g3, v0 g g5 g6, u0 g g1 g2 g4 g5]
    refine ⟨rdy1, R1, vp_updL f0 i 1, f5, hr1, ⟨?_, g_rep_of sg1 (x0 1 (by decide) (by decide) (by decide) (by decide) (by decide) (by decide)) (x0 2 (by decide) (by decide) (by decide) (by decide) (by decide) (by decide)) (x0 3 (by decide) (by decide) (by decide) (by decide) (by decide) (by decide)), ⟨?_, ?_, ?_, ?_, ?_⟩, ⟨?_, ?_, fun j hj => ?_⟩, pw_up_self _ _ _ _, ?_, ?_, ?_, fun j hj => ?_⟩, ⟨fun _ => hrv, fun _ => ⟨hr1, i, hi, rfl, hA⟩⟩, hA, fun g hg => x0 g (by omega) (by omega) (by omega) (by omega) (by omega) (by omega)⟩
    · rw [x0 0 (by decide) (by decide) (by decide) (by decide) (by decide) (by decide)]; exact s0
    · rw [x0 4 (by decide) (by decide) (by decide) (by decide) (by decide) (by decide)]; exact s4
    · rw [x0 5 (by decide) (by decide) (by decide) (by decide) (by decide) (by decide)]; exact s5
    · rw [x0 6 (by decide) (by decide) (by decide) (by decide) (by decide) (by decide)]; exact s6
    · rw [x0 7 (by decide) (by decide) (by decide) (by decide) (by decide) (by decide)]; exact s7
    · rw [x0 8 (by decide) (by decide) (by decide) (by decide) (by decide) (by decide)]; exact s8
    · rw [pw_up_g _ _ (by decide), v0 9 (by decide) (by decide), u9]; exact t9
    · rw [x0 10 (by decide) (by decide) (by decide) (by decide) (by decide) (by decide)]; exact s10
    · rw [pw_up_g _ _ (by decide), v0 11 (by decide) (by decide), u11]; exact t11 j hj
    · rw [pw_up_g _ _ (by decide), v0 13 (by decide) (by decide)]; exact u13
    · rw [pw_up_g _ _ (by decide)]; exact a3
    · rw [x0 15 (by decide) (by decide) (by decide) (by decide) (by decide) (by decide)]; exact s15
    · rw [pw_up_g _ _ (by decide)]; exact a2 j hj
