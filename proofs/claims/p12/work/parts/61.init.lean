/-! THE CONSTRUCTORS -/
/-- every cell as it is made -/
def W0 (D : va_G) (cs : Nat → ClassId) (b : Nat) : Wd := fun g _ => if g = 0 then oB 4 [.null, .null, .null, .null] else if g = 1 then oB 1 [.null, .int 0] else if g = 2 then aQ (XN D cs b 0) 8 (fun i => some (b + of_k 3 i)) else if g = 3 then aL (XN D cs b 0) 64 (fun _ => 0) else if g = 4 then oB 2 [.null, .null, .null, .null, .int 0, .int 0, .int 0] else if g = 5 then aI (XN D cs b 0) 60 (fun _ => 0) else if g = 6 then aI (XN D cs b 0) 40 (fun _ => 0) else if g = 7 then aI (XN D cs b 0) 40 (fun _ => 0) else if g = 8 then aI (XN D cs b 0) 40 (fun _ => 0) else if g = 9 then oB 3 [.null, .null, .null, .int 0] else if g = 10 then aQ (XN D cs b 0) 40 (fun i => some (b + of_k 11 i)) else if g = 11 then aL (XN D cs b 0) 64 (fun _ => 0) else if g = 12 then oB 0 [.null, .null, .null, .null, .null, .null, .int 0] else if g = 13 then aL (XN D cs b 0) 64 (fun _ => 0) else if g = 14 then aL (XN D cs b 0) 64 (fun _ => 0) else if g = 15 then aQ (XN D cs b 0) 12 (fun i => some (b + of_k 16 i)) else if g = 16 then aL (XN D cs b 0) 64 (fun _ => 0) else if g = 20 then oB 5 [.null, .int 0, .null, .int 0, .null, .int 0, .null, .null, .int 0, .null] else if g = 21 then aZ (XN D cs b 0) 32768 (fun _ => bi_f false) else if g = 22 then aI (XN D cs b 0) 60 (fun _ => 0) else if g = 23 then aI (XN D cs b 0) 41 (fun _ => 0) else if g = 24 then aI (XN D cs b 0) 16 (fun _ => 0) else if g = 25 then aL (XN D cs b 0) 61440 (fun _ => 0) else if g = 26 then aL (XN D cs b 0) 64 (fun _ => 0) else oB 0 []
theorem hk_3a : ∀ m, m < 81 → 2 ≤ m → m < 11 → ((ok_f m).1 = 2 ∧ (ok_f m).2 = 0) ∨ ((ok_f m).1 = 3 ∧ (ok_f m).2 < 8) := by decide +kernel
theorem hk_3 (g i : Nat) (h : dm_k g i = true) (h1 : 2 ≤ of_k g i) (h2 : of_k g i < 2 + 1 + 8) : (g = 2 ∧ i = 0) ∨ (g = 3 ∧ i < 8) := by
  have := hk_3a (of_k g i) (by omega) h1 h2
  rw [ok_of g (dm_lt h).1 i (dm_lt h).2 h] at this
  exact this
theorem hk_11a : ∀ m, m < 81 → 17 ≤ m → m < 58 → ((ok_f m).1 = 10 ∧ (ok_f m).2 = 0) ∨ ((ok_f m).1 = 11 ∧ (ok_f m).2 < 40) := by decide +kernel
theorem hk_11 (g i : Nat) (h : dm_k g i = true) (h1 : 17 ≤ of_k g i) (h2 : of_k g i < 17 + 1 + 40) : (g = 10 ∧ i = 0) ∨ (g = 11 ∧ i < 40) := by
  have := hk_11a (of_k g i) (by omega) h1 h2
  rw [ok_of g (dm_lt h).1 i (dm_lt h).2 h] at this
  exact this
theorem hk_16a : ∀ m, m < 81 → 61 ≤ m → m < 74 → ((ok_f m).1 = 15 ∧ (ok_f m).2 = 0) ∨ ((ok_f m).1 = 16 ∧ (ok_f m).2 < 12) := by decide +kernel
theorem hk_16 (g i : Nat) (h : dm_k g i = true) (h1 : 61 ≤ of_k g i) (h2 : of_k g i < 61 + 1 + 12) : (g = 15 ∧ i = 0) ∨ (g = 16 ∧ i < 12) := by
  have := hk_16a (of_k g i) (by omega) h1 h2
  rw [ok_of g (dm_lt h).1 i (dm_lt h).2 h] at this
  exact this
set_option maxHeartbeats 4000000 in
set_option maxRecDepth 100000 in
theorem k_GR_init (l : Launch) (D : va_G) (cs : Nat → ClassId) (b : Nat) (w : Wd) (h1 : w 1 0 = oB 1 [.null, .int 0]) (h2 : w 2 0 = aQ (XN D cs b 0) 8 (fun i => some (b + of_k 3 i))) (h3 : ∀ i, i < 8 → w 3 i = aL (XN D cs b 0) 64 (fun _ => 0)) : CtN l y_GR_init (pw_ws y_GR_init c_GR_init 1 none) { frames := 1, cells := 9, slots := 520, locals := 12 } D cs b 2 11 9 520 w [.ref (b + of_k 1 0)] (fun w1 => w1 = pw_up w 1 0 (oB 1 [.ref (b + of_k 2 0), .int 0])) := by
  refine pn_open (by decide) [some (.ref (b + of_k 1 0))] rfl (Nat.le_of_ble_eq_true rfl) ?_
  intro zp ze zs zm za zb zt zc hargs C hO zr zk hnm
  refine pn_aload_n C d_GR_init_0 rfl ?_
  refine pn_obj C W_23 W_16 W_17 d_GR_init_1 (Nat.le_of_ble_eq_true rfl) (Nat.le_of_ble_eq_true rfl) ?_
  refine pn_aload_n C d_GR_init_4 rfl ?_
  refine pn_bipush C d_GR_init_5 (v := 8) (by decide) ?_
  refine pn_bipush C d_GR_init_7 (v := 64) (by decide) ?_
  refine pn_mna C hO W_24 W_36 2 3 rfl (fun i _ => by show 3 + i = 2 + 1 + i; omega) hk_3 h2 h3 (by decide) (by decide) (by decide) (by decide) (by decide) (by decide) (by decide) (Nat.le_of_ble_eq_true rfl) (Nat.le_of_ble_eq_true rfl) d_GR_init_9 ?_
  refine pn_putF C hnm d_GR_init_13 ⟨rfl, by decide⟩ h1 0 (Nat.le_of_ble_eq_true rfl) rfl (by decide) in_GR t_GR tk_GR n_GR W_26 rfl rfl rfl (tk_GR 0 (by decide)) rfl rfl ?_
  refine MN.world (w' := pw_up w 1 0 (oB 1 [.ref (b + of_k 2 0), .int 0])) rfl ?_
  exact pn_vret C zr zk d_GR_init_16 rfl
set_option maxHeartbeats 4000000 in
set_option maxRecDepth 100000 in
theorem k_PA_init (l : Launch) (D : va_G) (cs : Nat → ClassId) (b : Nat) (w : Wd) (h4 : w 4 0 = oB 2 [.null, .null, .null, .null, .int 0, .int 0, .int 0]) (h5 : w 5 0 = aI (XN D cs b 0) 60 (fun _ => 0)) (h6 : w 6 0 = aI (XN D cs b 0) 40 (fun _ => 0)) (h7 : w 7 0 = aI (XN D cs b 0) 40 (fun _ => 0)) (h8 : w 8 0 = aI (XN D cs b 0) 40 (fun _ => 0)) : CtN l y_PA_init (pw_ws y_PA_init c_PA_init 1 none) { frames := 1, cells := 4, slots := 180, locals := 12 } D cs b 12 16 4 180 w [.ref (b + of_k 4 0)] (fun w1 => w1 = pw_up w 4 0 (oB 2 [.ref (b + of_k 5 0), .ref (b + of_k 6 0), .ref (b + of_k 7 0), .ref (b + of_k 8 0), .int 0, .int 0, .int (-100)])) := by
  refine pn_open (by decide) [some (.ref (b + of_k 4 0))] rfl (Nat.le_of_ble_eq_true rfl) ?_
  intro zp ze zs zm za zb zt zc hargs C hO zr zk hnm
  refine pn_aload_n C d_PA_init_0 rfl ?_
  refine pn_obj C W_42 W_16 W_17 d_PA_init_1 (Nat.le_of_ble_eq_true rfl) (Nat.le_of_ble_eq_true rfl) ?_
  refine pn_aload_n C d_PA_init_4 rfl ?_
  refine pn_bipush C d_PA_init_5 (v := 60) (by decide) ?_
  refine pn_newa (atype := .int) C 0 W_74 rfl 5 rfl rfl h5 (fun _ => rfl) (by decide) (by decide) (by decide) (Nat.le_of_ble_eq_true rfl) (Nat.le_of_ble_eq_true rfl) d_PA_init_7 ?_
  refine pn_putF C hnm d_PA_init_9 ⟨rfl, by decide⟩ h4 0 (Nat.le_of_ble_eq_true rfl) rfl (by decide) in_PA t_PA tk_PA n_PA W_43 rfl rfl rfl (tk_PA 0 (by decide)) rfl rfl ?_
  refine MN.world (w' := pw_up w 4 0 (oB 2 [.ref (b + of_k 5 0), .null, .null, .null, .int 0, .int 0, .int 0])) rfl ?_
  refine pn_aload_n C d_PA_init_12 rfl ?_
  refine pn_bipush C d_PA_init_13 (v := 40) (by decide) ?_
  refine pn_newa (atype := .int) C 0 W_74 rfl 6 rfl rfl ((pw_up_g _ _ (by decide)).trans h6) (fun _ => rfl) (by decide) (by decide) (by decide) (Nat.le_of_ble_eq_true rfl) (Nat.le_of_ble_eq_true rfl) d_PA_init_15 ?_
  refine pn_putF C hnm d_PA_init_17 ⟨rfl, by decide⟩ (pw_up_self _ _ _ _) 1 (Nat.le_of_ble_eq_true rfl) rfl (by decide) in_PA t_PA tk_PA n_PA W_44 rfl rfl rfl (tk_PA 1 (by decide)) rfl rfl ?_
  refine MN.world (pw_up_up _ _ _ _ _) ?_
  refine MN.world (w' := pw_up w 4 0 (oB 2 [.ref (b + of_k 5 0), .ref (b + of_k 6 0), .null, .null, .int 0, .int 0, .int 0])) rfl ?_
  refine pn_aload_n C d_PA_init_20 rfl ?_
  refine pn_bipush C d_PA_init_21 (v := 40) (by decide) ?_
  refine pn_newa (atype := .int) C 0 W_74 rfl 7 rfl rfl ((pw_up_g _ _ (by decide)).trans h7) (fun _ => rfl) (by decide) (by decide) (by decide) (Nat.le_of_ble_eq_true rfl) (Nat.le_of_ble_eq_true rfl) d_PA_init_23 ?_
  refine pn_putF C hnm d_PA_init_25 ⟨rfl, by decide⟩ (pw_up_self _ _ _ _) 2 (Nat.le_of_ble_eq_true rfl) rfl (by decide) in_PA t_PA tk_PA n_PA W_47 rfl rfl rfl (tk_PA 2 (by decide)) rfl rfl ?_
  refine MN.world (pw_up_up _ _ _ _ _) ?_
  refine MN.world (w' := pw_up w 4 0 (oB 2 [.ref (b + of_k 5 0), .ref (b + of_k 6 0), .ref (b + of_k 7 0), .null, .int 0, .int 0, .int 0])) rfl ?_
  refine pn_aload_n C d_PA_init_28 rfl ?_
  refine pn_bipush C d_PA_init_29 (v := 40) (by decide) ?_
  refine pn_newa (atype := .int) C 0 W_74 rfl 8 rfl rfl ((pw_up_g _ _ (by decide)).trans h8) (fun _ => rfl) (by decide) (by decide) (by decide) (Nat.le_of_ble_eq_true rfl) (Nat.le_of_ble_eq_true rfl) d_PA_init_31 ?_
  refine pn_putF C hnm d_PA_init_33 ⟨rfl, by decide⟩ (pw_up_self _ _ _ _) 3 (Nat.le_of_ble_eq_true rfl) rfl (by decide) in_PA t_PA tk_PA n_PA W_50 rfl rfl rfl (tk_PA 3 (by decide)) rfl rfl ?_
  refine MN.world (pw_up_up _ _ _ _ _) ?_
  refine MN.world (w' := pw_up w 4 0 (oB 2 [.ref (b + of_k 5 0), .ref (b + of_k 6 0), .ref (b + of_k 7 0), .ref (b + of_k 8 0), .int 0, .int 0, .int 0])) rfl ?_
  refine pn_aload_n C d_PA_init_36 rfl ?_
  refine pn_bipush C d_PA_init_37 (v := -100) (by decide) ?_
  refine pn_put C d_PA_init_39 ⟨rfl, by decide⟩ (pw_up_self _ _ _ _) 6 (Nat.le_of_ble_eq_true rfl) rfl (by decide) in_PA t_PA tk_PA n_PA W_57 rfl rfl (tk_PA 6 (by decide)) rfl rfl ?_
  refine MN.world (pw_up_up _ _ _ _ _) ?_
  refine MN.world (w' := pw_up w 4 0 (oB 2 [.ref (b + of_k 5 0), .ref (b + of_k 6 0), .ref (b + of_k 7 0), .ref (b + of_k 8 0), .int 0, .int 0, .int (-100)])) rfl ?_
  exact pn_vret C zr zk d_PA_init_42 rfl
set_option maxHeartbeats 4000000 in
set_option maxRecDepth 100000 in
theorem k_RE_init (l : Launch) (D : va_G) (cs : Nat → ClassId) (b : Nat) (w : Wd) (h9 : w 9 0 = oB 3 [.null, .null, .null, .int 0]) (h10 : w 10 0 = aQ (XN D cs b 0) 40 (fun i => some (b + of_k 11 i))) (h11 : ∀ i, i < 40 → w 11 i = aL (XN D cs b 0) 64 (fun _ => 0)) : CtN l y_RE_init (pw_ws y_RE_init c_RE_init 3 none) { frames := 1, cells := 41, slots := 2600, locals := 12 } D cs b 17 58 41 2600 w [.ref (b + of_k 9 0), .ref (b + of_k 1 0), .ref (b + of_k 4 0)] (fun w1 => w1 = pw_up w 9 0 (oB 3 [.ref (b + of_k 1 0), .ref (b + of_k 4 0), .ref (b + of_k 10 0), .int 0])) := by
  refine pn_open (by decide) [some (.ref (b + of_k 9 0)), some (.ref (b + of_k 1 0)), some (.ref (b + of_k 4 0))] rfl (Nat.le_of_ble_eq_true rfl) ?_
  intro zp ze zs zm za zb zt zc hargs C hO zr zk hnm
  refine pn_aload_n C d_RE_init_0 rfl ?_
  refine pn_obj C W_80 W_16 W_17 d_RE_init_1 (Nat.le_of_ble_eq_true rfl) (Nat.le_of_ble_eq_true rfl) ?_
  refine pn_aload_n C d_RE_init_4 rfl ?_
  refine pn_bipush C d_RE_init_5 (v := 40) (by decide) ?_
  refine pn_bipush C d_RE_init_7 (v := 64) (by decide) ?_
  refine pn_mna C hO W_81 W_36 10 11 rfl (fun i _ => by show 18 + i = 17 + 1 + i; omega) hk_11 h10 h11 (by decide) (by decide) (by decide) (by decide) (by decide) (by decide) (by decide) (Nat.le_of_ble_eq_true rfl) (Nat.le_of_ble_eq_true rfl) d_RE_init_9 ?_
  refine pn_putF C hnm d_RE_init_13 ⟨rfl, by decide⟩ h9 2 (Nat.le_of_ble_eq_true rfl) rfl (by decide) in_RE t_RE tk_RE n_RE W_84 rfl rfl rfl (tk_RE 2 (by decide)) rfl rfl ?_
  refine MN.world (w' := pw_up w 9 0 (oB 3 [.null, .null, .ref (b + of_k 10 0), .int 0])) rfl ?_
  refine pn_aload_n C d_RE_init_16 rfl ?_
  refine pn_aload_n C d_RE_init_17 rfl ?_
  refine pn_putF C hnm d_RE_init_18 ⟨rfl, by decide⟩ (pw_up_self _ _ _ _) 0 (Nat.le_of_ble_eq_true rfl) rfl (by decide) in_RE t_RE tk_RE n_RE W_82 rfl rfl rfl (tk_RE 0 (by decide)) rfl rfl ?_
  refine MN.world (pw_up_up _ _ _ _ _) ?_
  refine MN.world (w' := pw_up w 9 0 (oB 3 [.ref (b + of_k 1 0), .null, .ref (b + of_k 10 0), .int 0])) rfl ?_
  refine pn_aload_n C d_RE_init_21 rfl ?_
  refine pn_aload_n C d_RE_init_22 rfl ?_
  refine pn_putF C hnm d_RE_init_23 ⟨rfl, by decide⟩ (pw_up_self _ _ _ _) 1 (Nat.le_of_ble_eq_true rfl) rfl (by decide) in_RE t_RE tk_RE n_RE W_83 rfl rfl rfl (tk_RE 1 (by decide)) rfl rfl ?_
  refine MN.world (pw_up_up _ _ _ _ _) ?_
  refine MN.world (w' := pw_up w 9 0 (oB 3 [.ref (b + of_k 1 0), .ref (b + of_k 4 0), .ref (b + of_k 10 0), .int 0])) rfl ?_
  exact pn_vret C zr zk d_RE_init_26 rfl
set_option maxHeartbeats 4000000 in
set_option maxRecDepth 100000 in
theorem k_CN_init (l : Launch) (D : va_G) (cs : Nat → ClassId) (b : Nat) (w : Wd) (h12 : w 12 0 = oB 0 [.null, .null, .null, .null, .null, .null, .int 0]) (h13 : w 13 0 = aL (XN D cs b 0) 64 (fun _ => 0)) (h14 : w 14 0 = aL (XN D cs b 0) 64 (fun _ => 0)) (h15 : w 15 0 = aQ (XN D cs b 0) 12 (fun i => some (b + of_k 16 i))) (h16 : ∀ i, i < 12 → w 16 i = aL (XN D cs b 0) 64 (fun _ => 0)) : CtN l y_CN_init (pw_ws y_CN_init c_CN_init 4 none) { frames := 1, cells := 15, slots := 908, locals := 12 } D cs b 59 74 15 908 w [.ref (b + of_k 12 0), .ref (b + of_k 1 0), .ref (b + of_k 4 0), .ref (b + of_k 9 0)] (fun w1 => w1 = pw_up w 12 0 (oB 0 [.ref (b + of_k 1 0), .ref (b + of_k 4 0), .ref (b + of_k 9 0), .ref (b + of_k 13 0), .ref (b + of_k 14 0), .ref (b + of_k 15 0), .int (-1)])) := by
  refine pn_open (by decide) [some (.ref (b + of_k 12 0)), some (.ref (b + of_k 1 0)), some (.ref (b + of_k 4 0)), some (.ref (b + of_k 9 0))] rfl (Nat.le_of_ble_eq_true rfl) ?_
  intro zp ze zs zm za zb zt zc hargs C hO zr zk hnm
  refine pn_aload_n C d_CN_init_0 rfl ?_
  refine pn_obj C W_102 W_16 W_17 d_CN_init_1 (Nat.le_of_ble_eq_true rfl) (Nat.le_of_ble_eq_true rfl) ?_
  refine pn_aload_n C d_CN_init_4 rfl ?_
  refine pn_bipush C d_CN_init_5 (v := 64) (by decide) ?_
  refine pn_newa (atype := .long) C 1 W_36 rfl 13 rfl rfl h13 (fun _ => rfl) (by decide) (by decide) (by decide) (Nat.le_of_ble_eq_true rfl) (Nat.le_of_ble_eq_true rfl) d_CN_init_7 ?_
  refine pn_putF C hnm d_CN_init_9 ⟨rfl, by decide⟩ h12 3 (Nat.le_of_ble_eq_true rfl) rfl (by decide) in_CN t_CN tk_CN n_CN W_107 rfl rfl rfl (tk_CN 3 (by decide)) rfl rfl ?_
  refine MN.world (w' := pw_up w 12 0 (oB 0 [.null, .null, .null, .ref (b + of_k 13 0), .null, .null, .int 0])) rfl ?_
  refine pn_aload_n C d_CN_init_12 rfl ?_
  refine pn_bipush C d_CN_init_13 (v := 64) (by decide) ?_
  refine pn_newa (atype := .long) C 1 W_36 rfl 14 rfl rfl ((pw_up_g _ _ (by decide)).trans h14) (fun _ => rfl) (by decide) (by decide) (by decide) (Nat.le_of_ble_eq_true rfl) (Nat.le_of_ble_eq_true rfl) d_CN_init_15 ?_
  refine pn_putF C hnm d_CN_init_17 ⟨rfl, by decide⟩ (pw_up_self _ _ _ _) 4 (Nat.le_of_ble_eq_true rfl) rfl (by decide) in_CN t_CN tk_CN n_CN W_108 rfl rfl rfl (tk_CN 4 (by decide)) rfl rfl ?_
  refine MN.world (pw_up_up _ _ _ _ _) ?_
  refine MN.world (w' := pw_up w 12 0 (oB 0 [.null, .null, .null, .ref (b + of_k 13 0), .ref (b + of_k 14 0), .null, .int 0])) rfl ?_
  refine pn_aload_n C d_CN_init_20 rfl ?_
  refine pn_bipush C d_CN_init_21 (v := 12) (by decide) ?_
  refine pn_bipush C d_CN_init_23 (v := 64) (by decide) ?_
  refine pn_mna C hO W_103 W_36 15 16 rfl (fun i _ => by show 62 + i = 61 + 1 + i; omega) hk_16 ((pw_up_g _ _ (by decide)).trans h15) (fun i hi => (pw_up_g _ _ (by decide)).trans (h16 i hi)) (by decide) (by decide) (by decide) (by decide) (by decide) (by decide) (by decide) (Nat.le_of_ble_eq_true rfl) (Nat.le_of_ble_eq_true rfl) d_CN_init_25 ?_
  refine pn_putF C hnm d_CN_init_29 ⟨rfl, by decide⟩ (pw_up_self _ _ _ _) 5 (Nat.le_of_ble_eq_true rfl) rfl (by decide) in_CN t_CN tk_CN n_CN W_109 rfl rfl rfl (tk_CN 5 (by decide)) rfl rfl ?_
  refine MN.world (pw_up_up _ _ _ _ _) ?_
  refine MN.world (w' := pw_up w 12 0 (oB 0 [.null, .null, .null, .ref (b + of_k 13 0), .ref (b + of_k 14 0), .ref (b + of_k 15 0), .int 0])) rfl ?_
  refine pn_aload_n C d_CN_init_32 rfl ?_
  refine pn_iconst C d_CN_init_33 (v := -1) (by decide) ?_
  refine pn_put C d_CN_init_34 ⟨rfl, by decide⟩ (pw_up_self _ _ _ _) 6 (Nat.le_of_ble_eq_true rfl) rfl (by decide) in_CN t_CN tk_CN n_CN W_110 rfl rfl (tk_CN 6 (by decide)) rfl rfl ?_
  refine MN.world (pw_up_up _ _ _ _ _) ?_
  refine MN.world (w' := pw_up w 12 0 (oB 0 [.null, .null, .null, .ref (b + of_k 13 0), .ref (b + of_k 14 0), .ref (b + of_k 15 0), .int (-1)])) rfl ?_
  refine pn_aload_n C d_CN_init_37 rfl ?_
  refine pn_aload_n C d_CN_init_38 rfl ?_
  refine pn_putF C hnm d_CN_init_39 ⟨rfl, by decide⟩ (pw_up_self _ _ _ _) 0 (Nat.le_of_ble_eq_true rfl) rfl (by decide) in_CN t_CN tk_CN n_CN W_104 rfl rfl rfl (tk_CN 0 (by decide)) rfl rfl ?_
  refine MN.world (pw_up_up _ _ _ _ _) ?_
  refine MN.world (w' := pw_up w 12 0 (oB 0 [.ref (b + of_k 1 0), .null, .null, .ref (b + of_k 13 0), .ref (b + of_k 14 0), .ref (b + of_k 15 0), .int (-1)])) rfl ?_
  refine pn_aload_n C d_CN_init_42 rfl ?_
  refine pn_aload_n C d_CN_init_43 rfl ?_
  refine pn_putF C hnm d_CN_init_44 ⟨rfl, by decide⟩ (pw_up_self _ _ _ _) 1 (Nat.le_of_ble_eq_true rfl) rfl (by decide) in_CN t_CN tk_CN n_CN W_105 rfl rfl rfl (tk_CN 1 (by decide)) rfl rfl ?_
  refine MN.world (pw_up_up _ _ _ _ _) ?_
  refine MN.world (w' := pw_up w 12 0 (oB 0 [.ref (b + of_k 1 0), .ref (b + of_k 4 0), .null, .ref (b + of_k 13 0), .ref (b + of_k 14 0), .ref (b + of_k 15 0), .int (-1)])) rfl ?_
  refine pn_aload_n C d_CN_init_47 rfl ?_
  refine pn_aload_n C d_CN_init_48 rfl ?_
  refine pn_putF C hnm d_CN_init_49 ⟨rfl, by decide⟩ (pw_up_self _ _ _ _) 2 (Nat.le_of_ble_eq_true rfl) rfl (by decide) in_CN t_CN tk_CN n_CN W_106 rfl rfl rfl (tk_CN 2 (by decide)) rfl rfl ?_
  refine MN.world (pw_up_up _ _ _ _ _) ?_
  refine MN.world (w' := pw_up w 12 0 (oB 0 [.ref (b + of_k 1 0), .ref (b + of_k 4 0), .ref (b + of_k 9 0), .ref (b + of_k 13 0), .ref (b + of_k 14 0), .ref (b + of_k 15 0), .int (-1)])) rfl ?_
  exact pn_vret C zr zk d_CN_init_52 rfl
set_option maxHeartbeats 4000000 in
set_option maxRecDepth 100000 in
theorem k_MO_init (l : Launch) (D : va_G) (cs : Nat → ClassId) (b : Nat) (w : Wd) (h20 : w 20 0 = oB 5 [.null, .int 0, .null, .int 0, .null, .int 0, .null, .null, .int 0, .null]) (h21 : w 21 0 = aZ (XN D cs b 0) 32768 (fun _ => bi_f false)) (h22 : w 22 0 = aI (XN D cs b 0) 60 (fun _ => 0)) (h23 : w 23 0 = aI (XN D cs b 0) 41 (fun _ => 0)) (h24 : w 24 0 = aI (XN D cs b 0) 16 (fun _ => 0)) (h25 : w 25 0 = aL (XN D cs b 0) 61440 (fun _ => 0)) (h26 : w 26 0 = aL (XN D cs b 0) 64 (fun _ => 0)) : CtN l y_MO_init (pw_ws y_MO_init c_MO_init 1 none) { frames := 1, cells := 6, slots := 94389, locals := 12 } D cs b 75 81 6 94389 w [.ref (b + of_k 20 0)] (fun w1 => w1 = pw_up w 20 0 (oB 5 [.ref (b + of_k 21 0), .int 0, .ref (b + of_k 22 0), .int 0, .ref (b + of_k 23 0), .int 0, .ref (b + of_k 24 0), .ref (b + of_k 25 0), .int 0, .ref (b + of_k 26 0)])) := by
  refine pn_open (by decide) [some (.ref (b + of_k 20 0))] rfl (Nat.le_of_ble_eq_true rfl) ?_
  intro zp ze zs zm za zb zt zc hargs C hO zr zk hnm
  refine pn_aload_n C d_MO_init_0 rfl ?_
  refine pn_obj C W_340 W_16 W_17 d_MO_init_1 (Nat.le_of_ble_eq_true rfl) (Nat.le_of_ble_eq_true rfl) ?_
  refine pn_aload_n C d_MO_init_4 rfl ?_
  refine pn_ldc C d_MO_init_5 (v := 32768) W_341 ?_
  refine pn_newa (atype := .boolean) C 3 W_374 rfl 21 rfl rfl h21 (fun _ => rfl) (by decide) (by decide) (by decide) (Nat.le_of_ble_eq_true rfl) (Nat.le_of_ble_eq_true rfl) d_MO_init_7 ?_
  refine pn_putF C hnm d_MO_init_9 ⟨rfl, by decide⟩ h20 0 (Nat.le_of_ble_eq_true rfl) rfl (by decide) in_MO t_MO tk_MO n_MO W_343 rfl rfl rfl (tk_MO 0 (by decide)) rfl rfl ?_
  refine MN.world (w' := pw_up w 20 0 (oB 5 [.ref (b + of_k 21 0), .int 0, .null, .int 0, .null, .int 0, .null, .null, .int 0, .null])) rfl ?_
  refine pn_aload_n C d_MO_init_12 rfl ?_
  refine pn_bipush C d_MO_init_13 (v := 60) (by decide) ?_
  refine pn_newa (atype := .int) C 0 W_74 rfl 22 rfl rfl ((pw_up_g _ _ (by decide)).trans h22) (fun _ => rfl) (by decide) (by decide) (by decide) (Nat.le_of_ble_eq_true rfl) (Nat.le_of_ble_eq_true rfl) d_MO_init_15 ?_
  refine pn_putF C hnm d_MO_init_17 ⟨rfl, by decide⟩ (pw_up_self _ _ _ _) 2 (Nat.le_of_ble_eq_true rfl) rfl (by decide) in_MO t_MO tk_MO n_MO W_345 rfl rfl rfl (tk_MO 2 (by decide)) rfl rfl ?_
  refine MN.world (pw_up_up _ _ _ _ _) ?_
  refine MN.world (w' := pw_up w 20 0 (oB 5 [.ref (b + of_k 21 0), .int 0, .ref (b + of_k 22 0), .int 0, .null, .int 0, .null, .null, .int 0, .null])) rfl ?_
  refine pn_aload_n C d_MO_init_20 rfl ?_
  refine pn_bipush C d_MO_init_21 (v := 41) (by decide) ?_
  refine pn_newa (atype := .int) C 0 W_74 rfl 23 rfl rfl ((pw_up_g _ _ (by decide)).trans h23) (fun _ => rfl) (by decide) (by decide) (by decide) (Nat.le_of_ble_eq_true rfl) (Nat.le_of_ble_eq_true rfl) d_MO_init_23 ?_
  refine pn_putF C hnm d_MO_init_25 ⟨rfl, by decide⟩ (pw_up_self _ _ _ _) 4 (Nat.le_of_ble_eq_true rfl) rfl (by decide) in_MO t_MO tk_MO n_MO W_347 rfl rfl rfl (tk_MO 4 (by decide)) rfl rfl ?_
  refine MN.world (pw_up_up _ _ _ _ _) ?_
  refine MN.world (w' := pw_up w 20 0 (oB 5 [.ref (b + of_k 21 0), .int 0, .ref (b + of_k 22 0), .int 0, .ref (b + of_k 23 0), .int 0, .null, .null, .int 0, .null])) rfl ?_
  refine pn_aload_n C d_MO_init_28 rfl ?_
  refine pn_bipush C d_MO_init_29 (v := 16) (by decide) ?_
  refine pn_newa (atype := .int) C 0 W_74 rfl 24 rfl rfl ((pw_up_g _ _ (by decide)).trans h24) (fun _ => rfl) (by decide) (by decide) (by decide) (Nat.le_of_ble_eq_true rfl) (Nat.le_of_ble_eq_true rfl) d_MO_init_31 ?_
  refine pn_putF C hnm d_MO_init_33 ⟨rfl, by decide⟩ (pw_up_self _ _ _ _) 6 (Nat.le_of_ble_eq_true rfl) rfl (by decide) in_MO t_MO tk_MO n_MO W_349 rfl rfl rfl (tk_MO 6 (by decide)) rfl rfl ?_
  refine MN.world (pw_up_up _ _ _ _ _) ?_
  refine MN.world (w' := pw_up w 20 0 (oB 5 [.ref (b + of_k 21 0), .int 0, .ref (b + of_k 22 0), .int 0, .ref (b + of_k 23 0), .int 0, .ref (b + of_k 24 0), .null, .int 0, .null])) rfl ?_
  refine pn_aload_n C d_MO_init_36 rfl ?_
  refine pn_ldc C d_MO_init_37 (v := 61440) W_342 ?_
  refine pn_newa (atype := .long) C 1 W_36 rfl 25 rfl rfl ((pw_up_g _ _ (by decide)).trans h25) (fun _ => rfl) (by decide) (by decide) (by decide) (Nat.le_of_ble_eq_true rfl) (Nat.le_of_ble_eq_true rfl) d_MO_init_39 ?_
  refine pn_putF C hnm d_MO_init_41 ⟨rfl, by decide⟩ (pw_up_self _ _ _ _) 7 (Nat.le_of_ble_eq_true rfl) rfl (by decide) in_MO t_MO tk_MO n_MO W_350 rfl rfl rfl (tk_MO 7 (by decide)) rfl rfl ?_
  refine MN.world (pw_up_up _ _ _ _ _) ?_
  refine MN.world (w' := pw_up w 20 0 (oB 5 [.ref (b + of_k 21 0), .int 0, .ref (b + of_k 22 0), .int 0, .ref (b + of_k 23 0), .int 0, .ref (b + of_k 24 0), .ref (b + of_k 25 0), .int 0, .null])) rfl ?_
  refine pn_aload_n C d_MO_init_44 rfl ?_
  refine pn_bipush C d_MO_init_45 (v := 64) (by decide) ?_
  refine pn_newa (atype := .long) C 1 W_36 rfl 26 rfl rfl ((pw_up_g _ _ (by decide)).trans h26) (fun _ => rfl) (by decide) (by decide) (by decide) (Nat.le_of_ble_eq_true rfl) (Nat.le_of_ble_eq_true rfl) d_MO_init_47 ?_
  refine pn_putF C hnm d_MO_init_49 ⟨rfl, by decide⟩ (pw_up_self _ _ _ _) 9 (Nat.le_of_ble_eq_true rfl) rfl (by decide) in_MO t_MO tk_MO n_MO W_352 rfl rfl rfl (tk_MO 9 (by decide)) rfl rfl ?_
  refine MN.world (pw_up_up _ _ _ _ _) ?_
  refine MN.world (w' := pw_up w 20 0 (oB 5 [.ref (b + of_k 21 0), .int 0, .ref (b + of_k 22 0), .int 0, .ref (b + of_k 23 0), .int 0, .ref (b + of_k 24 0), .ref (b + of_k 25 0), .int 0, .ref (b + of_k 26 0)])) rfl ?_
  exact pn_vret C zr zk d_MO_init_52 rfl
set_option maxHeartbeats 4000000 in
set_option maxRecDepth 100000 in
theorem k_PF_init (l : Launch) (D : va_G) (cs : Nat → ClassId) (b : Nat)  : CtN l y_PF_init (pw_ws y_PF_init c_PF_init 1 none) { frames := 2, cells := 73, slots := 4228, locals := 35 } D cs b 1 74 73 4228 (W0 D cs b) [.ref (b + of_k 0 0)] (fun w1 => w1 = (pw_up (pw_up (pw_up (pw_up (pw_up (pw_up (pw_up (pw_up (W0 D cs b) 1 0 (oB 1 [.ref (b + of_k 2 0), .int 0])) 0 0 (oB 4 [.ref (b + of_k 1 0), .null, .null, .null])) 4 0 (oB 2 [.ref (b + of_k 5 0), .ref (b + of_k 6 0), .ref (b + of_k 7 0), .ref (b + of_k 8 0), .int 0, .int 0, .int (-100)])) 0 0 (oB 4 [.ref (b + of_k 1 0), .ref (b + of_k 4 0), .null, .null])) 9 0 (oB 3 [.ref (b + of_k 1 0), .ref (b + of_k 4 0), .ref (b + of_k 10 0), .int 0])) 0 0 (oB 4 [.ref (b + of_k 1 0), .ref (b + of_k 4 0), .ref (b + of_k 9 0), .null])) 12 0 (oB 0 [.ref (b + of_k 1 0), .ref (b + of_k 4 0), .ref (b + of_k 9 0), .ref (b + of_k 13 0), .ref (b + of_k 14 0), .ref (b + of_k 15 0), .int (-1)])) 0 0 (oB 4 [.ref (b + of_k 1 0), .ref (b + of_k 4 0), .ref (b + of_k 9 0), .ref (b + of_k 12 0)]))) := by
  refine pn_open (by decide) [some (.ref (b + of_k 0 0))] rfl (Nat.le_of_ble_eq_true rfl) ?_
  intro zp ze zs zm za zb zt zc hargs C hO zr zk hnm
  refine pn_aload_n C d_PF_init_0 rfl ?_
  refine pn_obj C W_15 W_16 W_17 d_PF_init_1 (Nat.le_of_ble_eq_true rfl) (Nat.le_of_ble_eq_true rfl) ?_
  refine pn_aload_n C d_PF_init_4 rfl ?_
  refine pn_new C 1 rfl rfl (fs := [.null, .int 0]) rfl rfl in_GR t_GR tk_GR W_18 W_19 W_2 (fun j hj => by rcases j with _ | _ | j <;> first | rfl | omega) (Nat.le_of_ble_eq_true rfl) (Nat.le_of_ble_eq_true rfl) d_PF_init_5 ?_
  refine pn_dup C d_PF_init_8 rfl ?_
  refine pn_callIN C hO (k_GR_init l D cs b _ rfl rfl (fun i _ => rfl)) ⟨va_cnB 0 C.1.2.2.2.2 (pw_gws W_22) rfl rfl rfl (C.2.1.2 _ N_0) (pw_w C W_2) (by decide +kernel) ⟨(Nat.le_of_ble_eq_true rfl), (Nat.le_of_ble_eq_true rfl)⟩, rfl, pw_w C W_21⟩ rfl rfl (Nat.le_of_ble_eq_true rfl) d_PF_init_9 ⟨(Nat.le_of_ble_eq_true rfl), (Nat.le_of_ble_eq_true rfl)⟩ (fun w9 hp => ?_)
  subst hp
  refine pn_putF C hnm d_PF_init_12 ⟨rfl, by decide⟩ rfl 0 (Nat.le_of_ble_eq_true rfl) rfl (by decide) in_PF t_PF tk_PF n_PF W_127 rfl rfl rfl (tk_PF 0 (by decide)) rfl rfl ?_
  refine MN.world (w' := pw_up _ 0 0 (oB 4 [.ref (b + of_k 1 0), .null, .null, .null])) rfl ?_
  refine pn_aload_n C d_PF_init_15 rfl ?_
  refine pn_new C 4 rfl rfl (fs := [.null, .null, .null, .null, .int 0, .int 0, .int 0]) rfl rfl in_PA t_PA tk_PA W_37 W_38 W_3 (fun j hj => by rcases j with _ | _ | _ | _ | _ | _ | _ | j <;> first | rfl | omega) (Nat.le_of_ble_eq_true rfl) (Nat.le_of_ble_eq_true rfl) d_PF_init_16 ?_
  refine pn_dup C d_PF_init_19 rfl ?_
  refine pn_callIN C hO (k_PA_init l D cs b _ rfl rfl rfl rfl rfl) ⟨va_cnB 0 C.1.2.2.2.2 (pw_gws W_41) rfl rfl rfl (C.2.1.2 _ N_4) (pw_w C W_3) (by decide +kernel) ⟨(Nat.le_of_ble_eq_true rfl), (Nat.le_of_ble_eq_true rfl)⟩, rfl, pw_w C W_40⟩ rfl rfl (Nat.le_of_ble_eq_true rfl) d_PF_init_20 ⟨(Nat.le_of_ble_eq_true rfl), (Nat.le_of_ble_eq_true rfl)⟩ (fun w9 hp => ?_)
  subst hp
  refine pn_putF C hnm d_PF_init_23 ⟨rfl, by decide⟩ rfl 1 (Nat.le_of_ble_eq_true rfl) rfl (by decide) in_PF t_PF tk_PF n_PF W_128 rfl rfl rfl (tk_PF 1 (by decide)) rfl rfl ?_
  refine MN.world (w' := pw_up _ 0 0 (oB 4 [.ref (b + of_k 1 0), .ref (b + of_k 4 0), .null, .null])) rfl ?_
  refine pn_aload_n C d_PF_init_26 rfl ?_
  refine pn_new C 9 rfl rfl (fs := [.null, .null, .null, .int 0]) rfl rfl in_RE t_RE tk_RE W_75 W_76 W_4 (fun j hj => by rcases j with _ | _ | _ | _ | j <;> first | rfl | omega) (Nat.le_of_ble_eq_true rfl) (Nat.le_of_ble_eq_true rfl) d_PF_init_27 ?_
  refine pn_dup C d_PF_init_30 rfl ?_
  refine pn_aload_n C d_PF_init_31 rfl ?_
  refine pn_get C d_PF_init_32 ⟨rfl, by decide⟩ rfl 0 rfl rfl (by decide) in_PF W_127 rfl ?_
  refine pn_aload_n C d_PF_init_35 rfl ?_
  refine pn_get C d_PF_init_36 ⟨rfl, by decide⟩ rfl 1 rfl rfl (by decide) in_PF W_128 rfl ?_
  refine pn_callIN C hO (k_RE_init l D cs b _ rfl rfl (fun i _ => rfl)) ⟨va_cnB 2 C.1.2.2.2.2 (pw_gws W_79) rfl rfl rfl (C.2.1.2 _ N_14) (pw_w C W_4) (by decide +kernel) ⟨(Nat.le_of_ble_eq_true rfl), (Nat.le_of_ble_eq_true rfl)⟩, rfl, pw_w C W_78⟩ rfl rfl (Nat.le_of_ble_eq_true rfl) d_PF_init_39 ⟨(Nat.le_of_ble_eq_true rfl), (Nat.le_of_ble_eq_true rfl)⟩ (fun w9 hp => ?_)
  subst hp
  refine pn_putF C hnm d_PF_init_42 ⟨rfl, by decide⟩ rfl 2 (Nat.le_of_ble_eq_true rfl) rfl (by decide) in_PF t_PF tk_PF n_PF W_129 rfl rfl rfl (tk_PF 2 (by decide)) rfl rfl ?_
  refine MN.world (w' := pw_up _ 0 0 (oB 4 [.ref (b + of_k 1 0), .ref (b + of_k 4 0), .ref (b + of_k 9 0), .null])) rfl ?_
  refine pn_aload_n C d_PF_init_45 rfl ?_
  refine pn_new C 12 rfl rfl (fs := [.null, .null, .null, .null, .null, .null, .int 0]) rfl rfl in_CN t_CN tk_CN W_97 W_98 W_5 (fun j hj => by rcases j with _ | _ | _ | _ | _ | _ | _ | j <;> first | rfl | omega) (Nat.le_of_ble_eq_true rfl) (Nat.le_of_ble_eq_true rfl) d_PF_init_46 ?_
  refine pn_dup C d_PF_init_49 rfl ?_
  refine pn_aload_n C d_PF_init_50 rfl ?_
  refine pn_get C d_PF_init_51 ⟨rfl, by decide⟩ rfl 0 rfl rfl (by decide) in_PF W_127 rfl ?_
  refine pn_aload_n C d_PF_init_54 rfl ?_
  refine pn_get C d_PF_init_55 ⟨rfl, by decide⟩ rfl 1 rfl rfl (by decide) in_PF W_128 rfl ?_
  refine pn_aload_n C d_PF_init_58 rfl ?_
  refine pn_get C d_PF_init_59 ⟨rfl, by decide⟩ rfl 2 rfl rfl (by decide) in_PF W_129 rfl ?_
  refine pn_callIN C hO (k_CN_init l D cs b _ rfl rfl rfl rfl (fun i _ => rfl)) ⟨va_cnB 3 C.1.2.2.2.2 (pw_gws W_101) rfl rfl rfl (C.2.1.2 _ N_17) (pw_w C W_5) (by decide +kernel) ⟨(Nat.le_of_ble_eq_true rfl), (Nat.le_of_ble_eq_true rfl)⟩, rfl, pw_w C W_100⟩ rfl rfl (Nat.le_of_ble_eq_true rfl) d_PF_init_62 ⟨(Nat.le_of_ble_eq_true rfl), (Nat.le_of_ble_eq_true rfl)⟩ (fun w9 hp => ?_)
  subst hp
  refine pn_putF C hnm d_PF_init_65 ⟨rfl, by decide⟩ rfl 3 (Nat.le_of_ble_eq_true rfl) rfl (by decide) in_PF t_PF tk_PF n_PF W_130 rfl rfl rfl (tk_PF 3 (by decide)) rfl rfl ?_
  refine MN.world (w' := pw_up _ 0 0 (oB 4 [.ref (b + of_k 1 0), .ref (b + of_k 4 0), .ref (b + of_k 9 0), .ref (b + of_k 12 0)])) rfl ?_
  exact pn_vret C zr zk d_PF_init_68 rfl
