/-! THE LAW'S START -/
theorem pa_O.spec {U : State} (h : pa_O U) : ∃ (c : ClassId) (k : Class) (comp : ClassId), U.vm.findClass ("[" ++ (FieldType.array .long).toString) = some c ∧ U.vm.classes[c]? = some k ∧ k.kind = .array comp (.array .long) := by
  unfold pa_O Cond.before Cond.holds at h
  simp only [Cond.value] at h
  cases h1 : U.vm.findClass (FieldType.array .long).toString with
  | none => rw [h1] at h; exact absurd h (by simp)
  | some comp =>
    rw [h1] at h
    simp only [Option.bind_some] at h
    have h' := eq_of_beq h
    obtain ⟨c, -, h3⟩ := Option.bind_eq_some_iff.mp h'
    obtain ⟨k, hk, h4⟩ := Option.map_eq_some_iff.mp h3
    split at h4
    · rename_i comp' ty hkind
      rw [Bool.and_eq_true, decide_eq_true_eq, decide_eq_true_eq] at h4
      exact ⟨c, k, comp', h4.2, hk, by rw [hkind, h4.1]⟩
    · cases h4
theorem of_lt : ∀ g, g < 27 → ∀ i, i < 40 → dm_k g i = true → of_k g i < 81 := by decide +kernel
theorem xn_Dm (D : va_G) (cs : Nat → ClassId) (b : Nat) : Dm (XN D cs b 81) := fun g i h => ⟨h, of_lt g (dm_lt h).1 i (dm_lt h).2 h⟩
theorem MN.mw {p : Program} {l : Launch} {e : Env} {R : Room} {s : State} {m : MethodId} {args : Array Value} {below : List Frame} {meth : Method} {c : Code} {D : va_G} {cs : Nat → ClassId} {b nL cells slots k1 k2 n : Nat} {Q : State → Prop} {w : Wd} {pc : Nat} {lv : List (Option Value)} {st : List Value} (hc : cells ≤ k1) (hs : slots ≤ k2) (k : MW p l e R s m args below meth c (XN D cs b n) nL k1 k2 Q w pc lv st) : MN p l e R s m args below meth c D cs b nL cells slots Q n w pc lv st := fun H locs ls h0 h1 h2 h3 => W.widen hc hs (k H locs ls h1 h2 h3)
theorem ar_of {s : State} {c : ClassId} {k : Class} {comp : ClassId} {ty : FieldType} (h2 : s.vm.classes[c]? = some k) (h3 : k.kind = .array comp ty) : ArrOfT s c ty := fun n z => ⟨fun q h => (by cases h), k, h2, comp, h3⟩
def W9 (D : va_G) (cs : Nat → ClassId) (b : Nat) : Wd := (pw_up (pw_up (pw_up (pw_up (pw_up (pw_up (pw_up (pw_up (pw_up (W0 D cs b) 1 0 (oB 1 [.ref (b + of_k 2 0), .int 0])) 0 0 (oB 4 [.ref (b + of_k 1 0), .null, .null, .null])) 4 0 (oB 2 [.ref (b + of_k 5 0), .ref (b + of_k 6 0), .ref (b + of_k 7 0), .ref (b + of_k 8 0), .int 0, .int 0, .int (-100)])) 0 0 (oB 4 [.ref (b + of_k 1 0), .ref (b + of_k 4 0), .null, .null])) 9 0 (oB 3 [.ref (b + of_k 1 0), .ref (b + of_k 4 0), .ref (b + of_k 10 0), .int 0])) 0 0 (oB 4 [.ref (b + of_k 1 0), .ref (b + of_k 4 0), .ref (b + of_k 9 0), .null])) 12 0 (oB 0 [.ref (b + of_k 1 0), .ref (b + of_k 4 0), .ref (b + of_k 9 0), .ref (b + of_k 13 0), .ref (b + of_k 14 0), .ref (b + of_k 15 0), .int (-1)])) 0 0 (oB 4 [.ref (b + of_k 1 0), .ref (b + of_k 4 0), .ref (b + of_k 9 0), .ref (b + of_k 12 0)])) 20 0 (oB 5 [.ref (b + of_k 21 0), .int 0, .ref (b + of_k 22 0), .int 0, .ref (b + of_k 23 0), .int 0, .ref (b + of_k 24 0), .ref (b + of_k 25 0), .int 0, .ref (b + of_k 26 0)]))
set_option maxHeartbeats 4000000 in
set_option maxRecDepth 100000 in
theorem w9_bo (D : va_G) (cs : Nat → ClassId) (b : Nat) : bo_f (XN D cs b 81) (W9 D cs b) := by
  have hX := xn_Dm D cs b
  refine ⟨fun _ _ => 0, 0, fun _ => 0, 0, ⟨0, fun _ => 0, fun _ => 0, fun _ => 0, 0, fun _ _ => 0, -1, fun _ => 0, fun _ => 0, ?_, Nat.zero_le _, ⟨false, 0, by decide +kernel, fun h => by cases h⟩, ⟨fun h => absurd rfl h, fun h => absurd rfl h⟩⟩, ⟨fun _ => false, fun _ => 0, 0, fun _ => 0, fun _ => 0, 0, fun _ => 0, ?_, Nat.zero_le _, fun k _ i _ j _ => (bt_0 j).symm, fun q => absurd rfl q⟩⟩
  · have hlk : lk_f (fun _ => 0) 0 = -100 := by decide +kernel
    unfold pf_sh g_rep
    rw [hlk]
    refine ⟨rfl, ⟨hX 1 0 rfl, hX 2 0 rfl, fun j hj => hX 3 j (by simp [dm_k, hj]), rfl, ⟨_, rfl, fun j _ => rfl⟩, fun j _ => rfl⟩, ⟨rfl, rfl, rfl, rfl, rfl⟩, ⟨rfl, ⟨_, rfl, fun j _ => rfl⟩, fun j _ => rfl⟩, ?_⟩
    exact ⟨rfl, rfl, rfl, ⟨_, rfl, fun j _ => rfl⟩, fun j _ => ⟨_, rfl⟩⟩
  · funext g i
    by_cases hi : i = 0
    · subst hi
      by_cases h20 : g = 20
      · subst h20; rfl
      by_cases h21 : g = 21
      · subst h21; rfl
      by_cases h22 : g = 22
      · subst h22; rfl
      by_cases h23 : g = 23
      · subst h23; rfl
      by_cases h24 : g = 24
      · subst h24; rfl
      by_cases h25 : g = 25
      · subst h25; rfl
      by_cases h26 : g = 26
      · subst h26; rfl
      simp only [m_w, h20, h21, h22, h23, h24, h25, h26, if_true, if_false]
    · simp only [m_w, hi, if_false]
set_option maxHeartbeats 4000000 in
set_option maxRecDepth 100000 in
theorem whole_start {p : Program} {e : Env} {s : State} {m : MethodId} {below : List Frame} {meth : Method} {c : Code} (l : Launch) {b L : Nat} {xs : Nat → Int32} (hL : L ≤ 2048) (C0 : lw_At p s m meth c b L xs) : W p l e room_1 s m #[Value.ref b] below meth c s.heap [] 0 0 (lw_Z below #[Value.ref b] s) (entryFrame m ([Value.ref b] : List Value).toArray 4) := by
  obtain ⟨hx, hb, hr, hml, hown, hts, hXs, hbl, hlocks, hgv⟩ := id C0
  have htw : ∀ w ∈ pw_all, w.before #[Value.ref b] s = true := fun w hw => hts w (List.mem_filter.mp hw).1
  obtain ⟨c0, i0, q0⟩ := u_known (C := R_CN) (T := T_CN) (N := 7) (n := 7) htw in_CN (htw _ W_98)
  obtain ⟨c1, i1, q1⟩ := u_known (C := R_GR) (T := T_GR) (N := 2) (n := 2) htw in_GR (htw _ W_19)
  obtain ⟨c2, i2, q2⟩ := u_known (C := R_PA) (T := T_PA) (N := 7) (n := 7) htw in_PA (htw _ W_38)
  obtain ⟨c3, i3, q3⟩ := u_known (C := R_RE) (T := T_RE) (N := 4) (n := 4) htw in_RE (htw _ W_76)
  obtain ⟨c4, i4, q4⟩ := u_known (C := R_PF) (T := T_PF) (N := 4) (n := 4) htw in_PF (htw _ W_11)
  obtain ⟨c5, i5, q5⟩ := u_known (C := R_MO) (T := T_MO) (N := 10) (n := 10) htw in_MO (htw _ W_336)
  obtain ⟨D, hD⟩ : ∃ D : va_G, ∀ (k : Nat) (q : vw_C), vwCl[k]? = some q → u_Kn s q.1 q.2.1 q.2.2 (D.1 k) (D.2 k) := by
    refine ⟨(fun k => if k = 0 then c0 else if k = 1 then c1 else if k = 2 then c2 else if k = 3 then c3 else if k = 4 then c4 else c5, fun k => if k = 0 then i0 else if k = 1 then i1 else if k = 2 then i2 else if k = 3 then i3 else if k = 4 then i4 else i5), ?_⟩
    intro k q hq
    match k, hq with
    | 0, hq => cases hq; exact q0
    | 1, hq => cases hq; exact q1
    | 2, hq => cases hq; exact q2
    | 3, hq => cases hq; exact q3
    | 4, hq => cases hq; exact q4
    | 5, hq => cases hq; exact q5
    | k + 6, hq => simp [vwCl] at hq
  have hO : pa_O s := hts (Cond.arrayOver (.array .long)) (by decide +kernel)
  obtain ⟨cI, kI, mI, fI, gI, hkI⟩ := Cond.arrayClass_spec (htw _ W_74)
  obtain ⟨cJ, kJ, mJ, fJ, gJ, hkJ⟩ := Cond.arrayClass_spec (htw _ W_36)
  obtain ⟨cZ, kZ, mZ, fZ, gZ, hkZ⟩ := Cond.arrayClass_spec (htw _ W_374)
  obtain ⟨cQ, kQ, mQ, fQ, gQ, hkQ⟩ := hO.spec
  obtain ⟨cs, e0, e1, e2, e3⟩ : ∃ cs : Nat → ClassId, cs 0 = cI ∧ cs 1 = cJ ∧ cs 2 = cQ ∧ cs 3 = cZ := ⟨fun k => if k = 0 then cI else if k = 1 then cJ else if k = 2 then cQ else cZ, rfl, rfl, rfl, rfl⟩
  subst e0; subst e1; subst e2; subst e3
  have hK : pw_K (XN D cs s.heap.size 0) s := by
    refine ⟨⟨hD, fun k q hq => ?_⟩, fun w hw => va_Nw.of (pw_isN_on (pw_nw_ok w hw)) (hts w (pw_nw_tb w hw))⟩
    match k, hq with
    | 0, hq => cases hq; exact ⟨ar_of gI hkI, fI⟩
    | 1, hq => cases hq; exact ⟨ar_of gJ hkJ, fJ⟩
    | 2, hq => cases hq; exact ⟨ar_of gQ hkQ, fQ⟩
    | 3, hq => cases hq; exact ⟨ar_of gZ hkZ, fZ⟩
    | k + 4, hq => simp [pw_tys] at hq
  have C : Cx p s m #[Value.ref b] c code 4 "PathFinderLaw" (XN D cs s.heap.size 0) := ⟨⟨hx, hb, hml, hown, htw⟩, hK, xn_I D cs s.heap.size 0, Nat.le_refl _⟩
  have C9 : Cx p s m #[Value.ref b] c code 4 "PathFinderLaw" (XN D cs s.heap.size 81) := ⟨⟨hx, hb, hml, hown, htw⟩, hK, xn_I D cs s.heap.size 81, Nat.le_refl _⟩
  suffices K : MN p l e room_1 s m #[Value.ref b] below meth c D cs s.heap.size 4 0 0 (lw_Z below #[Value.ref b] s) 0 (W0 D cs s.heap.size) 0 [some (.ref b), none, none, none] [] by
    rw [lg_entry_eq]
    exact K s.heap [] _ rfl (fun g i hd => absurd hd.2 (Nat.not_lt_zero _)) va_S.rf (pw_entry [.ref b] (n := 4) (Nat.le_of_ble_eq_true rfl))
  refine pn_new C 0 rfl rfl (fs := [.null, .null, .null, .null]) rfl rfl in_PF t_PF tk_PF W_10 W_11 W_1 (fun j hj => by rcases j with _ | _ | _ | _ | j <;> first | rfl | omega) (Nat.le_of_ble_eq_true rfl) (Nat.le_of_ble_eq_true rfl) d_LW_law_0 ?_
  refine pn_dup C d_LW_law_3 rfl ?_
  refine pn_callI C hO (k_PF_init l D cs s.heap.size ) ⟨callB_of 0 C.1.2.2.2.2 (pw_gws W_14) rfl rfl rfl (pw_w C W_1) (pw_w C W_12) (by decide +kernel) ⟨(Nat.le_of_ble_eq_true rfl), (Nat.le_of_ble_eq_true rfl)⟩, rfl, pw_w C W_13⟩ rfl rfl (Nat.le_of_ble_eq_true rfl) d_LW_law_4 ⟨(Nat.le_of_ble_eq_true rfl), (Nat.le_of_ble_eq_true rfl)⟩ (fun w9 hp => ?_)
  subst hp
  refine pn_astore_n C d_LW_law_7 (by decide) ?_
  refine pn_new C 20 rfl rfl (fs := [.null, .int 0, .null, .int 0, .null, .int 0, .null, .null, .int 0, .null]) rfl rfl in_MO t_MO tk_MO W_335 W_336 W_6 (fun j hj => by rcases j with _ | _ | _ | _ | _ | _ | _ | _ | _ | _ | j <;> first | rfl | omega) (Nat.le_of_ble_eq_true rfl) (Nat.le_of_ble_eq_true rfl) d_LW_law_8 ?_
  refine pn_dup C d_LW_law_11 rfl ?_
  refine pn_callI C hO (k_MO_init l D cs s.heap.size _ rfl rfl rfl rfl rfl rfl rfl) ⟨callB_of 0 C.1.2.2.2.2 (pw_gws W_339) rfl rfl rfl (pw_w C W_6) (pw_w C W_337) (by decide +kernel) ⟨(Nat.le_of_ble_eq_true rfl), (Nat.le_of_ble_eq_true rfl)⟩, rfl, pw_w C W_338⟩ rfl rfl (Nat.le_of_ble_eq_true rfl) d_LW_law_12 ⟨(Nat.le_of_ble_eq_true rfl), (Nat.le_of_ble_eq_true rfl)⟩ (fun w9 hp => ?_)
  subst hp
  refine pn_astore_n C d_LW_law_15 (by decide) ?_
  refine MN.mw (k1 := 600000) (k2 := 7302250) (Nat.le_of_ble_eq_true rfl) (Nat.le_of_ble_eq_true rfl) ?_
  refine pw_iconst C9 d_LW_law_16 (v := 0) (by decide) ?_
  refine pw_istore_n C9 d_LW_law_17 (by decide) ?_
  exact lw_loop l hL C0 (xn_I D cs s.heap.size 81) (xn_Dm D cs s.heap.size) C9 rfl 2052 0 _ (by omega) (by omega) (w9_bo D cs s.heap.size)
