/-! THE LAW'S LOOP -/
theorem pf_0 {X : Lay} {w : Wd} {T : Nat → Nat → Int64} {ne : Int32} {wd : Nat → Int32} {n : Nat} (h : pf_st X w T ne wd n) : ∃ fs, w 0 0 = oB 4 fs := by
  obtain ⟨parts, ks, ls, ss, rdy, R, st0, BF, AF, hS, -⟩ := h
  exact ⟨_, hS.1⟩
theorem mo_20 {X : Lay} {w : Wd} {T : Nat → Nat → Int64} {ne : Int32} {wd : Nat → Int32} {n : Nat} (h : mo_st X w T ne wd n) : ∃ fs, w 20 0 = oB 5 fs := by
  obtain ⟨tE, st, pt, lk, tb, rk, sp, hmw, -⟩ := h
  exact ⟨_, by rw [← hmw]; rfl⟩
set_option maxHeartbeats 4000000 in
set_option maxRecDepth 100000 in
theorem lw_loop {p : Program} {e : Env} {s : State} {m : MethodId} {below : List Frame} {meth : Method} {c : Code} (l : Launch) {b L : Nat} {xs : Nat → Int32} (hL : L ≤ 2048) (C0 : lw_At p s m meth c b L xs) {X : Lay} (hI : pw_I X) (hX : Dm X) (C : Cx p s m #[Value.ref b] c code 4 "PathFinderLaw" X) (hz : pw_z X = s.heap.size) : ∀ (d i : Nat) (w : Wd), i ≤ 2052 → L ≤ i + d → bo_f X w → MW p l e room_1 s m #[Value.ref b] below meth c X 4 600000 7302250 (lw_Z below #[Value.ref b] s) w 18 [some (.ref b), some (.ref (pw_a X 0 0)), some (.ref (pw_a X 20 0)), some (.int (nI i))] [] := by
  obtain ⟨hx, hb, hr, hml, hown, hts, hXs, hbl, hlocks, hgv⟩ := C0
  have hbz : ¬ pw_z X ≤ b := by rw [hz]; omega
  intro d
  induction d with
  | zero =>
    intro i w hi hd hbo
    refine pw_iload_n C d_LW_law_18 rfl ?_
    refine pw_aload_n C d_LW_law_19 rfl ?_
    refine pl_slen C hXs hbl hbz d_LW_law_20 ?_
    refine pw_iconst C d_LW_law_21 (v := 4) (by decide) ?_
    refine pw_isub C d_LW_law_22 ?_
    refine pw_icmp_gt C 389 d_LW_law_23 (by decide) (fun h23 => ?_) (fun h23 => ?_)
    · refine pw_iconst C d_LW_law_389 (v := 1) (by decide) ?_
      exact fun H locs ls h1 h2 h3 => va_forget (fun q hq => by have := h2.2.2 q hq; rw [hz] at this; exact this) (lw_ret hx hb hr hlocks d_LW_law_390)
    · exact absurd ((lw_t hi hL).mpr (by omega)) h23
  | succ d ih =>
    intro i w hi hd hbo
    by_cases hlt : L < i + 4
    · skip
      refine pw_iload_n C d_LW_law_18 rfl ?_
      refine pw_aload_n C d_LW_law_19 rfl ?_
      refine pl_slen C hXs hbl hbz d_LW_law_20 ?_
      refine pw_iconst C d_LW_law_21 (v := 4) (by decide) ?_
      refine pw_isub C d_LW_law_22 ?_
      refine pw_icmp_gt C 389 d_LW_law_23 (by decide) (fun h23 => ?_) (fun h23 => ?_)
      · refine pw_iconst C d_LW_law_389 (v := 1) (by decide) ?_
        exact fun H locs ls h1 h2 h3 => va_forget (fun q hq => by have := h2.2.2 q hq; rw [hz] at this; exact this) (lw_ret hx hb hr hlocks d_LW_law_390)
      · exact absurd ((lw_t hi hL).mpr hlt) h23
    · skip
      refine pw_iload_n C d_LW_law_18 rfl ?_
      refine pw_aload_n C d_LW_law_19 rfl ?_
      refine pl_slen C hXs hbl hbz d_LW_law_20 ?_
      refine pw_iconst C d_LW_law_21 (v := 4) (by decide) ?_
      refine pw_isub C d_LW_law_22 ?_
      refine pw_icmp_gt C 389 d_LW_law_23 (by decide) (fun h23 => ?_) (fun h23 => ?_)
      · exact absurd ((lw_t hi hL).mp h23) hlt
      refine pw_aload_n C d_LW_law_26 rfl ?_
      refine pw_iload_n C d_LW_law_27 rfl ?_
      refine pl_sld C hXs hbl hbz hL i rfl (by omega) d_LW_law_28 ?_
      refine pw_bipush C d_LW_law_29 (v := 15) (by decide) ?_
      refine pw_iand C d_LW_law_31 ?_
      obtain ⟨T, ne, wd, n, hp, hm⟩ := hbo
      obtain ⟨fs0, s0⟩ := pf_0 hp
      obtain ⟨j, hj, ej⟩ := lw_15 (xs i)
      rw [ej]
      rcases (show j = 0 ∨ j = 1 ∨ j = 2 ∨ j = 3 ∨ j = 4 ∨ j = 5 ∨ j = 6 ∨ j = 7 ∨ j = 8 ∨ j = 9 ∨ j = 10 ∨ j = 11 ∨ j = 12 ∨ j = 13 ∨ j = 14 ∨ j = 15 by omega) with rfl | rfl | rfl | rfl | rfl | rfl | rfl | rfl | rfl | rfl | rfl | rfl | rfl | rfl | rfl | rfl
      · refine pw_tableIn C 96 d_LW_law_32 (by decide) (by decide) (off := 64) (by decide) (by decide) ?_
        refine pw_aload_n C d_LW_law_96 rfl ?_
        refine pw_aload_n C d_LW_law_97 rfl ?_
        refine pw_iload_n C d_LW_law_98 rfl ?_
        refine pw_iconst C d_LW_law_99 (v := 1) (by decide) ?_
        refine pw_iadd C d_LW_law_100 ?_
        refine pl_sld C hXs hbl hbz hL (i + 1) (nI_add i 1) (by omega) d_LW_law_101 ?_
        refine pw_aload_n C d_LW_law_102 rfl ?_
        refine pw_iload_n C d_LW_law_103 rfl ?_
        refine pw_iconst C d_LW_law_104 (v := 2) (by decide) ?_
        refine pw_iadd C d_LW_law_105 ?_
        refine pl_sld C hXs hbl hbz hL (i + 2) (nI_add i 2) (by omega) d_LW_law_106 ?_
        refine pw_aload_n C d_LW_law_107 rfl ?_
        refine pw_iload_n C d_LW_law_108 rfl ?_
        refine pw_iconst C d_LW_law_109 (v := 3) (by decide) ?_
        refine pw_iadd C d_LW_law_110 ?_
        refine pl_sld C hXs hbl hbz hL (i + 3) (nI_add i 3) (by omega) d_LW_law_111 ?_
        refine pw_callVi C (k_PF_edge l hI hX w hp _ _ _) (hX 0 0 rfl) s0 rfl ⟨pw_cb C 3 W_143 W_1 W_140 ⟨rfl, rfl⟩ (by decide +kernel) ⟨(Nat.le_of_ble_eq_true rfl), (Nat.le_of_ble_eq_true rfl)⟩, pw_w C W_141, pw_w C W_142⟩ rfl rfl (Nat.le_of_ble_eq_true rfl) d_LW_law_112 ⟨(Nat.le_of_ble_eq_true rfl), (Nat.le_of_ble_eq_true rfl)⟩ (fun r1 w1 hp1 => ?_)
        obtain ⟨hf1, hp1⟩ := hp1
        have hm1 := mo_of hm hf1
        obtain ⟨tE, st, pt, lk, tb, rk, sp, hmw, hn, hTE, hrk⟩ := hm1
        refine pw_pop C d_LW_law_115 rfl ?_
        refine pw_aload_n C d_LW_law_116 rfl ?_
        refine pw_aload_n C d_LW_law_117 rfl ?_
        refine pw_iload_n C d_LW_law_118 rfl ?_
        refine pw_iconst C d_LW_law_119 (v := 1) (by decide) ?_
        refine pw_iadd C d_LW_law_120 ?_
        refine pl_sld C hXs hbl hbz hL (i + 1) (nI_add i 1) (by omega) d_LW_law_121 ?_
        refine pw_aload_n C d_LW_law_122 rfl ?_
        refine pw_iload_n C d_LW_law_123 rfl ?_
        refine pw_iconst C d_LW_law_124 (v := 2) (by decide) ?_
        refine pw_iadd C d_LW_law_125 ?_
        refine pl_sld C hXs hbl hbz hL (i + 2) (nI_add i 2) (by omega) d_LW_law_126 ?_
        refine pw_aload_n C d_LW_law_127 rfl ?_
        refine pw_iload_n C d_LW_law_128 rfl ?_
        refine pw_iconst C d_LW_law_129 (v := 3) (by decide) ?_
        refine pw_iadd C d_LW_law_130 ?_
        refine pl_sld C hXs hbl hbz hL (i + 3) (nI_add i 3) (by omega) d_LW_law_131 ?_
        refine MW.world hmw.symm ?_
        refine pw_callVi C (k_MO_edge l hI hX w1 _ _ _) (hX 20 0 rfl) rfl rfl ⟨pw_cb C 3 W_378 W_6 W_375 ⟨rfl, rfl⟩ (by decide +kernel) ⟨(Nat.le_of_ble_eq_true rfl), (Nat.le_of_ble_eq_true rfl)⟩, pw_w C W_376, pw_w C W_377⟩ rfl rfl (Nat.le_of_ble_eq_true rfl) d_LW_law_132 ⟨(Nat.le_of_ble_eq_true rfl), (Nat.le_of_ble_eq_true rfl)⟩ (fun r2 w2 hp2 => ?_)
        obtain ⟨hr, hbo⟩ := j_edge (v := true) (d := 1) Iff.rfl hp1 hmw hn hTE hrk hp2
        refine pw_pop C d_LW_law_135 rfl ?_
        refine pw_goto C 383 d_LW_law_136 (by decide) ?_
        refine pw_iinc C d_LW_law_383 rfl (by decide) ?_
        refine pw_goto C 18 d_LW_law_386 (by decide) ?_
        rw [show nI i + Int32.ofInt 4 = nI (i + 4) from nI_add i 4]
        exact ih (i + 4) w2 (by omega) (by omega) hbo
      · refine pw_tableIn C 139 d_LW_law_32 (by decide) (by decide) (off := 107) (by decide) (by decide) ?_
        refine pw_aload_n C d_LW_law_139 rfl ?_
        refine pw_aload_n C d_LW_law_140 rfl ?_
        refine pw_iload_n C d_LW_law_141 rfl ?_
        refine pw_iconst C d_LW_law_142 (v := 1) (by decide) ?_
        refine pw_iadd C d_LW_law_143 ?_
        refine pl_sld C hXs hbl hbz hL (i + 1) (nI_add i 1) (by omega) d_LW_law_144 ?_
        refine pw_aload_n C d_LW_law_145 rfl ?_
        refine pw_iload_n C d_LW_law_146 rfl ?_
        refine pw_iconst C d_LW_law_147 (v := 2) (by decide) ?_
        refine pw_iadd C d_LW_law_148 ?_
        refine pl_sld C hXs hbl hbz hL (i + 2) (nI_add i 2) (by omega) d_LW_law_149 ?_
        refine pw_aload_n C d_LW_law_150 rfl ?_
        refine pw_iload_n C d_LW_law_151 rfl ?_
        refine pw_iconst C d_LW_law_152 (v := 3) (by decide) ?_
        refine pw_iadd C d_LW_law_153 ?_
        refine pl_sld C hXs hbl hbz hL (i + 3) (nI_add i 3) (by omega) d_LW_law_154 ?_
        refine pw_callVi C (k_PF_drop l hI hX w hp _ _ _) (hX 0 0 rfl) s0 rfl ⟨pw_cb C 3 W_170 W_1 W_167 ⟨rfl, rfl⟩ (by decide +kernel) ⟨(Nat.le_of_ble_eq_true rfl), (Nat.le_of_ble_eq_true rfl)⟩, pw_w C W_168, pw_w C W_169⟩ rfl rfl (Nat.le_of_ble_eq_true rfl) d_LW_law_155 ⟨(Nat.le_of_ble_eq_true rfl), (Nat.le_of_ble_eq_true rfl)⟩ (fun r1 w1 hp1 => ?_)
        obtain ⟨hf1, hp1⟩ := hp1
        have hm1 := mo_of hm hf1
        obtain ⟨tE, st, pt, lk, tb, rk, sp, hmw, hn, hTE, hrk⟩ := hm1
        refine pw_pop C d_LW_law_158 rfl ?_
        refine pw_aload_n C d_LW_law_159 rfl ?_
        refine pw_aload_n C d_LW_law_160 rfl ?_
        refine pw_iload_n C d_LW_law_161 rfl ?_
        refine pw_iconst C d_LW_law_162 (v := 1) (by decide) ?_
        refine pw_iadd C d_LW_law_163 ?_
        refine pl_sld C hXs hbl hbz hL (i + 1) (nI_add i 1) (by omega) d_LW_law_164 ?_
        refine pw_aload_n C d_LW_law_165 rfl ?_
        refine pw_iload_n C d_LW_law_166 rfl ?_
        refine pw_iconst C d_LW_law_167 (v := 2) (by decide) ?_
        refine pw_iadd C d_LW_law_168 ?_
        refine pl_sld C hXs hbl hbz hL (i + 2) (nI_add i 2) (by omega) d_LW_law_169 ?_
        refine pw_aload_n C d_LW_law_170 rfl ?_
        refine pw_iload_n C d_LW_law_171 rfl ?_
        refine pw_iconst C d_LW_law_172 (v := 3) (by decide) ?_
        refine pw_iadd C d_LW_law_173 ?_
        refine pl_sld C hXs hbl hbz hL (i + 3) (nI_add i 3) (by omega) d_LW_law_174 ?_
        refine MW.world hmw.symm ?_
        refine pw_callVi C (k_MO_drop l hI hX w1 _ _ _) (hX 20 0 rfl) rfl rfl ⟨pw_cb C 3 W_391 W_6 W_388 ⟨rfl, rfl⟩ (by decide +kernel) ⟨(Nat.le_of_ble_eq_true rfl), (Nat.le_of_ble_eq_true rfl)⟩, pw_w C W_389, pw_w C W_390⟩ rfl rfl (Nat.le_of_ble_eq_true rfl) d_LW_law_175 ⟨(Nat.le_of_ble_eq_true rfl), (Nat.le_of_ble_eq_true rfl)⟩ (fun r2 w2 hp2 => ?_)
        obtain ⟨hr, hbo⟩ := j_edge (v := false) (d := -1) Iff.rfl hp1 hmw hn hTE hrk hp2
        refine pw_pop C d_LW_law_178 rfl ?_
        refine pw_goto C 383 d_LW_law_179 (by decide) ?_
        refine pw_iinc C d_LW_law_383 rfl (by decide) ?_
        refine pw_goto C 18 d_LW_law_386 (by decide) ?_
        rw [show nI i + Int32.ofInt 4 = nI (i + 4) from nI_add i 4]
        exact ih (i + 4) w2 (by omega) (by omega) hbo
      · refine pw_tableIn C 182 d_LW_law_32 (by decide) (by decide) (off := 150) (by decide) (by decide) ?_
        refine pw_aload_n C d_LW_law_182 rfl ?_
        refine pw_callVi C (k_PF_edges l hI hX w hp) (hX 0 0 rfl) s0 rfl ⟨pw_cb C 0 W_179 W_1 W_176 ⟨rfl, rfl⟩ (by decide +kernel) ⟨(Nat.le_of_ble_eq_true rfl), (Nat.le_of_ble_eq_true rfl)⟩, pw_w C W_177, pw_w C W_178⟩ rfl rfl (Nat.le_of_ble_eq_true rfl) d_LW_law_183 ⟨(Nat.le_of_ble_eq_true rfl), (Nat.le_of_ble_eq_true rfl)⟩ (fun r1 w1 hp1 => ?_)
        obtain ⟨hf1, hr1, hp1⟩ := hp1
        have hm1 := mo_of hm hf1
        obtain ⟨tE, st, pt, lk, tb, rk, sp, hmw, hn, hTE, hrk⟩ := hm1
        refine pw_pop C d_LW_law_186 rfl ?_
        refine pw_aload_n C d_LW_law_187 rfl ?_
        refine MW.world hmw.symm ?_
        refine pw_callVi C (k_MO_edges l hI hX w1) (hX 20 0 rfl) rfl rfl ⟨pw_cb C 0 W_395 W_6 W_392 ⟨rfl, rfl⟩ (by decide +kernel) ⟨(Nat.le_of_ble_eq_true rfl), (Nat.le_of_ble_eq_true rfl)⟩, pw_w C W_393, pw_w C W_394⟩ rfl rfl (Nat.le_of_ble_eq_true rfl) d_LW_law_188 ⟨(Nat.le_of_ble_eq_true rfl), (Nat.le_of_ble_eq_true rfl)⟩ (fun r2 w2 hp2 => ?_)
        obtain ⟨hr2, hw2⟩ := hp2
        have hr : r1 = r2 := hr1.trans hr2.symm
        have hbo : bo_f X w2 := by
          rw [hw2, hmw]
          exact ⟨T, ne, wd, n, hp1, tE, st, pt, lk, tb, rk, sp, hmw, hn, hTE, hrk⟩
        refine pw_pop C d_LW_law_191 rfl ?_
        refine pw_goto C 383 d_LW_law_192 (by decide) ?_
        refine pw_iinc C d_LW_law_383 rfl (by decide) ?_
        refine pw_goto C 18 d_LW_law_386 (by decide) ?_
        rw [show nI i + Int32.ofInt 4 = nI (i + 4) from nI_add i 4]
        exact ih (i + 4) w2 (by omega) (by omega) hbo
      · refine pw_tableIn C 195 d_LW_law_32 (by decide) (by decide) (off := 163) (by decide) (by decide) ?_
        refine pw_aload_n C d_LW_law_195 rfl ?_
        refine pw_aload_n C d_LW_law_196 rfl ?_
        refine pw_iload_n C d_LW_law_197 rfl ?_
        refine pw_iconst C d_LW_law_198 (v := 1) (by decide) ?_
        refine pw_iadd C d_LW_law_199 ?_
        refine pl_sld C hXs hbl hbz hL (i + 1) (nI_add i 1) (by omega) d_LW_law_200 ?_
        refine pw_callVi C (k_PF_word l hI hX w hp _) (hX 0 0 rfl) s0 rfl ⟨pw_cb C 1 W_183 W_1 W_180 ⟨rfl, rfl⟩ (by decide +kernel) ⟨(Nat.le_of_ble_eq_true rfl), (Nat.le_of_ble_eq_true rfl)⟩, pw_w C W_181, pw_w C W_182⟩ rfl rfl (Nat.le_of_ble_eq_true rfl) d_LW_law_201 ⟨(Nat.le_of_ble_eq_true rfl), (Nat.le_of_ble_eq_true rfl)⟩ (fun r1 w1 hp1 => ?_)
        obtain ⟨hf1, hp1⟩ := hp1
        have hm1 := mo_of hm hf1
        obtain ⟨tE, st, pt, lk, tb, rk, sp, hmw, hn, hTE, hrk⟩ := hm1
        refine pw_pop C d_LW_law_204 rfl ?_
        refine pw_aload_n C d_LW_law_205 rfl ?_
        refine pw_aload_n C d_LW_law_206 rfl ?_
        refine pw_iload_n C d_LW_law_207 rfl ?_
        refine pw_iconst C d_LW_law_208 (v := 1) (by decide) ?_
        refine pw_iadd C d_LW_law_209 ?_
        refine pl_sld C hXs hbl hbz hL (i + 1) (nI_add i 1) (by omega) d_LW_law_210 ?_
        refine MW.world hmw.symm ?_
        refine pw_callVi C (k_MO_word l hI hX w1 hn _) (hX 20 0 rfl) rfl rfl ⟨pw_cb C 1 W_399 W_6 W_396 ⟨rfl, rfl⟩ (by decide +kernel) ⟨(Nat.le_of_ble_eq_true rfl), (Nat.le_of_ble_eq_true rfl)⟩, pw_w C W_397, pw_w C W_398⟩ rfl rfl (Nat.le_of_ble_eq_true rfl) d_LW_law_211 ⟨(Nat.le_of_ble_eq_true rfl), (Nat.le_of_ble_eq_true rfl)⟩ (fun r2 w2 hp2 => ?_)
        have hj2 : r1 = r2 ∧ bo_f X w2 := by
          rcases hp1 with ⟨a1, b1, hp1⟩ | ⟨a1, b1, hp1⟩
          · rcases hp2 with ⟨a2, b2, hw2⟩ | ⟨a2, b2, hw2⟩
            · rw [hw2, hmw]
              exact ⟨b1.trans b2.symm, T, ne, wd, n, hp1, tE, st, pt, lk, tb, rk, sp, hmw, hn, hTE, hrk⟩
            · omega
          · rcases hp2 with ⟨a2, b2, hw2⟩ | ⟨a2, b2, hw2⟩
            · omega
            · rw [hw2]
              exact ⟨b1.trans b2.symm, T, ne, _, n + 1, pf_of hp1 (fun g hg => m_row (Or.inl (by omega))), tE, st, pt, lk, tb, 0, sp, m_idem, by omega, hTE, fun q => absurd rfl q⟩
        obtain ⟨hr, hbo⟩ := hj2
        refine pw_pop C d_LW_law_214 rfl ?_
        refine pw_goto C 383 d_LW_law_215 (by decide) ?_
        refine pw_iinc C d_LW_law_383 rfl (by decide) ?_
        refine pw_goto C 18 d_LW_law_386 (by decide) ?_
        rw [show nI i + Int32.ofInt 4 = nI (i + 4) from nI_add i 4]
        exact ih (i + 4) w2 (by omega) (by omega) hbo
      · refine pw_tableIn C 218 d_LW_law_32 (by decide) (by decide) (off := 186) (by decide) (by decide) ?_
        refine pw_aload_n C d_LW_law_218 rfl ?_
        refine pw_callVi C (k_PF_clear l hI hX w hp) (hX 0 0 rfl) s0 rfl ⟨pw_cb C 0 W_210 W_1 W_207 ⟨rfl, rfl⟩ (by decide +kernel) ⟨(Nat.le_of_ble_eq_true rfl), (Nat.le_of_ble_eq_true rfl)⟩, pw_w C W_208, pw_w C W_209⟩ rfl rfl (Nat.le_of_ble_eq_true rfl) d_LW_law_219 ⟨(Nat.le_of_ble_eq_true rfl), (Nat.le_of_ble_eq_true rfl)⟩ (fun r1 w1 hp1 => ?_)
        obtain ⟨hf1, hr1, hp1⟩ := hp1
        have hm1 := mo_of hm hf1
        obtain ⟨tE, st, pt, lk, tb, rk, sp, hmw, hn, hTE, hrk⟩ := hm1
        refine pw_pop C d_LW_law_222 rfl ?_
        refine pw_aload_n C d_LW_law_223 rfl ?_
        refine MW.world hmw.symm ?_
        refine pw_callVi C (k_MO_clear l hI hX w1) (hX 20 0 rfl) rfl rfl ⟨pw_cb C 0 W_403 W_6 W_400 ⟨rfl, rfl⟩ (by decide +kernel) ⟨(Nat.le_of_ble_eq_true rfl), (Nat.le_of_ble_eq_true rfl)⟩, pw_w C W_401, pw_w C W_402⟩ rfl rfl (Nat.le_of_ble_eq_true rfl) d_LW_law_224 ⟨(Nat.le_of_ble_eq_true rfl), (Nat.le_of_ble_eq_true rfl)⟩ (fun r2 w2 hp2 => ?_)
        obtain ⟨hr2, hw2⟩ := hp2
        have hr : r1 = r2 := hr1.trans hr2.symm
        have hbo : bo_f X w2 := by
          rw [hw2]
          exact ⟨T, ne, wd, 0, pf_of hp1 (fun g hg => m_row (Or.inl (by omega))), tE, st, pt, lk, tb, 0, sp, m_idem, Nat.zero_le _, hTE, fun q => absurd rfl q⟩
        refine pw_pop C d_LW_law_227 rfl ?_
        refine pw_goto C 383 d_LW_law_228 (by decide) ?_
        refine pw_iinc C d_LW_law_383 rfl (by decide) ?_
        refine pw_goto C 18 d_LW_law_386 (by decide) ?_
        rw [show nI i + Int32.ofInt 4 = nI (i + 4) from nI_add i 4]
        exact ih (i + 4) w2 (by omega) (by omega) hbo
      · refine pw_tableIn C 231 d_LW_law_32 (by decide) (by decide) (off := 199) (by decide) (by decide) ?_
        refine pw_aload_n C d_LW_law_231 rfl ?_
        refine pw_callVi C (k_PF_look l hI hX w hp) (hX 0 0 rfl) s0 rfl ⟨pw_cb C 0 W_218 W_1 W_215 ⟨rfl, rfl⟩ (by decide +kernel) ⟨(Nat.le_of_ble_eq_true rfl), (Nat.le_of_ble_eq_true rfl)⟩, pw_w C W_216, pw_w C W_217⟩ rfl rfl (Nat.le_of_ble_eq_true rfl) d_LW_law_232 ⟨(Nat.le_of_ble_eq_true rfl), (Nat.le_of_ble_eq_true rfl)⟩ (fun r1 w1 hp1 => ?_)
        obtain ⟨hf1, hr1, hp1⟩ := hp1
        have hm1 := mo_of hm hf1
        obtain ⟨tE, st, pt, lk, tb, rk, sp, hmw, hn, hTE, hrk⟩ := hm1
        refine pw_pop C d_LW_law_235 rfl ?_
        refine pw_aload_n C d_LW_law_236 rfl ?_
        refine MW.world hmw.symm ?_
        refine pw_callVi C (k_MO_look l hI hX w1 hn) (hX 20 0 rfl) rfl rfl ⟨pw_cb C 0 W_407 W_6 W_404 ⟨rfl, rfl⟩ (by decide +kernel) ⟨(Nat.le_of_ble_eq_true rfl), (Nat.le_of_ble_eq_true rfl)⟩, pw_w C W_405, pw_w C W_406⟩ rfl rfl (Nat.le_of_ble_eq_true rfl) d_LW_law_237 ⟨(Nat.le_of_ble_eq_true rfl), (Nat.le_of_ble_eq_true rfl)⟩ (fun r2 w2 hp2 => ?_)
        obtain ⟨st1, t1, lk1, hw2, hr2, -⟩ := hp2
        have hr : r1 = r2 := by
          rw [hr1, hr2]
          unfold cd_f lk_f
          rcases rd_f wd n 12 0 0 with ⟨ok, b, t⟩
          cases ok <;> rfl
        have hbo : bo_f X w2 := by
          rw [hw2]
          exact ⟨T, ne, wd, n, pf_of hp1 (fun g hg => m_row (Or.inl (by omega))), tE, st1, nI t1, lk1, tb, rk, sp, m_idem, hn, hTE, hrk⟩
        refine pw_pop C d_LW_law_240 rfl ?_
        refine pw_goto C 383 d_LW_law_241 (by decide) ?_
        refine pw_iinc C d_LW_law_383 rfl (by decide) ?_
        refine pw_goto C 18 d_LW_law_386 (by decide) ?_
        rw [show nI i + Int32.ofInt 4 = nI (i + 4) from nI_add i 4]
        exact ih (i + 4) w2 (by omega) (by omega) hbo
      · refine pw_tableIn C 244 d_LW_law_32 (by decide) (by decide) (off := 212) (by decide) (by decide) ?_
        refine pw_aload_n C d_LW_law_244 rfl ?_
        refine pw_aload_n C d_LW_law_245 rfl ?_
        refine pw_iload_n C d_LW_law_246 rfl ?_
        refine pw_iconst C d_LW_law_247 (v := 1) (by decide) ?_
        refine pw_iadd C d_LW_law_248 ?_
        refine pl_sld C hXs hbl hbz hL (i + 1) (nI_add i 1) (by omega) d_LW_law_249 ?_
        refine pw_aload_n C d_LW_law_250 rfl ?_
        refine pw_iload_n C d_LW_law_251 rfl ?_
        refine pw_iconst C d_LW_law_252 (v := 2) (by decide) ?_
        refine pw_iadd C d_LW_law_253 ?_
        refine pl_sld C hXs hbl hbz hL (i + 2) (nI_add i 2) (by omega) d_LW_law_254 ?_
        refine pw_callVl C (k_PF_times l hI hX w hp _ _) (hX 0 0 rfl) s0 rfl ⟨pw_cb C 2 W_222 W_1 W_219 ⟨rfl, rfl⟩ (by decide +kernel) ⟨(Nat.le_of_ble_eq_true rfl), (Nat.le_of_ble_eq_true rfl)⟩, pw_w C W_220, pw_w C W_221⟩ rfl rfl (Nat.le_of_ble_eq_true rfl) d_LW_law_255 ⟨(Nat.le_of_ble_eq_true rfl), (Nat.le_of_ble_eq_true rfl)⟩ (fun r1 w1 hp1 => ?_)
        obtain ⟨hf1, hp1, hr1⟩ := hp1
        have hm1 := mo_of hm hf1
        obtain ⟨fs9, hw20⟩ := mo_20 hm1
        refine pw_pop2 C d_LW_law_258 rfl ?_
        refine pw_aload_n C d_LW_law_259 rfl ?_
        refine pw_aload_n C d_LW_law_260 rfl ?_
        refine pw_iload_n C d_LW_law_261 rfl ?_
        refine pw_iconst C d_LW_law_262 (v := 1) (by decide) ?_
        refine pw_iadd C d_LW_law_263 ?_
        refine pl_sld C hXs hbl hbz hL (i + 1) (nI_add i 1) (by omega) d_LW_law_264 ?_
        refine pw_aload_n C d_LW_law_265 rfl ?_
        refine pw_iload_n C d_LW_law_266 rfl ?_
        refine pw_iconst C d_LW_law_267 (v := 2) (by decide) ?_
        refine pw_iadd C d_LW_law_268 ?_
        refine pl_sld C hXs hbl hbz hL (i + 2) (nI_add i 2) (by omega) d_LW_law_269 ?_
        refine pw_callVl C (k_MO_times l hI hX w1 hm1 _ _) (hX 20 0 rfl) hw20 rfl ⟨pw_cb C 2 W_414 W_6 W_411 ⟨rfl, rfl⟩ (by decide +kernel) ⟨(Nat.le_of_ble_eq_true rfl), (Nat.le_of_ble_eq_true rfl)⟩, pw_w C W_412, pw_w C W_413⟩ rfl rfl (Nat.le_of_ble_eq_true rfl) d_LW_law_270 ⟨(Nat.le_of_ble_eq_true rfl), (Nat.le_of_ble_eq_true rfl)⟩ (fun r2 w2 hp2 => ?_)
        obtain ⟨hf2, hm2, hr2⟩ := hp2
        have hbo : bo_f X w2 := ⟨T, ne, wd, n, pf_of hp1 (fun g hg => hf2 g (Or.inl (by omega))), hm2⟩
        have hr : r1 = r2 := j_two hr1 hr2
        refine pw_pop2 C d_LW_law_273 rfl ?_
        refine pw_goto C 383 d_LW_law_274 (by decide) ?_
        refine pw_iinc C d_LW_law_383 rfl (by decide) ?_
        refine pw_goto C 18 d_LW_law_386 (by decide) ?_
        rw [show nI i + Int32.ofInt 4 = nI (i + 4) from nI_add i 4]
        exact ih (i + 4) w2 (by omega) (by omega) hbo
      · refine pw_tableIn C 277 d_LW_law_32 (by decide) (by decide) (off := 245) (by decide) (by decide) ?_
        refine pw_aload_n C d_LW_law_277 rfl ?_
        refine pw_aload_n C d_LW_law_278 rfl ?_
        refine pw_iload_n C d_LW_law_279 rfl ?_
        refine pw_iconst C d_LW_law_280 (v := 1) (by decide) ?_
        refine pw_iadd C d_LW_law_281 ?_
        refine pl_sld C hXs hbl hbz hL (i + 1) (nI_add i 1) (by omega) d_LW_law_282 ?_
        refine pw_callVi C (k_PF_ends l hI hX w hp _) (hX 0 0 rfl) s0 rfl ⟨pw_cb C 1 W_308 W_1 W_305 ⟨rfl, rfl⟩ (by decide +kernel) ⟨(Nat.le_of_ble_eq_true rfl), (Nat.le_of_ble_eq_true rfl)⟩, pw_w C W_306, pw_w C W_307⟩ rfl rfl (Nat.le_of_ble_eq_true rfl) d_LW_law_283 ⟨(Nat.le_of_ble_eq_true rfl), (Nat.le_of_ble_eq_true rfl)⟩ (fun r1 w1 hp1 => ?_)
        obtain ⟨hf1, hp1, hr1⟩ := hp1
        have hm1 := mo_of hm hf1
        obtain ⟨fs9, hw20⟩ := mo_20 hm1
        refine pw_pop C d_LW_law_286 rfl ?_
        refine pw_aload_n C d_LW_law_287 rfl ?_
        refine pw_aload_n C d_LW_law_288 rfl ?_
        refine pw_iload_n C d_LW_law_289 rfl ?_
        refine pw_iconst C d_LW_law_290 (v := 1) (by decide) ?_
        refine pw_iadd C d_LW_law_291 ?_
        refine pl_sld C hXs hbl hbz hL (i + 1) (nI_add i 1) (by omega) d_LW_law_292 ?_
        refine pw_callVi C (k_MO_ends l hI hX w1 hm1 _) (hX 20 0 rfl) hw20 rfl ⟨pw_cb C 1 W_456 W_6 W_453 ⟨rfl, rfl⟩ (by decide +kernel) ⟨(Nat.le_of_ble_eq_true rfl), (Nat.le_of_ble_eq_true rfl)⟩, pw_w C W_454, pw_w C W_455⟩ rfl rfl (Nat.le_of_ble_eq_true rfl) d_LW_law_293 ⟨(Nat.le_of_ble_eq_true rfl), (Nat.le_of_ble_eq_true rfl)⟩ (fun r2 w2 hp2 => ?_)
        obtain ⟨hf2, hm2, hr2⟩ := hp2
        have hbo : bo_f X w2 := ⟨T, ne, wd, n, pf_of hp1 (fun g hg => hf2 g (Or.inl (by omega))), hm2⟩
        have hr : r1 = r2 := j_one hr1 hr2
        refine pw_pop C d_LW_law_296 rfl ?_
        refine pw_goto C 383 d_LW_law_297 (by decide) ?_
        refine pw_iinc C d_LW_law_383 rfl (by decide) ?_
        refine pw_goto C 18 d_LW_law_386 (by decide) ?_
        rw [show nI i + Int32.ofInt 4 = nI (i + 4) from nI_add i 4]
        exact ih (i + 4) w2 (by omega) (by omega) hbo
      · refine pw_tableIn C 300 d_LW_law_32 (by decide) (by decide) (off := 268) (by decide) (by decide) ?_
        refine pw_aload_n C d_LW_law_300 rfl ?_
        refine pw_aload_n C d_LW_law_301 rfl ?_
        refine pw_iload_n C d_LW_law_302 rfl ?_
        refine pw_iconst C d_LW_law_303 (v := 1) (by decide) ?_
        refine pw_iadd C d_LW_law_304 ?_
        refine pl_sld C hXs hbl hbz hL (i + 1) (nI_add i 1) (by omega) d_LW_law_305 ?_
        refine pw_callVl C (k_PF_reached l hI hX w hp _) (hX 0 0 rfl) s0 rfl ⟨pw_cb C 1 W_319 W_1 W_316 ⟨rfl, rfl⟩ (by decide +kernel) ⟨(Nat.le_of_ble_eq_true rfl), (Nat.le_of_ble_eq_true rfl)⟩, pw_w C W_317, pw_w C W_318⟩ rfl rfl (Nat.le_of_ble_eq_true rfl) d_LW_law_306 ⟨(Nat.le_of_ble_eq_true rfl), (Nat.le_of_ble_eq_true rfl)⟩ (fun r1 w1 hp1 => ?_)
        obtain ⟨hf1, hp1, hr1⟩ := hp1
        have hm1 := mo_of hm hf1
        obtain ⟨fs9, hw20⟩ := mo_20 hm1
        refine pw_pop2 C d_LW_law_309 rfl ?_
        refine pw_aload_n C d_LW_law_310 rfl ?_
        refine pw_aload_n C d_LW_law_311 rfl ?_
        refine pw_iload_n C d_LW_law_312 rfl ?_
        refine pw_iconst C d_LW_law_313 (v := 1) (by decide) ?_
        refine pw_iadd C d_LW_law_314 ?_
        refine pl_sld C hXs hbl hbz hL (i + 1) (nI_add i 1) (by omega) d_LW_law_315 ?_
        refine pw_callVl C (k_MO_reached l hI hX w1 hm1 _) (hX 20 0 rfl) hw20 rfl ⟨pw_cb C 1 W_460 W_6 W_457 ⟨rfl, rfl⟩ (by decide +kernel) ⟨(Nat.le_of_ble_eq_true rfl), (Nat.le_of_ble_eq_true rfl)⟩, pw_w C W_458, pw_w C W_459⟩ rfl rfl (Nat.le_of_ble_eq_true rfl) d_LW_law_316 ⟨(Nat.le_of_ble_eq_true rfl), (Nat.le_of_ble_eq_true rfl)⟩ (fun r2 w2 hp2 => ?_)
        obtain ⟨hf2, hm2, hr2⟩ := hp2
        have hbo : bo_f X w2 := ⟨T, ne, wd, n, pf_of hp1 (fun g hg => hf2 g (Or.inl (by omega))), hm2⟩
        refine pw_pop2 C d_LW_law_319 rfl ?_
        refine pw_goto C 383 d_LW_law_320 (by decide) ?_
        refine pw_iinc C d_LW_law_383 rfl (by decide) ?_
        refine pw_goto C 18 d_LW_law_386 (by decide) ?_
        rw [show nI i + Int32.ofInt 4 = nI (i + 4) from nI_add i 4]
        exact ih (i + 4) w2 (by omega) (by omega) hbo
      · refine pw_tableIn C 323 d_LW_law_32 (by decide) (by decide) (off := 291) (by decide) (by decide) ?_
        refine pw_aload_n C d_LW_law_323 rfl ?_
        refine pw_aload_n C d_LW_law_324 rfl ?_
        refine pw_iload_n C d_LW_law_325 rfl ?_
        refine pw_iconst C d_LW_law_326 (v := 1) (by decide) ?_
        refine pw_iadd C d_LW_law_327 ?_
        refine pl_sld C hXs hbl hbz hL (i + 1) (nI_add i 1) (by omega) d_LW_law_328 ?_
        refine pw_callVl C (k_PF_all l hI hX w hp _) (hX 0 0 rfl) s0 rfl ⟨pw_cb C 1 W_323 W_1 W_320 ⟨rfl, rfl⟩ (by decide +kernel) ⟨(Nat.le_of_ble_eq_true rfl), (Nat.le_of_ble_eq_true rfl)⟩, pw_w C W_321, pw_w C W_322⟩ rfl rfl (Nat.le_of_ble_eq_true rfl) d_LW_law_329 ⟨(Nat.le_of_ble_eq_true rfl), (Nat.le_of_ble_eq_true rfl)⟩ (fun r1 w1 hp1 => ?_)
        obtain ⟨hf1, hp1, hr1⟩ := hp1
        have hm1 := mo_of hm hf1
        obtain ⟨fs9, hw20⟩ := mo_20 hm1
        refine pw_pop2 C d_LW_law_332 rfl ?_
        refine pw_aload_n C d_LW_law_333 rfl ?_
        refine pw_aload_n C d_LW_law_334 rfl ?_
        refine pw_iload_n C d_LW_law_335 rfl ?_
        refine pw_iconst C d_LW_law_336 (v := 1) (by decide) ?_
        refine pw_iadd C d_LW_law_337 ?_
        refine pl_sld C hXs hbl hbz hL (i + 1) (nI_add i 1) (by omega) d_LW_law_338 ?_
        refine pw_callVl C (k_MO_all l hI hX w1 hm1 _) (hX 20 0 rfl) hw20 rfl ⟨pw_cb C 1 W_464 W_6 W_461 ⟨rfl, rfl⟩ (by decide +kernel) ⟨(Nat.le_of_ble_eq_true rfl), (Nat.le_of_ble_eq_true rfl)⟩, pw_w C W_462, pw_w C W_463⟩ rfl rfl (Nat.le_of_ble_eq_true rfl) d_LW_law_339 ⟨(Nat.le_of_ble_eq_true rfl), (Nat.le_of_ble_eq_true rfl)⟩ (fun r2 w2 hp2 => ?_)
        obtain ⟨hf2, hm2, hr2⟩ := hp2
        have hbo : bo_f X w2 := ⟨T, ne, wd, n, pf_of hp1 (fun g hg => hf2 g (Or.inl (by omega))), hm2⟩
        have hr : r1 = r2 := j_one hr1 hr2
        refine pw_pop2 C d_LW_law_342 rfl ?_
        refine pw_goto C 383 d_LW_law_343 (by decide) ?_
        refine pw_iinc C d_LW_law_383 rfl (by decide) ?_
        refine pw_goto C 18 d_LW_law_386 (by decide) ?_
        rw [show nI i + Int32.ofInt 4 = nI (i + 4) from nI_add i 4]
        exact ih (i + 4) w2 (by omega) (by omega) hbo
      · refine pw_tableIn C 346 d_LW_law_32 (by decide) (by decide) (off := 314) (by decide) (by decide) ?_
        refine pw_aload_n C d_LW_law_346 rfl ?_
        refine pw_aload_n C d_LW_law_347 rfl ?_
        refine pw_iload_n C d_LW_law_348 rfl ?_
        refine pw_iconst C d_LW_law_349 (v := 1) (by decide) ?_
        refine pw_iadd C d_LW_law_350 ?_
        refine pl_sld C hXs hbl hbz hL (i + 1) (nI_add i 1) (by omega) d_LW_law_351 ?_
        refine pw_callVl C (k_PF_reaching l hI hX w hp _) (hX 0 0 rfl) s0 rfl ⟨pw_cb C 1 W_328 W_1 W_325 ⟨rfl, rfl⟩ (by decide +kernel) ⟨(Nat.le_of_ble_eq_true rfl), (Nat.le_of_ble_eq_true rfl)⟩, pw_w C W_326, pw_w C W_327⟩ rfl rfl (Nat.le_of_ble_eq_true rfl) d_LW_law_352 ⟨(Nat.le_of_ble_eq_true rfl), (Nat.le_of_ble_eq_true rfl)⟩ (fun r1 w1 hp1 => ?_)
        obtain ⟨hf1, hp1, hr1⟩ := hp1
        have hm1 := mo_of hm hf1
        obtain ⟨fs9, hw20⟩ := mo_20 hm1
        refine pw_aload_n C d_LW_law_355 rfl ?_
        refine pw_aload_n C d_LW_law_356 rfl ?_
        refine pw_iload_n C d_LW_law_357 rfl ?_
        refine pw_iconst C d_LW_law_358 (v := 1) (by decide) ?_
        refine pw_iadd C d_LW_law_359 ?_
        refine pl_sld C hXs hbl hbz hL (i + 1) (nI_add i 1) (by omega) d_LW_law_360 ?_
        refine pw_callVl C (k_MO_reaching l hI hX w1 hm1 _) (hX 20 0 rfl) hw20 rfl ⟨pw_cb C 1 W_468 W_6 W_465 ⟨rfl, rfl⟩ (by decide +kernel) ⟨(Nat.le_of_ble_eq_true rfl), (Nat.le_of_ble_eq_true rfl)⟩, pw_w C W_466, pw_w C W_467⟩ rfl rfl (Nat.le_of_ble_eq_true rfl) d_LW_law_361 ⟨(Nat.le_of_ble_eq_true rfl), (Nat.le_of_ble_eq_true rfl)⟩ (fun r2 w2 hp2 => ?_)
        obtain ⟨hf2, hm2, hr2⟩ := hp2
        have hbo : bo_f X w2 := ⟨T, ne, wd, n, pf_of hp1 (fun g hg => hf2 g (Or.inl (by omega))), hm2⟩
        have hr : r1 = r2 := j_bits hr1 hr2
        refine pw_lcmp C d_LW_law_364 ?_
        refine pw_if_eq C 383 d_LW_law_365 (by decide) (fun h365 => ?_) (fun h365 => ?_)
        · refine pw_iinc C d_LW_law_383 rfl (by decide) ?_
          refine pw_goto C 18 d_LW_law_386 (by decide) ?_
          rw [show nI i + Int32.ofInt 4 = nI (i + 4) from nI_add i 4]
          exact ih (i + 4) w2 (by omega) (by omega) hbo
        · exact absurd ((lc_eq _ _).mpr hr) h365
      · refine pw_tableIn C 370 d_LW_law_32 (by decide) (by decide) (off := 338) (by decide) (by decide) ?_
        refine pw_aload_n C d_LW_law_370 rfl ?_
        refine pw_callVi C (k_PF_pairs l hI hX w hp) (hX 0 0 rfl) s0 rfl ⟨pw_cb C 0 W_334 W_1 W_331 ⟨rfl, rfl⟩ (by decide +kernel) ⟨(Nat.le_of_ble_eq_true rfl), (Nat.le_of_ble_eq_true rfl)⟩, pw_w C W_332, pw_w C W_333⟩ rfl rfl (Nat.le_of_ble_eq_true rfl) d_LW_law_371 ⟨(Nat.le_of_ble_eq_true rfl), (Nat.le_of_ble_eq_true rfl)⟩ (fun r1 w1 hp1 => ?_)
        obtain ⟨hf1, hp1, hr1⟩ := hp1
        have hm1 := mo_of hm hf1
        obtain ⟨fs9, hw20⟩ := mo_20 hm1
        refine pw_pop C d_LW_law_374 rfl ?_
        refine pw_aload_n C d_LW_law_375 rfl ?_
        refine pw_callVi C (k_MO_pairs l hI hX w1 hm1) (hX 20 0 rfl) hw20 rfl ⟨pw_cb C 0 W_472 W_6 W_469 ⟨rfl, rfl⟩ (by decide +kernel) ⟨(Nat.le_of_ble_eq_true rfl), (Nat.le_of_ble_eq_true rfl)⟩, pw_w C W_470, pw_w C W_471⟩ rfl rfl (Nat.le_of_ble_eq_true rfl) d_LW_law_376 ⟨(Nat.le_of_ble_eq_true rfl), (Nat.le_of_ble_eq_true rfl)⟩ (fun r2 w2 hp2 => ?_)
        obtain ⟨hf2, hm2, hr2⟩ := hp2
        have hbo : bo_f X w2 := ⟨T, ne, wd, n, pf_of hp1 (fun g hg => hf2 g (Or.inl (by omega))), hm2⟩
        have hr : r1 = r2 := j_none hr1 hr2
        refine pw_pop C d_LW_law_379 rfl ?_
        refine pw_goto C 383 d_LW_law_380 (by decide) ?_
        refine pw_iinc C d_LW_law_383 rfl (by decide) ?_
        refine pw_goto C 18 d_LW_law_386 (by decide) ?_
        rw [show nI i + Int32.ofInt 4 = nI (i + 4) from nI_add i 4]
        exact ih (i + 4) w2 (by omega) (by omega) hbo
      · refine pw_tableOut C 383 d_LW_law_32 (Or.inr (by decide)) (by decide) ?_
        refine pw_iinc C d_LW_law_383 rfl (by decide) ?_
        refine pw_goto C 18 d_LW_law_386 (by decide) ?_
        rw [show nI i + Int32.ofInt 4 = nI (i + 4) from nI_add i 4]
        exact ih (i + 4) w (by omega) (by omega) ⟨T, ne, wd, n, hp, hm⟩
      · refine pw_tableOut C 383 d_LW_law_32 (Or.inr (by decide)) (by decide) ?_
        refine pw_iinc C d_LW_law_383 rfl (by decide) ?_
        refine pw_goto C 18 d_LW_law_386 (by decide) ?_
        rw [show nI i + Int32.ofInt 4 = nI (i + 4) from nI_add i 4]
        exact ih (i + 4) w (by omega) (by omega) ⟨T, ne, wd, n, hp, hm⟩
      · refine pw_tableOut C 383 d_LW_law_32 (Or.inr (by decide)) (by decide) ?_
        refine pw_iinc C d_LW_law_383 rfl (by decide) ?_
        refine pw_goto C 18 d_LW_law_386 (by decide) ?_
        rw [show nI i + Int32.ofInt 4 = nI (i + 4) from nI_add i 4]
        exact ih (i + 4) w (by omega) (by omega) ⟨T, ne, wd, n, hp, hm⟩
      · refine pw_tableOut C 383 d_LW_law_32 (Or.inr (by decide)) (by decide) ?_
        refine pw_iinc C d_LW_law_383 rfl (by decide) ?_
        refine pw_goto C 18 d_LW_law_386 (by decide) ?_
        rw [show nI i + Int32.ofInt 4 = nI (i + 4) from nI_add i 4]
        exact ih (i + 4) w (by omega) (by omega) ⟨T, ne, wd, n, hp, hm⟩
