/-! THE REFERENCE: look, word by word, with what lacks at each depth -/
/-- the place of the part p, when all before it stands -/
def np_f (wd : Nat → Int32) : Nat → Nat
  | 0 => 0
  | p + 1 => if wd (np_f wd p) = 0 ∨ wd (np_f wd p) = 7 then np_f wd p + 2 else np_f wd p + 1
def rn_f (wd : Nat → Int32) (n d : Nat) : Nat → Nat → Nat → Bool × Nat × Nat
  | 0, a, t => (true, a, t)
  | c + 1, a, t => match rd_f wd n d a t with
    | (true, b, t1) => rn_f wd n d c b t1
    | (false, f, t1) => (false, f, t1)
def rt_f (wd : Nat → Int32) (n : Nat) (lk : Nat → Nat) : Nat → Nat → Nat → Nat → Bool × Nat × Nat
  | 0, _, a, t => (true, a, t)
  | D + 1, c, a, t => match rn_f wd n (12 - D) c a t with
    | (true, b, t1) => rt_f wd n lk D (lk D - 1) b t1
    | (false, f, t1) => (false, f, t1)
theorem rt_one (wd : Nat → Int32) (n : Nat) (lk : Nat → Nat) (D c a t : Nat) : rt_f wd n lk (D + 1) (c + 1) a t = match rd_f wd n (12 - D) a t with
    | (true, b, t1) => rt_f wd n lk (D + 1) c b t1
    | (false, f, t1) => (false, f, t1) := by
  show (match rn_f wd n (12 - D) (c + 1) a t with
    | (true, b, t1) => rt_f wd n lk D (lk D - 1) b t1
    | (false, f, t1) => (false, f, t1)) = _
  show (match (match rd_f wd n (12 - D) a t with
    | (true, b, t1) => rn_f wd n (12 - D) c b t1
    | (false, f, t1) => (false, f, t1)) with
    | (true, b, t1) => rt_f wd n lk D (lk D - 1) b t1
    | (false, f, t1) => (false, f, t1)) = _
  rcases rd_f wd n (12 - D) a t with ⟨ok, b, t1⟩
  cases ok <;> rfl
theorem rt_bad {wd : Nat → Int32} {n : Nat} {lk : Nat → Nat} {D c a t f t1 : Nat} (h : rd_f wd n (12 - D) a t = (false, f, t1)) : rt_f wd n lk (D + 1) (c + 1) a t = (false, f, t1) := by
  rw [rt_one, h]
theorem rt_ok {wd : Nat → Int32} {n : Nat} {lk : Nat → Nat} {D c a t b t1 : Nat} (h : rd_f wd n (12 - D) a t = (true, b, t1)) : rt_f wd n lk (D + 1) (c + 1) a t = rt_f wd n lk (D + 1) c b t1 := by
  rw [rt_one, h]
theorem rt_congr (wd : Nat → Int32) (n : Nat) (lk lk' : Nat → Nat) : ∀ (D c a t : Nat), (∀ j, j < D → lk j = lk' j) → rt_f wd n lk D c a t = rt_f wd n lk' D c a t
  | 0, _, _, _, _ => rfl
  | D + 1, c, a, t, h => by
    show (match rn_f wd n (12 - D) c a t with
    | (true, b, t1) => rt_f wd n lk D (lk D - 1) b t1
    | (false, f, t1) => (false, f, t1)) = (match rn_f wd n (12 - D) c a t with
    | (true, b, t1) => rt_f wd n lk' D (lk' D - 1) b t1
    | (false, f, t1) => (false, f, t1))
    rcases rn_f wd n (12 - D) c a t with ⟨ok, b, t1⟩
    cases ok with
    | false => rfl
    | true =>
      show rt_f wd n lk D (lk D - 1) b t1 = rt_f wd n lk' D (lk' D - 1) b t1
      rw [h D (by omega)]
      exact rt_congr wd n lk lk' D _ b t1 (fun j hj => h j (by omega))
/-- a part with parts in it: its parts are read next -/
theorem rd_ch {wd : Nat → Int32} {n d a t : Nat} (h : t < 40 ∧ a < n ∧ 0 ≤ wd a ∧ wd a ≤ 7) (h2 : ¬ (wd a = 0 ∨ wd a = 7)) : rd_f wd n (d + 1) a t = rn_f wd n d (ch_f (wd a)) (a + 1) (t + 1) := by
  rcases h1 : rd_f wd n d (a + 1) (t + 1) with ⟨ok1, b1, t2⟩
  by_cases c4 : wd a = 2 ∨ wd a = 3
  · have e : ch_f (wd a) = 1 + 1 := if_pos c4
    rw [e]
    show _ = (match rd_f wd n d (a + 1) (t + 1) with
      | (true, b, t1) => rn_f wd n d 1 b t1
      | (false, f, t1) => (false, f, t1))
    rw [h1]
    cases ok1 with
    | false => exact rd_f1 h h2 h1
    | true =>
      rw [rd_b h h2 h1 c4]
      show _ = (match rd_f wd n d b1 t2 with
        | (true, b, t1) => rn_f wd n d 0 b t1
        | (false, f, t1) => (false, f, t1))
      rcases rd_f wd n d b1 t2 with ⟨ok2, b2, t3⟩
      cases ok2 <;> rfl
  · have e : ch_f (wd a) = 0 + 1 := (if_neg c4).trans (if_neg h2)
    rw [e]
    show _ = (match rd_f wd n d (a + 1) (t + 1) with
      | (true, b, t1) => rn_f wd n d 0 b t1
      | (false, f, t1) => (false, f, t1))
    rw [h1]
    cases ok1 with
    | false => exact rd_f1 h h2 h1
    | true => exact rd_u h h2 h1 c4
theorem rt_ch {wd : Nat → Int32} {n : Nat} {lk : Nat → Nat} {D a t : Nat} (hD : D < 12) (h : t < 40 ∧ a < n ∧ 0 ≤ wd a ∧ wd a ≤ 7) (h2 : ¬ (wd a = 0 ∨ wd a = 7)) (hc : 1 ≤ lk (D + 1)) : rt_f wd n lk (D + 1) (lk (D + 1)) a t = rt_f wd n (va_up lk (D + 2) (ch_f (wd a))) (D + 2) (ch_f (wd a)) (a + 1) (t + 1) := by
  obtain ⟨c, hce⟩ : ∃ c, lk (D + 1) = c + 1 := ⟨lk (D + 1) - 1, by omega⟩
  obtain ⟨d, hd⟩ : ∃ d, 12 - D = d + 1 := ⟨12 - D - 1, by omega⟩
  have e1 : rd_f wd n (12 - D) a t = rn_f wd n (12 - (D + 1)) (ch_f (wd a)) (a + 1) (t + 1) := by
    rw [hd, rd_ch h h2, show 12 - (D + 1) = d by omega]
  rw [hce, rt_one, e1]
  show _ = (match rn_f wd n (12 - (D + 1)) (ch_f (wd a)) (a + 1) (t + 1) with
    | (true, b, t1) => rt_f wd n (va_up lk (D + 2) (ch_f (wd a))) (D + 1) (va_up lk (D + 2) (ch_f (wd a)) (D + 1) - 1) b t1
    | (false, f, t1) => (false, f, t1))
  rcases rn_f wd n (12 - (D + 1)) (ch_f (wd a)) (a + 1) (t + 1) with ⟨ok, b, t1⟩
  cases ok with
  | false => rfl
  | true =>
    show rt_f wd n lk (D + 1) c b t1 = rt_f wd n (va_up lk (D + 2) (ch_f (wd a))) (D + 1) (va_up lk (D + 2) (ch_f (wd a)) (D + 1) - 1) b t1
    rw [vu_ne (by omega), hce]
    exact rt_congr wd n _ _ (D + 1) _ b t1 (fun j hj => (vu_ne (by omega)).symm)
def cd_f (n : Nat) (res : Bool × Nat × Nat) : Int32 := match res with
  | (true, b, _) => if b < n then -100 - nI b else 0
  | (false, f, _) => -100 - nI f
def lo_post (X : Lay) (w : Wd) (tE : Nat → Bool) (cnt : Int32) (wd : Nat → Int32) (n : Nat) (tb : Nat → Int64) (rk : Int32) (sp : Nat → Int64) (res : Bool × Nat × Nat) (r : Int32) (w1 : Wd) : Prop :=
  ∃ st1 t1 lk1, w1 = m_w X w tE cnt wd (nI n) st1 (nI t1) lk1 tb rk sp ∧ r = cd_f n res ∧ (res.1 = true → t1 = res.2.2 ∧ ∀ p, p < t1 → st1 p = nI (np_f wd p))
set_option maxHeartbeats 4000000 in
set_option maxRecDepth 100000 in
theorem k_MO_look (l : Launch) {X : Lay} (hI : pw_I X) (hX : Dm X) (w : Wd) {tE : Nat → Bool} {cnt pt rk : Int32} {wd st lk : Nat → Int32} {tb sp : Nat → Int64} {n : Nat} (hn : n ≤ 60) : CtI l y_MO_look (pw_ws y_MO_look c_MO_look 4 (some .int)) { frames := 1, cells := 0, slots := 0, locals := 20 } X (m_w X w tE cnt wd (nI n) st pt lk tb rk sp) [.ref (pw_a X 20 0)] (lo_post X w tE cnt wd n tb rk sp (rd_f wd n 12 0 0)) := by
  refine pw_open (by decide) hI [some (.ref (pw_a X 20 0)), none, none, none] rfl (Nat.le_of_ble_eq_true rfl) ?_
  intro zp ze zs zm za zb zt zc hargs C zr zk hnm
  have HD : ∀ (a t : Nat) (st lk : Nat → Int32) (lc : Nat → Nat), a ≤ n → (∀ p, p < t → st p = nI (np_f wd p)) → MW zp l ze ({ frames := 1, cells := 0, slots := 0, locals := 20 } : Room) zs zm za zb zt zc X 4 0 0 (MQ zb (va_Qi (lo_post X w tE cnt wd n tb rk sp (true, a, t)) (pw_B X) (pw_F X)) za zs 0 0 (pw_F X)) (m_w X w tE cnt wd (nI n) st (nI t) lk tb rk sp) 16 [some (.ref (pw_a X 20 0)), some (.int (nI a)), some (.int (nI 0)), none] [] := by
    intro a t st lk lc han hst
    refine pw_iload_n C d_MO_look_16 rfl ?_
    refine pw_if_le C 229 d_MO_look_17 (by decide) (fun h17 => ?_) (fun h17 => ?_)
    · refine pw_iload_n C d_MO_look_229 rfl ?_
      refine pw_aload_n C d_MO_look_230 rfl ?_
      refine pw_get C d_MO_look_231 (hX 20 0 rfl) rfl 3 rfl rfl (by decide) in_MO W_346 rfl ?_
      refine pw_icmp_ge C 244 d_MO_look_234 (by decide) (fun h234 => ?_) (fun h234 => ?_)
      · refine pw_iconst C d_MO_look_244 (v := 0) (by decide) ?_
        refine pw_iret C zr zk d_MO_look_245 ?_
        refine ⟨st, t, lk, rfl, ?_, fun _ => ⟨rfl, hst⟩⟩
        have : ¬ a < n := fun q => absurd h234 (nI_ge q (by omega))
        exact (if_neg this).symm
      · refine pw_bipush C d_MO_look_237 (v := -100) (by decide) ?_
        refine pw_iload_n C d_MO_look_239 rfl ?_
        refine pw_isub C d_MO_look_240 ?_
        refine pw_goto C 245 d_MO_look_241 (by decide) ?_
        refine pw_iret C zr zk d_MO_look_245 ?_
        refine ⟨st, t, lk, rfl, ?_, fun _ => ⟨rfl, hst⟩⟩
        have : a < n := Nat.not_le.mp (fun q => h234 (nI_le q (by omega)))
        exact (if_pos this).symm
    · exact absurd (show nI 0 ≤ 0 by decide) h17
  have HI : ∀ (a t : Nat), a ≤ n → (∀ (D : Nat) (st lk : Nat → Int32) (lc : Nat → Nat), 1 ≤ D → D ≤ 13 → 1 ≤ lc D → (∀ j, 1 ≤ j → j ≤ D → lc j ≤ 2) → (∀ j, 1 ≤ j → j ≤ D → lk j = nI (lc j)) → (∀ j, 1 ≤ j → j < D → 1 ≤ lc j) → (∀ p, p < t → st p = nI (np_f wd p)) → MW zp l ze ({ frames := 1, cells := 0, slots := 0, locals := 20 } : Room) zs zm za zb zt zc X 4 0 0 (MQ zb (va_Qi (lo_post X w tE cnt wd n tb rk sp (rt_f wd n lc D (lc D) a t)) (pw_B X) (pw_F X)) za zs 0 0 (pw_F X)) (m_w X w tE cnt wd (nI n) st (nI t) lk tb rk sp) 16 [some (.ref (pw_a X 20 0)), some (.int (nI a)), some (.int (nI D)), none] []) → ∀ (D : Nat) (st lk : Nat → Int32) (lc : Nat → Nat), D ≤ 13 → (∀ j, 1 ≤ j → j ≤ D → lc j ≤ 2) → (∀ j, 1 ≤ j → j ≤ D → lk j = nI (lc j)) → (∀ j, 1 ≤ j → j < D → 1 ≤ lc j) → (∀ p, p < t → st p = nI (np_f wd p)) → MW zp l ze ({ frames := 1, cells := 0, slots := 0, locals := 20 } : Room) zs zm za zb zt zc X 4 0 0 (MQ zb (va_Qi (lo_post X w tE cnt wd n tb rk sp (rt_f wd n lc D (lc D) a t)) (pw_B X) (pw_F X)) za zs 0 0 (pw_F X)) (m_w X w tE cnt wd (nI n) st (nI t) lk tb rk sp) 193 [some (.ref (pw_a X 20 0)), some (.int (nI a)), some (.int (nI D)), none] [] := by
    intro a t han hhead D
    induction D with
    | zero =>
      intro st lk lc hD13 hc2 hl1 hl2 hst
      refine pw_iload_n C d_MO_look_193 rfl ?_
      refine pw_if_le C 226 d_MO_look_194 (by decide) (fun h194 => ?_) (fun h194 => ?_)
      · refine pw_goto C 16 d_MO_look_226 (by decide) ?_
        exact HD a t st lk lc han hst
      · exact absurd (show nI 0 ≤ 0 by decide) h194
    | succ D ih =>
      intro st lk lc hD13 hc2 hl1 hl2 hst
      have hlD : lk (D + 1) = nI (lc (D + 1)) := hl1 (D + 1) (by omega) (Nat.le_refl _)
      refine pw_iload_n C d_MO_look_193 rfl ?_
      refine pw_if_le C 226 d_MO_look_194 (by decide) (fun h194 => ?_) (fun h194 => ?_)
      · exact absurd h194 (nI_nle (by omega) (by omega))
      refine pw_aload_n C d_MO_look_197 rfl ?_
      refine pw_get C d_MO_look_198 (hX 20 0 rfl) rfl 6 rfl rfl (by decide) in_MO W_349 rfl ?_
      refine pw_iload_n C d_MO_look_201 rfl ?_
      refine pw_ialdK C d_MO_look_202 (hX 24 0 rfl) rfl (by omega) ?_
      rw [hlD]
      refine pw_if_ne C 226 d_MO_look_203 (by decide) (fun h203 => ?_) (fun h203 => ?_)
      · refine pw_goto C 16 d_MO_look_226 (by decide) ?_
        have hnz : 1 ≤ lc (D + 1) := by
          rcases Nat.eq_zero_or_pos (lc (D + 1)) with q | q
          · rw [q] at h203; exact absurd rfl h203
          · exact q
        exact MW.less (lv' := [some (.ref (pw_a X 20 0)), some (.int (nI a)), some (.int (nI (D + 1))), none]) (by intro i v h; rcases i with _ | _ | _ | _ | i <;> first | exact h | (simp at h)) (hhead (D + 1) st lk lc (by omega) hD13 hnz hc2 hl1 hl2 hst)
      · refine pw_iinc C d_MO_look_206 rfl (by decide) ?_
        rw [show nI (D + 1) + Int32.ofInt (-1) = nI D from by rw [show Int32.ofInt (-1) = -1 from by decide]; exact pk_m1 D]
        refine pw_iload_n C d_MO_look_209 rfl ?_
        refine pw_if_le C 193 d_MO_look_210 (by decide) (fun h210 => ?_) (fun h210 => ?_)
        · have hD0 : D = 0 := by
            rcases Nat.eq_zero_or_pos D with q | q
            · exact q
            · exact absurd h210 (nI_nle q (by omega))
          subst hD0
          have hz : lc (0 + 1) = 0 := by
            rcases Nat.eq_zero_or_pos (lc (0 + 1)) with q | q
            · exact q
            · exact absurd h203 (nI_ne0 q (Nat.lt_of_le_of_lt (hc2 _ (by omega) (Nat.le_refl _)) (by decide)))
          have := ih st lk lc (by omega) (fun j h1 h2 => absurd h2 (by omega)) (fun j h1 h2 => absurd h2 (by omega)) (fun j h1 h2 => absurd h2 (by omega)) hst
          rw [hz]
          exact this
        · refine pw_aload_n C d_MO_look_213 rfl ?_
          refine pw_get C d_MO_look_214 (hX 20 0 rfl) rfl 6 rfl rfl (by decide) in_MO W_349 rfl ?_
          refine pw_iload_n C d_MO_look_217 rfl ?_
          refine pw_dup2 C d_MO_look_218 rfl rfl ?_
          refine pw_ialdK C d_MO_look_219 (hX 24 0 rfl) rfl (by omega) ?_
          refine pw_iconst C d_MO_look_220 (v := 1) (by decide) ?_
          refine pw_isub C d_MO_look_221 ?_
          refine pw_iastK C d_MO_look_222 (hX 24 0 rfl) rfl (by omega) ?_
          refine pw_goto C 193 d_MO_look_223 (by decide) ?_
          have hDp : 1 ≤ D := by
            rcases Nat.eq_zero_or_pos D with q | q
            · subst q; exact absurd (show nI 0 ≤ 0 by decide) h210
            · exact q
          have hz : lc (D + 1) = 0 := by
            rcases Nat.eq_zero_or_pos (lc (D + 1)) with q | q
            · exact q
            · exact absurd h203 (nI_ne0 q (Nat.lt_of_le_of_lt (hc2 _ (by omega) (Nat.le_refl _)) (by decide)))
          have hd1 := hl2 D hDp (by omega)
          rw [hl1 D hDp (by omega)]
          obtain ⟨c, hc⟩ : ∃ c, lc D = c + 1 := ⟨lc D - 1, by omega⟩
          rw [hc, nI_pred]
          refine MW.world m_u24 ?_
          have e : rt_f wd n lc (D + 1) (lc (D + 1)) a t = rt_f wd n (va_up lc D c) D (va_up lc D c D) a t := by
            rw [hz, vu_self]
            show rt_f wd n lc D (lc D - 1) a t = _
            rw [hc, Nat.add_sub_cancel]
            exact rt_congr wd n _ _ D c a t (fun j hj => (vu_ne (by omega)).symm)
          rw [e]
          refine ih st _ (va_up lc D c) (by omega) (fun j h1 h2 => ?_) (fun j h1 h2 => ?_) (fun j h1 h2 => ?_) hst
          · by_cases q : j = D
            · subst q; rw [vu_self]; have := hc2 j h1 (by omega); omega
            · rw [vu_ne q]; exact hc2 j h1 (by omega)
          · by_cases q : j = D
            · subst q; rw [pk_us, vu_self]
            · rw [pk_un q, vu_ne q]; exact hl1 j h1 (by omega)
          · rw [vu_ne (by omega)]; exact hl2 j h1 (by omega)
  have HH : ∀ (e : Nat) (a t : Nat), a ≤ n → n ≤ a + e → t ≤ 40 → a = np_f wd t → ∀ (D : Nat) (st lk : Nat → Int32) (lc : Nat → Nat), 1 ≤ D → D ≤ 13 → 1 ≤ lc D → (∀ j, 1 ≤ j → j ≤ D → lc j ≤ 2) → (∀ j, 1 ≤ j → j ≤ D → lk j = nI (lc j)) → (∀ j, 1 ≤ j → j < D → 1 ≤ lc j) → (∀ p, p < t → st p = nI (np_f wd p)) → MW zp l ze ({ frames := 1, cells := 0, slots := 0, locals := 20 } : Room) zs zm za zb zt zc X 4 0 0 (MQ zb (va_Qi (lo_post X w tE cnt wd n tb rk sp (rt_f wd n lc D (lc D) a t)) (pw_B X) (pw_F X)) za zs 0 0 (pw_F X)) (m_w X w tE cnt wd (nI n) st (nI t) lk tb rk sp) 16 [some (.ref (pw_a X 20 0)), some (.int (nI a)), some (.int (nI D)), none] [] := by
    intro e
    induction e with
    | zero =>
      intro a t han hne ht40 hnp D st lk lc hD1 hD13 hc1 hc2 hl1 hl2 hst
      have hae : a = n := by omega
      obtain ⟨D0, rfl⟩ : ∃ D0, D = D0 + 1 := ⟨D - 1, by omega⟩
      obtain ⟨c0, hc0⟩ : ∃ c0, lc (D0 + 1) = c0 + 1 := ⟨lc (D0 + 1) - 1, by omega⟩
      have hbad : rd_f wd n (12 - D0) a t = (false, a, t) := by
        cases h12 : 12 - D0 with
        | zero => rfl
        | succ d => exact rd_no (fun q => by omega)
      refine pw_iload_n C d_MO_look_16 rfl ?_
      refine pw_if_le C 229 d_MO_look_17 (by decide) (fun h17 => ?_) (fun h17 => ?_)
      · exact absurd h17 (nI_nle (by omega) (by omega))
      refine pw_iload_n C d_MO_look_20 rfl ?_
      refine pw_aload_n C d_MO_look_21 rfl ?_
      refine pw_get C d_MO_look_22 (hX 20 0 rfl) rfl 3 rfl rfl (by decide) in_MO W_346 rfl ?_
      refine pw_icmp_ne C 36 d_MO_look_25 (by decide) (fun h25 => ?_) (fun h25 => ?_)
      · exact absurd (by rw [hae]) h25
      refine pw_bipush C d_MO_look_28 (v := -100) (by decide) ?_
      refine pw_aload_n C d_MO_look_30 rfl ?_
      refine pw_get C d_MO_look_31 (hX 20 0 rfl) rfl 3 rfl rfl (by decide) in_MO W_346 rfl ?_
      refine pw_isub C d_MO_look_34 ?_
      refine pw_iret C zr zk d_MO_look_35 ?_
      rw [hc0, rt_bad hbad]
      exact ⟨st, t, lk, rfl, by rw [hae]; rfl, fun q => (by cases q)⟩
    | succ e ihe =>
      intro a t han hne ht40 hnp D st lk lc hD1 hD13 hc1 hc2 hl1 hl2 hst
      obtain ⟨D0, rfl⟩ : ∃ D0, D = D0 + 1 := ⟨D - 1, by omega⟩
      obtain ⟨c0, hc0⟩ : ∃ c0, lc (D0 + 1) = c0 + 1 := ⟨lc (D0 + 1) - 1, by omega⟩
      have hbadw : ¬ (t < 40 ∧ a < n ∧ 0 ≤ wd a ∧ wd a ≤ 7) ∨ D0 = 12 → rd_f wd n (12 - D0) a t = (false, a, t) := by
        intro q
        cases h12 : 12 - D0 with
        | zero => rfl
        | succ d => exact rd_no (fun z => q.elim (fun q => q z) (fun q => by omega))
      refine pw_iload_n C d_MO_look_16 rfl ?_
      refine pw_if_le C 229 d_MO_look_17 (by decide) (fun h17 => ?_) (fun h17 => ?_)
      · exact absurd h17 (nI_nle (by omega) (by omega))
      refine pw_iload_n C d_MO_look_20 rfl ?_
      refine pw_aload_n C d_MO_look_21 rfl ?_
      refine pw_get C d_MO_look_22 (hX 20 0 rfl) rfl 3 rfl rfl (by decide) in_MO W_346 rfl ?_
      refine pw_icmp_ne C 36 d_MO_look_25 (by decide) (fun h25 => ?_) (fun h25 => ?_)
      · have hlt : a < n := by
          rcases Nat.lt_or_ge a n with q | q
          · exact q
          · exact absurd (by rw [show a = n by omega]) h25
        refine pw_aload_n C d_MO_look_36 rfl ?_
        refine pw_get C d_MO_look_37 (hX 20 0 rfl) rfl 2 rfl rfl (by decide) in_MO W_345 rfl ?_
        refine pw_iload_n C d_MO_look_40 rfl ?_
        refine pw_ialdK C d_MO_look_41 (hX 22 0 rfl) rfl (by omega) ?_
        refine pw_istore_n C d_MO_look_42 (by decide) ?_
        refine pw_iload_n C d_MO_look_43 rfl ?_
        refine pw_if_lt C 68 d_MO_look_44 (by decide) (fun h44 => ?_) (fun h44 => ?_)
        · refine pw_bipush C d_MO_look_68 (v := -100) (by decide) ?_
          refine pw_iload_n C d_MO_look_70 rfl ?_
          refine pw_isub C d_MO_look_71 ?_
          refine pw_iret C zr zk d_MO_look_72 ?_
          rw [hc0, rt_bad (hbadw (Or.inl (fun q => Int32.not_lt.mpr q.2.2.1 h44)))]
          exact ⟨st, t, lk, rfl, rfl, fun q => (by cases q)⟩
        · refine pw_iload_n C d_MO_look_47 rfl ?_
          refine pw_bipush C d_MO_look_48 (v := 7) (by decide) ?_
          refine pw_icmp_gt C 68 d_MO_look_50 (by decide) (fun h50 => ?_) (fun h50 => ?_)
          · refine pw_bipush C d_MO_look_68 (v := -100) (by decide) ?_
            refine pw_iload_n C d_MO_look_70 rfl ?_
            refine pw_isub C d_MO_look_71 ?_
            refine pw_iret C zr zk d_MO_look_72 ?_
            rw [hc0, rt_bad (hbadw (Or.inl (fun q => Int32.not_lt.mpr q.2.2.2 h50)))]
            exact ⟨st, t, lk, rfl, rfl, fun q => (by cases q)⟩
          · refine pw_aload_n C d_MO_look_53 rfl ?_
            refine pw_get C d_MO_look_54 (hX 20 0 rfl) rfl 5 rfl rfl (by decide) in_MO W_348 rfl ?_
            refine pw_bipush C d_MO_look_57 (v := 40) (by decide) ?_
            refine pw_icmp_eq C 68 d_MO_look_59 (by decide) (fun h59 => ?_) (fun h59 => ?_)
            · refine pw_bipush C d_MO_look_68 (v := -100) (by decide) ?_
              refine pw_iload_n C d_MO_look_70 rfl ?_
              refine pw_isub C d_MO_look_71 ?_
              refine pw_iret C zr zk d_MO_look_72 ?_
              rw [hc0, rt_bad (hbadw (Or.inl (fun q => by have := (nI_eq (a := t) (b := 40) (by omega) (by decide)).mp h59; omega)))]
              exact ⟨st, t, lk, rfl, rfl, fun q => (by cases q)⟩
            · refine pw_iload_n C d_MO_look_62 rfl ?_
              refine pw_bipush C d_MO_look_63 (v := 12) (by decide) ?_
              refine pw_icmp_le C 73 d_MO_look_65 (by decide) (fun h65 => ?_) (fun h65 => ?_)
              · have hok : t < 40 ∧ a < n ∧ 0 ≤ wd a ∧ wd a ≤ 7 := ⟨by
                    rcases Nat.lt_or_ge t 40 with q | q
                    · exact q
                    · exact absurd (by rw [show t = 40 by omega]; rfl) h59, hlt, Int32.not_lt.mp h44, Int32.not_lt.mp h50⟩
                have hD12 : D0 + 1 ≤ 12 := (nI_leI (b := 12) (by omega) (by decide)).mp h65
                obtain ⟨d, hd⟩ : ∃ d, 12 - D0 = d + 1 := ⟨12 - D0 - 1, by omega⟩
                refine pw_aload_n C d_MO_look_73 rfl ?_
                refine pw_get C d_MO_look_74 (hX 20 0 rfl) rfl 4 rfl rfl (by decide) in_MO W_347 rfl ?_
                refine pw_aload_n C d_MO_look_77 rfl ?_
                refine pw_get C d_MO_look_78 (hX 20 0 rfl) rfl 5 rfl rfl (by decide) in_MO W_348 rfl ?_
                refine pw_iload_n C d_MO_look_81 rfl ?_
                refine pw_iastK C d_MO_look_82 (hX 23 0 rfl) rfl (by omega) ?_
                refine MW.world m_u23 ?_
                refine pw_aload_n C d_MO_look_83 rfl ?_
                refine pw_dup C d_MO_look_84 rfl ?_
                refine pw_get C d_MO_look_85 (hX 20 0 rfl) rfl 5 rfl rfl (by decide) in_MO W_348 rfl ?_
                refine pw_iconst C d_MO_look_88 (v := 1) (by decide) ?_
                refine pw_iadd C d_MO_look_89 ?_
                refine pw_put C d_MO_look_90 (hX 20 0 rfl) rfl 5 (Nat.le_of_ble_eq_true rfl) rfl (by decide) in_MO t_MO tk_MO n_MO W_348 rfl rfl (tk_MO 5 (by decide)) rfl rfl ?_
                refine MW.world m_u20 ?_
                rw [nI_1]
                have hst2 : ∀ p, p < t + 1 → upd st t (nI a) p = nI (np_f wd p) := fun p hp => by
                  by_cases q : p = t
                  · subst q; rw [pk_us, hnp]
                  · rw [pk_un q]; exact hst p (by omega)
                refine pw_iinc1 C d_MO_look_93 rfl (by decide) ?_
                refine pw_iload_n C d_MO_look_96 rfl ?_
                refine pw_if_eq C 106 d_MO_look_97 (by decide) (fun h97 => ?_) (fun h97 => ?_)
                · have hleaf : wd a = 0 ∨ wd a = 7 := Or.inl h97
                  have hlim : (if wd a = 0 then 7 else 255 : Int32) = 7 := if_pos h97
                  have hrl := rd_leaf (d := d) hok hleaf
                  rw [← hd] at hrl
                  refine pw_iload_n C d_MO_look_106 rfl ?_
                  refine pw_aload_n C d_MO_look_107 rfl ?_
                  refine pw_get C d_MO_look_108 (hX 20 0 rfl) rfl 3 rfl rfl (by decide) in_MO W_346 rfl ?_
                  refine pw_icmp_ne C 122 d_MO_look_111 (by decide) (fun h111 => ?_) (fun h111 => ?_)
                  · have hlt1 : a + 1 < n := by
                      rcases Nat.lt_or_ge (a + 1) n with q | q
                      · exact q
                      · exact absurd (by rw [show a + 1 = n by omega]) h111
                    refine pw_aload_n C d_MO_look_122 rfl ?_
                    refine pw_get C d_MO_look_123 (hX 20 0 rfl) rfl 2 rfl rfl (by decide) in_MO W_345 rfl ?_
                    refine pw_iload_n C d_MO_look_126 rfl ?_
                    refine pw_ialdK C d_MO_look_127 (hX 22 0 rfl) rfl (by omega) ?_
                    refine pw_if_lt C 152 d_MO_look_128 (by decide) (fun h128 => ?_) (fun h128 => ?_)
                    · refine pw_bipush C d_MO_look_152 (v := -100) (by decide) ?_
                      refine pw_iload_n C d_MO_look_154 rfl ?_
                      refine pw_isub C d_MO_look_155 ?_
                      refine pw_iret C zr zk d_MO_look_156 ?_
                      rw [hc0, rt_bad (hrl.trans (if_neg (fun q => Int32.not_lt.mpr q.2.1 h128)))]
                      exact ⟨_, _, _, rfl, rfl, fun q => (by cases q)⟩
                    · refine pw_aload_n C d_MO_look_131 rfl ?_
                      refine pw_get C d_MO_look_132 (hX 20 0 rfl) rfl 2 rfl rfl (by decide) in_MO W_345 rfl ?_
                      refine pw_iload_n C d_MO_look_135 rfl ?_
                      refine pw_ialdK C d_MO_look_136 (hX 22 0 rfl) rfl (by omega) ?_
                      refine pw_iload_n C d_MO_look_137 rfl ?_
                      refine pw_if_ne C 146 d_MO_look_138 (by decide) (fun h138 => ?_) (fun h138 => ?_)
                      · exact absurd h97 h138
                      refine pw_bipush C d_MO_look_141 (v := 7) (by decide) ?_
                      refine pw_goto C 149 d_MO_look_143 (by decide) ?_
                      refine pw_icmp_le C 157 d_MO_look_149 (by decide) (fun h149 => ?_) (fun h149 => ?_)
                      · refine pw_iinc1 C d_MO_look_157 rfl (by decide) ?_
                        have hch : ch_f (wd a) = 0 := (if_neg (fun q => by rcases hleaf with z | z <;> (rw [z] at q; exact absurd q (by decide)))).trans (if_pos hleaf)
                        have hgood : a + 1 < n ∧ 0 ≤ wd (a + 1) ∧ wd (a + 1) ≤ (if wd a = 0 then 7 else 255) := ⟨hlt1, Int32.not_lt.mp h128, by rw [hlim]; exact h149⟩
                        rw [if_pos hgood] at hrl
                        refine pw_iload_n C d_MO_look_160 rfl ?_
                        refine pw_callSi C (k_MO_children l hI _ _) ⟨pw_cb C 1 W_410 W_6 W_408 ⟨rfl, rfl⟩ (by decide +kernel) ⟨(Nat.le_of_ble_eq_true rfl), (Nat.le_of_ble_eq_true rfl)⟩, pw_w C W_409⟩ rfl rfl (Nat.le_of_ble_eq_true rfl) d_MO_look_161 ⟨Nat.zero_le _, Nat.zero_le _⟩ (fun rc w9 hrc => ?_)
                        obtain ⟨e9, hrc⟩ := hrc
                        subst hrc
                        refine MW.world e9 ?_
                        refine pw_if_le C 183 d_MO_look_164 (by decide) (fun h164 => ?_) (fun h164 => ?_)
                        · refine pw_aload_n C d_MO_look_183 rfl ?_
                          refine pw_get C d_MO_look_184 (hX 20 0 rfl) rfl 6 rfl rfl (by decide) in_MO W_349 rfl ?_
                          refine pw_iload_n C d_MO_look_187 rfl ?_
                          refine pw_dup2 C d_MO_look_188 rfl rfl ?_
                          refine pw_ialdK C d_MO_look_189 (hX 24 0 rfl) rfl (by omega) ?_
                          rw [hl1 (D0 + 1) (by omega) (Nat.le_refl _), hc0]
                          refine pw_iconst C d_MO_look_190 (v := 1) (by decide) ?_
                          refine pw_isub C d_MO_look_191 ?_
                          refine pw_iastK C d_MO_look_192 (hX 24 0 rfl) rfl (by omega) ?_
                          rw [nI_pred]
                          refine MW.world m_u24 ?_
                          have hnp2 : a + 2 = np_f wd (t + 1) := by
                            show _ = if wd (np_f wd t) = 0 ∨ wd (np_f wd t) = 7 then np_f wd t + 2 else np_f wd t + 1
                            rw [← hnp, if_pos hleaf]
                          have er : rt_f wd n lc (D0 + 1) (c0 + 1) a t = rt_f wd n (va_up lc (D0 + 1) c0) (D0 + 1) (va_up lc (D0 + 1) c0 (D0 + 1)) (a + 1 + 1) (t + 1) := by
                            rw [rt_ok hrl, vu_self]
                            exact rt_congr wd n _ _ (D0 + 1) c0 _ _ (fun j hj => (vu_ne (by omega)).symm)
                          rw [er]
                          refine MW.less (lv' := [some (.ref (pw_a X 20 0)), some (.int (nI (a + 1 + 1))), some (.int (nI (D0 + 1))), none]) (by intro i v h; rcases i with _ | _ | _ | _ | i <;> first | exact h | (simp at h)) ?_
                          refine HI (a + 1 + 1) (t + 1) (by omega) ?_ (D0 + 1) _ _ (va_up lc (D0 + 1) c0) hD13 (fun j h1 h2 => ?_) (fun j h1 h2 => ?_) (fun j h1 h2 => ?_) hst2
                          · intro D1 st1 lk1 lc1 g1 g2 g3 g7 g4 g5 g6
                            exact ihe (a + 1 + 1) (t + 1) (by omega) (by omega) (by omega) hnp2 D1 st1 lk1 lc1 g1 g2 g3 g7 g4 g5 g6
                          · by_cases q : j = D0 + 1
                            · subst q; rw [vu_self]; have := hc2 (D0 + 1) h1 (Nat.le_refl _); omega
                            · rw [vu_ne q]; exact hc2 j h1 h2
                          · by_cases q : j = D0 + 1
                            · subst q; rw [pk_us, vu_self]
                            · rw [pk_un q, vu_ne q]; exact hl1 j h1 h2
                          · rw [vu_ne (by omega)]; exact hl2 j h1 h2
                        · exact absurd (by rw [hch]; decide) h164
                      · refine pw_bipush C d_MO_look_152 (v := -100) (by decide) ?_
                        refine pw_iload_n C d_MO_look_154 rfl ?_
                        refine pw_isub C d_MO_look_155 ?_
                        refine pw_iret C zr zk d_MO_look_156 ?_
                        rw [hc0, rt_bad (hrl.trans (if_neg (fun q => h149 (by rw [← hlim]; exact q.2.2))))]
                        exact ⟨_, _, _, rfl, rfl, fun q => (by cases q)⟩
                  · refine pw_bipush C d_MO_look_114 (v := -100) (by decide) ?_
                    refine pw_aload_n C d_MO_look_116 rfl ?_
                    refine pw_get C d_MO_look_117 (hX 20 0 rfl) rfl 3 rfl rfl (by decide) in_MO W_346 rfl ?_
                    refine pw_isub C d_MO_look_120 ?_
                    refine pw_iret C zr zk d_MO_look_121 ?_
                    rw [hc0, rt_bad (hrl.trans (if_neg (fun q => by have := (nI_eq (a := a + 1) (b := n) (by omega) (by omega)).mp h111; omega)))]
                    exact ⟨_, _, _, rfl, by rw [show n = a + 1 from ((nI_eq (a := a + 1) (b := n) (by omega) (by omega)).mp h111).symm]; rfl, fun q => (by cases q)⟩
                · refine pw_iload_n C d_MO_look_100 rfl ?_
                  refine pw_bipush C d_MO_look_101 (v := 7) (by decide) ?_
                  refine pw_icmp_ne C 160 d_MO_look_103 (by decide) (fun h103 => ?_) (fun h103 => ?_)
                  · have hnl : ¬ (wd a = 0 ∨ wd a = 7) := fun q => q.elim h97 h103
                    have hch12 : ch_f (wd a) = 1 ∨ ch_f (wd a) = 2 := by
                      unfold ch_f
                      by_cases q : wd a = 2 ∨ wd a = 3
                      · rw [if_pos q]; exact Or.inr rfl
                      · rw [if_neg q, if_neg hnl]; exact Or.inl rfl
                    have hchp : 0 < ch_f (wd a) := by omega
                    refine pw_iload_n C d_MO_look_160 rfl ?_
                    refine pw_callSi C (k_MO_children l hI _ _) ⟨pw_cb C 1 W_410 W_6 W_408 ⟨rfl, rfl⟩ (by decide +kernel) ⟨(Nat.le_of_ble_eq_true rfl), (Nat.le_of_ble_eq_true rfl)⟩, pw_w C W_409⟩ rfl rfl (Nat.le_of_ble_eq_true rfl) d_MO_look_161 ⟨Nat.zero_le _, Nat.zero_le _⟩ (fun rc w9 hrc => ?_)
                    obtain ⟨e9, hrc⟩ := hrc
                    subst hrc
                    refine MW.world e9 ?_
                    refine pw_if_le C 183 d_MO_look_164 (by decide) (fun h164 => ?_) (fun h164 => ?_)
                    · exact absurd h164 (nI_nle hchp (by omega))
                    refine pw_iinc1 C d_MO_look_167 rfl (by decide) ?_
                    refine pw_aload_n C d_MO_look_170 rfl ?_
                    refine pw_get C d_MO_look_171 (hX 20 0 rfl) rfl 6 rfl rfl (by decide) in_MO W_349 rfl ?_
                    refine pw_iload_n C d_MO_look_174 rfl ?_
                    refine pw_iload_n C d_MO_look_175 rfl ?_
                    refine pw_callSi C (k_MO_children l hI _ _) ⟨pw_cb C 1 W_410 W_6 W_408 ⟨rfl, rfl⟩ (by decide +kernel) ⟨(Nat.le_of_ble_eq_true rfl), (Nat.le_of_ble_eq_true rfl)⟩, pw_w C W_409⟩ rfl rfl (Nat.le_of_ble_eq_true rfl) d_MO_look_176 ⟨Nat.zero_le _, Nat.zero_le _⟩ (fun rc2 w9 hrc2 => ?_)
                    obtain ⟨e9, hrc2⟩ := hrc2
                    subst hrc2
                    refine MW.world e9 ?_
                    refine pw_iastK C d_MO_look_179 (hX 24 0 rfl) rfl (by omega) ?_
                    refine pw_goto C 16 d_MO_look_180 (by decide) ?_
                    refine MW.world m_u24 ?_
                    have hnp2 : a + 1 = np_f wd (t + 1) := by
                      show _ = if wd (np_f wd t) = 0 ∨ wd (np_f wd t) = 7 then np_f wd t + 2 else np_f wd t + 1
                      rw [← hnp, if_neg hnl]
                    rw [rt_ch (by omega) hok hnl hc1]
                    refine MW.less (lv' := [some (.ref (pw_a X 20 0)), some (.int (nI (a + 1))), some (.int (nI (D0 + 1 + 1))), none]) (by intro i v h; rcases i with _ | _ | _ | _ | i <;> first | exact h | (simp at h)) ?_
                    have hself : va_up lc (D0 + 2) (ch_f (wd a)) (D0 + 2) = ch_f (wd a) := vu_self
                    have := ihe (a + 1) (t + 1) (by omega) (by omega) (by omega) hnp2 (D0 + 2) (upd st t (nI a)) (upd lk (D0 + 2) (nI (ch_f (wd a)))) (va_up lc (D0 + 2) (ch_f (wd a))) (by omega) (by omega) (by rw [hself]; omega) (fun j h1 h2 => ?_) (fun j h1 h2 => ?_) (fun j h1 h2 => ?_) hst2
                    · rw [hself] at this
                      exact this
                    · by_cases q : j = D0 + 2
                      · subst q; rw [vu_self]; omega
                      · rw [vu_ne q]; exact hc2 j h1 (by omega)
                    · by_cases q : j = D0 + 2
                      · subst q; rw [pk_us, vu_self]
                      · rw [pk_un q, vu_ne q]; exact hl1 j h1 (by omega)
                    · by_cases q : j = D0 + 1
                      · subst q; rw [vu_ne (by omega)]; exact hc1
                      · rw [vu_ne (by omega)]; exact hl2 j h1 (by omega)
                  · have hleaf : wd a = 0 ∨ wd a = 7 := Or.inr h103
                    have hlim : (if wd a = 0 then 7 else 255 : Int32) = 255 := if_neg h97
                    have hrl := rd_leaf (d := d) hok hleaf
                    rw [← hd] at hrl
                    refine pw_iload_n C d_MO_look_106 rfl ?_
                    refine pw_aload_n C d_MO_look_107 rfl ?_
                    refine pw_get C d_MO_look_108 (hX 20 0 rfl) rfl 3 rfl rfl (by decide) in_MO W_346 rfl ?_
                    refine pw_icmp_ne C 122 d_MO_look_111 (by decide) (fun h111 => ?_) (fun h111 => ?_)
                    · have hlt1 : a + 1 < n := by
                        rcases Nat.lt_or_ge (a + 1) n with q | q
                        · exact q
                        · exact absurd (by rw [show a + 1 = n by omega]) h111
                      refine pw_aload_n C d_MO_look_122 rfl ?_
                      refine pw_get C d_MO_look_123 (hX 20 0 rfl) rfl 2 rfl rfl (by decide) in_MO W_345 rfl ?_
                      refine pw_iload_n C d_MO_look_126 rfl ?_
                      refine pw_ialdK C d_MO_look_127 (hX 22 0 rfl) rfl (by omega) ?_
                      refine pw_if_lt C 152 d_MO_look_128 (by decide) (fun h128 => ?_) (fun h128 => ?_)
                      · refine pw_bipush C d_MO_look_152 (v := -100) (by decide) ?_
                        refine pw_iload_n C d_MO_look_154 rfl ?_
                        refine pw_isub C d_MO_look_155 ?_
                        refine pw_iret C zr zk d_MO_look_156 ?_
                        rw [hc0, rt_bad (hrl.trans (if_neg (fun q => Int32.not_lt.mpr q.2.1 h128)))]
                        exact ⟨_, _, _, rfl, rfl, fun q => (by cases q)⟩
                      · refine pw_aload_n C d_MO_look_131 rfl ?_
                        refine pw_get C d_MO_look_132 (hX 20 0 rfl) rfl 2 rfl rfl (by decide) in_MO W_345 rfl ?_
                        refine pw_iload_n C d_MO_look_135 rfl ?_
                        refine pw_ialdK C d_MO_look_136 (hX 22 0 rfl) rfl (by omega) ?_
                        refine pw_iload_n C d_MO_look_137 rfl ?_
                        refine pw_if_ne C 146 d_MO_look_138 (by decide) (fun h138 => ?_) (fun h138 => ?_)
                        · refine pw_sipush C d_MO_look_146 (v := 255) (by decide) ?_
                          refine pw_icmp_le C 157 d_MO_look_149 (by decide) (fun h149 => ?_) (fun h149 => ?_)
                          · refine pw_iinc1 C d_MO_look_157 rfl (by decide) ?_
                            have hch : ch_f (wd a) = 0 := (if_neg (fun q => by rcases hleaf with z | z <;> (rw [z] at q; exact absurd q (by decide)))).trans (if_pos hleaf)
                            have hgood : a + 1 < n ∧ 0 ≤ wd (a + 1) ∧ wd (a + 1) ≤ (if wd a = 0 then 7 else 255) := ⟨hlt1, Int32.not_lt.mp h128, by rw [hlim]; exact h149⟩
                            rw [if_pos hgood] at hrl
                            refine pw_iload_n C d_MO_look_160 rfl ?_
                            refine pw_callSi C (k_MO_children l hI _ _) ⟨pw_cb C 1 W_410 W_6 W_408 ⟨rfl, rfl⟩ (by decide +kernel) ⟨(Nat.le_of_ble_eq_true rfl), (Nat.le_of_ble_eq_true rfl)⟩, pw_w C W_409⟩ rfl rfl (Nat.le_of_ble_eq_true rfl) d_MO_look_161 ⟨Nat.zero_le _, Nat.zero_le _⟩ (fun rc w9 hrc => ?_)
                            obtain ⟨e9, hrc⟩ := hrc
                            subst hrc
                            refine MW.world e9 ?_
                            refine pw_if_le C 183 d_MO_look_164 (by decide) (fun h164 => ?_) (fun h164 => ?_)
                            · refine pw_aload_n C d_MO_look_183 rfl ?_
                              refine pw_get C d_MO_look_184 (hX 20 0 rfl) rfl 6 rfl rfl (by decide) in_MO W_349 rfl ?_
                              refine pw_iload_n C d_MO_look_187 rfl ?_
                              refine pw_dup2 C d_MO_look_188 rfl rfl ?_
                              refine pw_ialdK C d_MO_look_189 (hX 24 0 rfl) rfl (by omega) ?_
                              rw [hl1 (D0 + 1) (by omega) (Nat.le_refl _), hc0]
                              refine pw_iconst C d_MO_look_190 (v := 1) (by decide) ?_
                              refine pw_isub C d_MO_look_191 ?_
                              refine pw_iastK C d_MO_look_192 (hX 24 0 rfl) rfl (by omega) ?_
                              rw [nI_pred]
                              refine MW.world m_u24 ?_
                              have hnp2 : a + 2 = np_f wd (t + 1) := by
                                show _ = if wd (np_f wd t) = 0 ∨ wd (np_f wd t) = 7 then np_f wd t + 2 else np_f wd t + 1
                                rw [← hnp, if_pos hleaf]
                              have er : rt_f wd n lc (D0 + 1) (c0 + 1) a t = rt_f wd n (va_up lc (D0 + 1) c0) (D0 + 1) (va_up lc (D0 + 1) c0 (D0 + 1)) (a + 1 + 1) (t + 1) := by
                                rw [rt_ok hrl, vu_self]
                                exact rt_congr wd n _ _ (D0 + 1) c0 _ _ (fun j hj => (vu_ne (by omega)).symm)
                              rw [er]
                              refine MW.less (lv' := [some (.ref (pw_a X 20 0)), some (.int (nI (a + 1 + 1))), some (.int (nI (D0 + 1))), none]) (by intro i v h; rcases i with _ | _ | _ | _ | i <;> first | exact h | (simp at h)) ?_
                              refine HI (a + 1 + 1) (t + 1) (by omega) ?_ (D0 + 1) _ _ (va_up lc (D0 + 1) c0) hD13 (fun j h1 h2 => ?_) (fun j h1 h2 => ?_) (fun j h1 h2 => ?_) hst2
                              · intro D1 st1 lk1 lc1 g1 g2 g3 g7 g4 g5 g6
                                exact ihe (a + 1 + 1) (t + 1) (by omega) (by omega) (by omega) hnp2 D1 st1 lk1 lc1 g1 g2 g3 g7 g4 g5 g6
                              · by_cases q : j = D0 + 1
                                · subst q; rw [vu_self]; have := hc2 (D0 + 1) h1 (Nat.le_refl _); omega
                                · rw [vu_ne q]; exact hc2 j h1 h2
                              · by_cases q : j = D0 + 1
                                · subst q; rw [pk_us, vu_self]
                                · rw [pk_un q, vu_ne q]; exact hl1 j h1 h2
                              · rw [vu_ne (by omega)]; exact hl2 j h1 h2
                            · exact absurd (by rw [hch]; decide) h164
                          · refine pw_bipush C d_MO_look_152 (v := -100) (by decide) ?_
                            refine pw_iload_n C d_MO_look_154 rfl ?_
                            refine pw_isub C d_MO_look_155 ?_
                            refine pw_iret C zr zk d_MO_look_156 ?_
                            rw [hc0, rt_bad (hrl.trans (if_neg (fun q => h149 (by rw [← hlim]; exact q.2.2))))]
                            exact ⟨_, _, _, rfl, rfl, fun q => (by cases q)⟩
                        · exact absurd h138 h97
                    · refine pw_bipush C d_MO_look_114 (v := -100) (by decide) ?_
                      refine pw_aload_n C d_MO_look_116 rfl ?_
                      refine pw_get C d_MO_look_117 (hX 20 0 rfl) rfl 3 rfl rfl (by decide) in_MO W_346 rfl ?_
                      refine pw_isub C d_MO_look_120 ?_
                      refine pw_iret C zr zk d_MO_look_121 ?_
                      rw [hc0, rt_bad (hrl.trans (if_neg (fun q => by have := (nI_eq (a := a + 1) (b := n) (by omega) (by omega)).mp h111; omega)))]
                      exact ⟨_, _, _, rfl, by rw [show n = a + 1 from ((nI_eq (a := a + 1) (b := n) (by omega) (by omega)).mp h111).symm]; rfl, fun q => (by cases q)⟩
              · refine pw_bipush C d_MO_look_68 (v := -100) (by decide) ?_
                refine pw_iload_n C d_MO_look_70 rfl ?_
                refine pw_isub C d_MO_look_71 ?_
                refine pw_iret C zr zk d_MO_look_72 ?_
                rw [hc0, rt_bad (hbadw (Or.inr (by have := mt (nI_leI (a := D0 + 1) (b := 12) (by omega) (by decide)).mpr h65; omega)))]
                exact ⟨st, t, lk, rfl, rfl, fun q => (by cases q)⟩
      · refine pw_bipush C d_MO_look_28 (v := -100) (by decide) ?_
        refine pw_aload_n C d_MO_look_30 rfl ?_
        refine pw_get C d_MO_look_31 (hX 20 0 rfl) rfl 3 rfl rfl (by decide) in_MO W_346 rfl ?_
        refine pw_isub C d_MO_look_34 ?_
        refine pw_iret C zr zk d_MO_look_35 ?_
        have hae : a = n := (nI_eq (by omega) (by omega)).mp h25
        rw [hc0, rt_bad (hbadw (Or.inl (fun q => by omega)))]
        exact ⟨st, t, lk, rfl, by rw [hae]; rfl, fun q => (by cases q)⟩
  have e1 : rd_f wd n 12 0 0 = rt_f wd n (fun _ => 1) 1 1 0 0 := by
    show _ = (match (match rd_f wd n 12 0 0 with
      | (true, b, t1) => (true, b, t1)
      | (false, f, t1) => (false, f, t1)) with
      | (true, b, t1) => (true, b, t1)
      | (false, f, t1) => (false, f, t1))
    rcases rd_f wd n 12 0 0 with ⟨ok, b, t1⟩
    cases ok <;> rfl
  rw [e1]
  refine pw_iconst C d_MO_look_0 (v := 0) (by decide) ?_
  refine pw_istore_n C d_MO_look_1 (by decide) ?_
  refine pw_iconst C d_MO_look_2 (v := 1) (by decide) ?_
  refine pw_istore_n C d_MO_look_3 (by decide) ?_
  refine pw_aload_n C d_MO_look_4 rfl ?_
  refine pw_get C d_MO_look_5 (hX 20 0 rfl) rfl 6 rfl rfl (by decide) in_MO W_349 rfl ?_
  refine pw_iconst C d_MO_look_8 (v := 1) (by decide) ?_
  refine pw_iconst C d_MO_look_9 (v := 1) (by decide) ?_
  refine pw_iastK C d_MO_look_10 (k0 := 1) (hX 24 0 rfl) rfl (by decide) ?_
  refine MW.world m_u24 ?_
  refine pw_aload_n C d_MO_look_11 rfl ?_
  refine pw_iconst C d_MO_look_12 (v := 0) (by decide) ?_
  refine pw_put C d_MO_look_13 (hX 20 0 rfl) rfl 5 (Nat.le_of_ble_eq_true rfl) rfl (by decide) in_MO t_MO tk_MO n_MO W_348 rfl rfl (tk_MO 5 (by decide)) rfl rfl ?_
  refine MW.world (m_u20 (p1 := nI 0)) ?_
  exact HH n 0 0 (Nat.zero_le n) (by omega) (by omega) rfl 1 st _ (fun _ => 1) (Nat.le_refl 1) (by decide) (Nat.le_refl 1) (fun _ _ _ => by decide) (fun j h1 h2 => by rw [show j = 1 by omega]; exact pk_us) (fun j h1 h2 => Nat.le_refl 1) (fun p hp => absurd hp (Nat.not_lt_zero p))
