/-! MAKING. The cells lie one behind the other from b on, in the order in which they are made; a world holds of a cell's key what it holds when it is made. MN: as MW, with n cells made so far. -/
def of_k (g i : Nat) : Nat := if g = 3 then 3 + i else if g = 11 then 18 + i else if g = 16 then 62 + i else ([0, 1, 2, 0, 11, 12, 13, 14, 15, 16, 17, 0, 58, 59, 60, 61, 0, 0, 0, 0, 74, 75, 76, 77, 78, 79, 80] : List Nat).getD g 0
def ok_f (n : Nat) : Nat × Nat := if n < 3 then (n, 0) else if n < 11 then (3, n - 3) else if n < 18 then (n - 7, 0) else if n < 58 then (11, n - 18) else if n < 62 then (n - 46, 0) else if n < 74 then (16, n - 62) else (n - 54, 0)
theorem ok_of : ∀ g, g < 27 → ∀ i, i < 40 → dm_k g i = true → ok_f (of_k g i) = (g, i) := by decide +kernel
theorem dm_lt {g i : Nat} (h : dm_k g i = true) : g < 27 ∧ i < 40 := by
  unfold dm_k at h
  split at h
  · have := of_decide_eq_true h; omega
  · split at h
    · have := of_decide_eq_true h; omega
    · split at h
      · have := of_decide_eq_true h; omega
      · have := of_decide_eq_true h; omega
theorem of_inj {g i g' i' : Nat} (h : dm_k g i = true) (h' : dm_k g' i' = true) (e : of_k g i = of_k g' i') : g = g' ∧ i = i' := by
  have a := ok_of g (dm_lt h).1 i (dm_lt h).2 h
  have a' := ok_of g' (dm_lt h').1 i' (dm_lt h').2 h'
  rw [e, a'] at a
  cases a
  exact ⟨rfl, rfl⟩
def XN (D : va_G) (cs : Nat → ClassId) (b n : Nat) : Lay := (D, cs, fun g i => b + of_k g i, b, fun g i => dm_k g i = true ∧ of_k g i < n)
theorem xn_I (D : va_G) (cs : Nat → ClassId) (b n : Nat) : pw_I (XN D cs b n) := by
  refine ⟨fun g i g' i' h h' e => of_inj h.1 h'.1 ?_, fun g i _ => Nat.le_add_right _ _⟩
  have e2 : b + of_k g i = b + of_k g' i' := e
  omega
theorem xn_push {D : va_G} {cs : Nat → ClassId} {b n n' : Nat} {w : Wd} {H H1 : Heap} (h1 : pw_H (XN D cs b n) w H) (o1 : ∀ q, q < b + n → H1[q]? = H[q]?) (hnew : ∀ g i, dm_k g i = true → n ≤ of_k g i → of_k g i < n' → va_at D vwCl (b + of_k g i, w g i) H1) : pw_H (XN D cs b n') w H1 := by
  intro g i hd
  by_cases h : of_k g i < n
  · exact (h1 g i ⟨hd.1, h⟩).kept (o1 _ (Nat.add_lt_add_left h b))
  · exact hnew g i hd.1 (Nat.le_of_not_lt h) hd.2
def pa_O (U : State) : Prop := (Cond.arrayOver (.array .long)).before #[] U = true
theorem pa_O.moved {u U : State} (hvm : u.vm.Alike U.vm) (h : pa_O u) : pa_O U := by
  unfold pa_O Cond.before Cond.holds at *
  simp only [Cond.value] at *
  simp only [hvm.findClass]
  cases h1 : u.vm.findClass (FieldType.array .long).toString with
  | none => rw [h1] at h; exact absurd h (by simp)
  | some comp =>
    rw [h1] at h
    simp only [Option.bind_some] at h ⊢
    have hi := (va_idx_bare U.vm comp).symm.trans ((congrArg (fun v : Vm => v.classes.findIdx? fun (x : Class) => match x.kind with | .array component _ => component == comp | _ => false) (show U.vm.bare = u.vm.bare by first | exact hvm.bare_eq | exact hvm.bare_eq.symm)).trans (va_idx_bare u.vm comp))
    refine (congrArg (fun o : Option Nat => (o.bind _ == some true)) hi).trans ?_
    refine Eq.trans ?_ h
    refine congrArg (fun x : Option Bool => x == some true) ?_
    refine Option.bind_congr ?_
    intro c hc
    cases h3 : u.vm.classes[c]? with
    | none =>
      exfalso
      have h4 := (Array.findIdx?_eq_some_iff_getElem.mp hc).1
      rw [Array.getElem?_eq_none_iff] at h3
      omega
    | some k =>
      obtain ⟨k', hk', he⟩ := hvm.2.2 _ _ h3
      have hkk : k'.kind = k.kind := by rw [he]
      rw [hk']
      simp only [Option.map_some, hkk]
section PN
variable {p : Program} {l : Launch} {e : Env} {R : Room} {s : State} {m : MethodId} {args : Array Value} {below : List Frame} {meth : Method} {c : Code} {D : va_G} {cs : Nat → ClassId} {b : Nat} {cc : ByteArray} {nL cells slots : Nat} {Q : State → Prop} {own : String} {n : Nat} {w : Wd} {pc : Nat} {lv : List (Option Value)} {st : List Value}
def MN (p : Program) (l : Launch) (e : Env) (R : Room) (s : State) (m : MethodId) (args : Array Value) (below : List Frame) (meth : Method) (c : Code) (D : va_G) (cs : Nat → ClassId) (b : Nat) (nL cells slots : Nat) (Q : State → Prop) (n : Nat) (w : Wd) (pc : Nat) (lv : List (Option Value)) (st : List Value) : Prop :=
  ∀ (H : Heap) (locs : List Loc) (ls : Array Slot), H.size = b + n → pw_H (XN D cs b n) w H → va_S (fun q => b ≤ q) s.heap H locs → pw_L ls nL lv → W p l e R s m args below meth c H locs cells slots Q (F0 m pc ls st)
def pn_Pc (D : va_G) (cs : Nat → ClassId) (b n : Nat) (w : Wd) (av : List Value) : Array Value → State → Prop := va_Pc av (fun U => U.heap.size = b + n ∧ pw_H (XN D cs b n) w U.heap ∧ pw_K (XN D cs b 0) U ∧ pa_O U)
def pn_B (D : va_G) (cs : Nat → ClassId) (b n : Nat) : Wd → State → Prop := fun w t => t.heap.size = b + n ∧ pw_H (XN D cs b n) w t.heap
abbrev CtN (l : Launch) (y : MethodName) (ws : List Cond) (rm : Room) (D : va_G) (cs : Nat → ClassId) (b n n' mc ms : Nat) (w : Wd) (av : List Value) (post : Wd → Prop) : Prop := Met l y ws rm (pn_Pc D cs b n w av) (va_Qv post (pn_B D cs b n') (fun q => b ≤ q)) mc ms (fun q => b ≤ q)
theorem pn_Pc.blind {n : Nat} {w : Wd} {av : List Value} : FrameBlind (pn_Pc D cs b n w av) := fun a U g mk q => by
  obtain ⟨q0, q1, q2, q3, q4⟩ := q
  exact ⟨q0, q1, q2, pw_K.same (s := U) (U := U.calling g mk a) rfl q3, pa_O.moved (u := U) (U := U.calling g mk a) (Vm.Alike.refl U.vm) q4⟩
theorem pn_open {y : MethodName} {rm : Room} {av : List Value} {Qc : Array Value → State → Outcome → State → Prop} {mc ms : Nat} {maxL : Nat} {ret : Option FieldType}
    (hy : plainName y.cls = true) (lv : List (Option Value)) (hlv : pw_ent av maxL = lv) (hle : (lg_sl av).length ≤ maxL)
    (body : ∀ (p : Program) (e : Env) (s : State) (m : MethodId) (args : Array Value) (below : List Frame) (meth : Method) (c : Code), args = av.toArray → Cx p s m args c cc maxL y.cls (XN D cs b 0) → pa_O s → meth.sig.returnType = ret → meth.locks = false → meth.name = y.name → MN p l e rm s m args below meth c D cs b maxL 0 0 (MQ below Qc args s mc ms (fun q => b ≤ q)) n w 0 lv []) : Met l y (pw_ws y cc maxL ret) rm (pn_Pc D cs b n w av) Qc mc ms (fun q => b ≤ q) := by
  refine Met.ofW (cc := cc) (maxL := maxL) (ret := ret) hy rfl ?_
  intro p e s m args below meth c s₁ B hml hv
  obtain ⟨rfl, hz, hH, hK, hO⟩ := hv
  have hb := body p e s m av.toArray below meth c rfl ⟨⟨B.exec, B.bytes, hml, findClass_of_methodNamed B.named, fun w hw => atoms_spec (ws := pw_ws y cc maxL ret) B.pre w (List.mem_cons_of_mem _ hw)⟩, hK, xn_I D cs b 0, by show b ≤ s.heap.size; rw [hz]; exact Nat.le_add_right b n⟩ hO B.returns B.notSynchronized (name_of_methodNamed B.named B.method).1
  rw [lg_entry_eq]
  exact hb s.heap [] _ hz hH va_S.rf (by rw [← hlv]; exact pw_entry av hle)
theorem MN.world {w' : Wd} (h : w = w') (k : MN p l e R s m args below meth c D cs b nL cells slots Q n w' pc lv st) : MN p l e R s m args below meth c D cs b nL cells slots Q n w pc lv st := h ▸ k
theorem pn_iconst (C : Cx p s m args c cc nL own (XN D cs b 0)) {k0 : Int} (hdg : decode cc pc = .ok (.iconst k0, 1)) {v : Int32} (hv : Int32.ofInt k0 = v) (k : MN p l e R s m args below meth c D cs b nL cells slots Q n w (pc + 1) lv (.int v :: st)) : MN p l e R s m args below meth c D cs b nL cells slots Q n w pc lv st := fun H locs ls h0 h1 h2 h3 => lv_iconst C.1.1 C.1.2.1 hdg hv (k H locs ls h0 h1 h2 h3)
theorem pn_bipush (C : Cx p s m args c cc nL own (XN D cs b 0)) {k0 : Int} (hdg : decode cc pc = .ok (.bipush k0, 2)) {v : Int32} (hv : (Int8.ofInt k0).toInt32 = v) (k : MN p l e R s m args below meth c D cs b nL cells slots Q n w (pc + 2) lv (.int v :: st)) : MN p l e R s m args below meth c D cs b nL cells slots Q n w pc lv st := fun H locs ls h0 h1 h2 h3 => lv_bipush C.1.1 C.1.2.1 hdg hv (k H locs ls h0 h1 h2 h3)
theorem pn_ldc (C : Cx p s m args c cc nL own (XN D cs b 0)) {index : Nat} (hdg : decode cc pc = .ok (.ldc index, 2)) {v : Int32} (hc : Cond.constant own index v ∈ pw_all) (k : MN p l e R s m args below meth c D cs b nL cells slots Q n w (pc + 2) lv (.int v :: st)) : MN p l e R s m args below meth c D cs b nL cells slots Q n w pc lv st := fun H locs ls h0 h1 h2 h3 => lv_ldc C.1.1 C.1.2.1 C.1.2.2.2.1 (C.1.2.2.2.2 _ hc) hdg (k H locs ls h0 h1 h2 h3)
theorem pn_aload_n (C : Cx p s m args c cc nL own (XN D cs b 0)) {k0 : Fin 4} (hdg : decode cc pc = .ok (.aload_n k0, 1)) {x : Nat} (hv : lv[(k0 : Nat)]? = some (some (.ref x))) (k : MN p l e R s m args below meth c D cs b nL cells slots Q n w (pc + 1) lv (.ref x :: st)) : MN p l e R s m args below meth c D cs b nL cells slots Q n w pc lv st := fun H locs ls h0 h1 h2 h3 => lv_aload_n C.1.1 C.1.2.1 hdg rfl (h3.2.2 _ _ hv) (k H locs ls h0 h1 h2 h3)
theorem pn_astore_n (C : Cx p s m args c cc nL own (XN D cs b 0)) {k0 : Fin 4} {x : Nat} (hdg : decode cc pc = .ok (.astore_n k0, 1)) (hn : (k0 : Nat) < nL) (k : MN p l e R s m args below meth c D cs b nL cells slots Q n w (pc + 1) (pw_p1 lv k0 (.ref x)) st) : MN p l e R s m args below meth c D cs b nL cells slots Q n w pc lv (.ref x :: st) := fun H locs ls h0 h1 h2 h3 => lv_astore_n C.1.1 C.1.2.1 hdg rfl h3.has hn rfl (fun ls9 h9 => k H locs ls9 h0 h1 h2 (pw_L.put1 h9))
theorem pn_dup (C : Cx p s m args c cc nL own (XN D cs b 0)) {va : Value} (hdg : decode cc pc = .ok (.dup, 1)) (hva : va.category = 1) (k : MN p l e R s m args below meth c D cs b nL cells slots Q n w (pc + 1) lv (va :: va :: st)) : MN p l e R s m args below meth c D cs b nL cells slots Q n w pc lv (va :: st) := fun H locs ls h0 h1 h2 h3 => lv_dup C.1.1 C.1.2.1 hdg hva (k H locs ls h0 h1 h2 h3)
theorem pn_obj (C : Cx p s m args c cc nL own (XN D cs b 0)) {idx : Nat} (hl : Cond.methodLink own idx Lib.objectInit ∈ pw_all) (hi : Cond.instanceMethod Lib.objectInit ∈ pw_all) (hc : Cond.code Lib.objectInit { data := #[177] } 1 none ∈ pw_all) {x : Nat} (hdg : decode cc pc = .ok (.invokespecial idx, 3)) (hf : 1 ≤ R.frames) (hlo : (st.map fun v => v.category).sum + 12 ≤ R.locals) (k : MN p l e R s m args below meth c D cs b nL cells slots Q n w (pc + 3) lv st) : MN p l e R s m args below meth c D cs b nL cells slots Q n w pc lv (.ref x :: st) := fun H locs ls h0 h1 h2 h3 => W.objInit C.1.1 C.1.2.1 C.1.2.2.2.1 (pw_w C hl) (pw_w C hi) (pw_w C hc) rfl (by rw [C.1.2.2.1]; exact h3.1) rfl hdg hf (by show 2 * 0 + _ + 12 ≤ _; rw [Nat.mul_zero, Nat.zero_add]; exact hlo) (k H locs ls h0 h1 h2 h3)
theorem pn_get (C : Cx p s m args c cc nL own (XN D cs b 0)) {g i ci index N : Nat} {fs : List Value} {Cn ref : String} {T : u_T} {v : Value} (hdg : decode cc pc = .ok (.getfield index, 3)) (hd : pw_d (XN D cs b n) g i) (hw : w g i = oB ci fs) (k0 : Nat) (hv : fs[k0]? = some v) (hc : vwCl[ci]? = some (Cn, T, N)) (hk : k0 < N) (hin : ∀ q ∈ u_ws Cn T N, q ∈ pw_all) (hl : Cond.fieldLink own index ref (T k0).2.1 (T k0).2.2.1 ∈ pw_all) (hsame : (T k0).1 = ref) (k : MN p l e R s m args below meth c D cs b nL cells slots Q n w (pc + 3) lv (v :: st)) : MN p l e R s m args below meth c D cs b nL cells slots Q n w pc lv (.ref (b + of_k g i) :: st) := fun H locs ls h0 h1 h2 h3 => va_get C.1.1 C.1.2.1 C.1.2.2.2.2 hin C.1.2.2.2.1 (show va_K D vwCl (pw_tys (XN D cs b 0)) s from C.2.1.1) (show va_P D vwCl [(b + of_k g i, oB ci fs)] H from pw_one h1 hd hw) 0 rfl hc k0 hk (C.1.2.2.2.2 _ hl) (fun x9 h9 => by rw [← hsame]; exact h9) hv hdg (k H locs ls h0 h1 h2 h3)
theorem pn_put (C : Cx p s m args c cc nL own (XN D cs b 0)) {g i ci index N : Nat} {fs : List Value} {Cn ref : String} {T : u_T} {v : Value} {ty : FieldType} (hdg : decode cc pc = .ok (.putfield index, 3)) (hd : pw_d (XN D cs b n) g i) (hw : w g i = oB ci fs) (k0 : Nat) (hl9 : k0 < fs.length) (hc : vwCl[ci]? = some (Cn, T, N)) (hk : k0 < N) (hin : ∀ q ∈ u_ws Cn T N, q ∈ pw_all) (ty0 : Nat → FieldType) (hty : ∀ k, k < N → parseFieldDescriptor (T k).2.2.1 = some (ty0 k)) (hnm : ∀ a, a < N → ∀ b, b < N → a ≠ b → (T a).2.1 ≠ (T b).2.1) (hl : Cond.fieldLink own index ref (T k0).2.1 (T k0).2.2.1 ∈ pw_all) (hsame : (T k0).1 = ref) (hfin : (T k0).2.2.2 = false) (hdd : parseFieldDescriptor (T k0).2.2.1 = some ty) (hn : narrow ty v = v) (hfit : fits ty v = true) (k : MN p l e R s m args below meth c D cs b nL cells slots Q n (pw_up w g i (oB ci (fs.set k0 v))) (pc + 3) lv st) : MN p l e R s m args below meth c D cs b nL cells slots Q n w pc lv (v :: .ref (b + of_k g i) :: st) := fun H locs ls h0 h1 h2 h3 => by
  subst hsame
  have hK := C.2.1.1
  have hts := C.1.2.2.2.2
  have hap := va_apart (own := own) hts hin ty0 hty hnm hK hc
  obtain ⟨r, g1, cell, q1, q2, q3, q4⟩ := pw_one h1 hd hw 0 _ rfl
  have hr : r = (Cn, T, N) := Option.some.inj (g1.symm.trans hc)
  subst hr
  obtain ⟨hS, hfc, kC, hkC, hkind⟩ := hK.1 ci _ hc
  obtain ⟨cf, kf, fi, f, hi, hsl⟩ := hS k0 hk
  have hlay := hts _ (hin _ (u_in_lay hk))
  unfold u_lay at hlay
  rw [if_neg (by rw [hfin]; decide)] at hlay
  have hst := (u_facts hfc hkC (u_lays hts hin hk) hi).1
  have h6 := u_store hfc hkC hkind hlay hi hdd hn hfit
  refine W.putK C.1.1 C.1.2.1 (f := f) ⟨C.1.2.2.2.1, (C.1.2.2.2.2 _ hl), ⟨_, _, _, hi⟩, hst⟩ (by rw [q2]; exact h6) q1 q3 (by rw [hsl]; exact k2_hasslot (q4 k0 hk)) rfl rfl hdg fun H1 e1 e2 e3 => ?_
  rw [hsl] at e1 ⊢
  exact k H1 _ ls (e2.trans h0) (h1.set (xn_I D cs b n) hd ⟨_, hc, t_OB.to (V := updV (vp_V fs) k0 v) ⟨_, e1, q2, q3, t_set q4 hap hk v⟩ (fun j _ => vp_updV_set hl9 v j)⟩ e3) (h2.put e2 e3 (Nat.le_add_right b _)) h3
theorem pn_putF (C : Cx p s m args c cc nL own (XN D cs b 0)) {g i ci index N : Nat} {fs : List Value} {Cn ref : String} {T : u_T} {v : Value} {ty : FieldType} (hin2 : meth.name = "<init>") (hdg : decode cc pc = .ok (.putfield index, 3)) (hd : pw_d (XN D cs b n) g i) (hw : w g i = oB ci fs) (k0 : Nat) (hl9 : k0 < fs.length) (hc : vwCl[ci]? = some (Cn, T, N)) (hk : k0 < N) (hin : ∀ q ∈ u_ws Cn T N, q ∈ pw_all) (ty0 : Nat → FieldType) (hty : ∀ k, k < N → parseFieldDescriptor (T k).2.2.1 = some (ty0 k)) (hnm : ∀ a, a < N → ∀ b, b < N → a ≠ b → (T a).2.1 ≠ (T b).2.1) (hl : Cond.fieldLink own index ref (T k0).2.1 (T k0).2.2.1 ∈ pw_all) (hsame : (T k0).1 = ref) (hdecl : (T k0).1 = own) (hfin : (T k0).2.2.2 = true) (hdd : parseFieldDescriptor (T k0).2.2.1 = some ty) (hn : narrow ty v = v) (hfit : fits ty v = true) (k : MN p l e R s m args below meth c D cs b nL cells slots Q n (pw_up w g i (oB ci (fs.set k0 v))) (pc + 3) lv st) : MN p l e R s m args below meth c D cs b nL cells slots Q n w pc lv (v :: .ref (b + of_k g i) :: st) := fun H locs ls h0 h1 h2 h3 => by
  subst hsame
  have hK := C.2.1.1
  have hts := C.1.2.2.2.2
  have hap := va_apart (own := own) hts hin ty0 hty hnm hK hc
  obtain ⟨r, g1, cell, q1, q2, q3, q4⟩ := pw_one h1 hd hw 0 _ rfl
  have hr : r = (Cn, T, N) := Option.some.inj (g1.symm.trans hc)
  subst hr
  obtain ⟨hS, hfc, kC, hkC, hkind⟩ := hK.1 ci _ hc
  obtain ⟨cf, kf, fi, f, hi, hsl⟩ := hS k0 hk
  have hlay := hts _ (hin _ (u_in_lay hk))
  unfold u_lay at hlay
  rw [if_pos hfin] at hlay
  have hst := (u_facts hfc hkC (u_lays hts hin hk) hi).1
  have hcf : m.cls = cf := by
    obtain ⟨_, _, c', _, _, _, -, -, hf', -, -, -, hown2, -⟩ := Cond.laysFinal_spec hlay
    have e1 : c' = cf := by have := hi.symm.trans hf'; simp at this; exact this.1.symm
    rw [hdecl] at hown2
    rw [← e1]; exact Option.some.inj (C.1.2.2.2.1.symm.trans hown2)
  have h6 := u_fits hfc hkC hkind (Or.inr hlay) hi hdd hn hfit
  refine W.putFinK C.1.1 C.1.2.1 C.1.2.2.2.1 (C.1.2.2.2.2 _ hl) hi hst hcf hin2 (by rw [q2]; exact h6) q1 q3 (by rw [hsl]; exact k2_hasslot (q4 k0 hk)) rfl rfl hdg fun H1 e1 e2 e3 => ?_
  rw [hsl] at e1 ⊢
  exact k H1 _ ls (e2.trans h0) (h1.set (xn_I D cs b n) hd ⟨_, hc, t_OB.to (V := updV (vp_V fs) k0 v) ⟨_, e1, q2, q3, t_set q4 hap hk v⟩ (fun j _ => vp_updV_set hl9 v j)⟩ e3) (h2.put e2 e3 (Nat.le_add_right b _)) h3
theorem pn_S {s : State} {H H1 : Heap} {locs : List Loc} {b n n' : Nat} (h0 : H.size = b + n) (z1 : H1.size = b + n') (hle : n ≤ n') (o1 : ∀ q, q < b + n → H1[q]? = H[q]?) (h2 : va_S (fun q => b ≤ q) s.heap H locs) : va_S (fun q => b ≤ q) s.heap H1 locs :=
  ⟨Nat.le_trans h2.1 (by rw [h0, z1]; omega), fun x g1 g2 => (o1 x (by have := h2.1; omega)).trans (h2.2.1 x g1 g2), h2.2.2⟩
theorem pn_newa (C : Cx p s m args c cc nL own (XN D cs b 0)) {atype : ArrayType} (t : Nat) (harr : Cond.arrayClass (newarray.typeOf atype) ∈ pw_all) (hct : (pw_tys (XN D cs b 0))[t]? = some (cs t, newarray.typeOf atype)) (g : Nat) (hg : dm_k g 0 = true) (ho : of_k g 0 = n) {x : Int32} {N' : Nat} {a0 : vp_A} (hw : w g 0 = .inl (cs t, a0)) (ha : ∀ cA : ClassId, vp_cell cA a0 = arrV cA N' (fun _ => defaultValue (newarray.typeOf atype))) (hn : ¬ x < 0) (hN : x.toNatClampNeg = N') (hbytes : N' * componentBytes (newarray.typeOf atype) ≤ 536870912) (hcells : cells + 1 ≤ R.cells) (hslots : slots + N' ≤ R.slots) (hdg : decode cc pc = .ok (.newarray atype, 2)) (k : MN p l e R s m args below meth c D cs b nL (cells + 1) (slots + N') Q (n + 1) w (pc + 2) lv (.ref (b + of_k g 0) :: st)) : MN p l e R s m args below meth c D cs b nL cells slots Q n w pc lv (.int x :: st) := fun H locs ls h0 h1 h2 h3 => by
  refine va_newaK C.1.1 C.1.2.1 (pw_w C harr) rfl hdg rfl hn hN hbytes hcells hslots h0 fun H1 cA e1 z1 o1 hAr hNm => ?_
  have hcA : cA = cs t := by
    have hR := (C.2.1.1.2 t _ hct).2
    have hR2 : s.vm.findClass ("[" ++ (newarray.typeOf atype).toString) = some (cs t) := by cases atype <;> exact hR
    exact Option.some.inj (hNm.symm.trans hR2)
  subst hcA
  have e0 : b + n = b + of_k g 0 := by rw [ho]
  rw [e0] at e1
  have := k H1 locs ls (by rw [z1]; omega) (xn_push h1 o1 (fun g' i' hd l1 l2 => ?_)) (pn_S h0 (n' := n + 1) (by rw [z1]; omega) (by omega) o1 h2) h3
  · rw [← e0] at this; exact this
  · obtain ⟨rfl, rfl⟩ := of_inj hd hg (by omega)
    rw [hw]
    show H1[b + of_k g' 0]? = some (vp_cell (cs t) a0)
    rw [ha]
    exact e1
theorem pn_new (C : Cx p s m args c cc nL own (XN D cs b 0)) {ci index N : Nat} {Cn : String} {T : u_T} (g : Nat) (hg : dm_k g 0 = true) (ho : of_k g 0 = n) {fs : List Value} (hw : w g 0 = oB ci fs) (hc : vwCl[ci]? = some (Cn, T, N)) (hin : ∀ q ∈ u_ws Cn T N, q ∈ pw_all) (ty : Nat → FieldType) (hty : ∀ k, k < N → parseFieldDescriptor (T k).2.2.1 = some (ty k)) (hcl : Cond.classLink own index Cn ∈ pw_all) (hinst : Cond.instantiable Cn N ∈ pw_all) (hini : Cond.initialized Cn ∈ pw_all) (hfs : ∀ j, j < N → defaultValue (ty j) = vp_V fs j) (hcells : cells + 1 ≤ R.cells) (hslots : slots + N ≤ R.slots) (hdg : decode cc pc = .ok (.new index, 3)) (k : MN p l e R s m args below meth c D cs b nL (cells + 1) (slots + N) Q (n + 1) w (pc + 3) lv (.ref (b + of_k g 0) :: st)) : MN p l e R s m args below meth c D cs b nL cells slots Q n w pc lv st := fun H locs ls h0 h1 h2 h3 => by
  have hKn := C.2.1.1.1 ci _ hc
  refine W.newcK C.1.1 C.1.2.1 C.1.2.2.2.1 (pw_w C hcl) (pw_w C hinst) (pw_w C hini) rfl hdg hcells hslots hKn.2.1 h0 fun H1 kC hkC e1 z1 o1 => ?_
  have e0 : b + n = b + of_k g 0 := by rw [ho]
  rw [e0] at e1
  have := k H1 locs ls (by rw [z1]; omega) (xn_push h1 o1 (fun g' i' hd l1 l2 => ?_)) (pn_S h0 (n' := n + 1) (by rw [z1]; omega) (by omega) o1 h2) h3
  · rw [← e0] at this; exact this
  · obtain ⟨rfl, rfl⟩ := of_inj hd hg (by omega)
    rw [hw]
    exact ⟨_, hc, (u_born ty C.1.2.2.2.2 hin hKn hkC e1 hty).to hfs⟩
theorem pn_vret (C : Cx p s m args c cc nL own (XN D cs b 0)) {post : Wd → Prop} (hr : meth.sig.returnType = none) (hlk : meth.locks = false) (hdg : decode cc pc = .ok (.return_, 1)) (hp : post w) : MN p l e R s m args below meth c D cs b nL cells slots (MQ below (va_Qv post (pn_B D cs b n) (fun q => b ≤ q)) args s cells slots (fun q => b ≤ q)) n w pc lv [] := fun H locs ls h0 h1 h2 h3 => W.vret C.1.1 C.1.2.1 hr (fun t ht hW => ⟨⟨w, rfl, hp, by rw [ht]; exact h0, by rw [ht]; exact h1⟩, h2.F ht⟩) h2.2.2 hdg hlk
theorem pn_pre (C : Cx p s m args c cc nL own (XN D cs b 0)) (hO : pa_O s) {H : Heap} (h0 : H.size = b + n) (h1 : pw_H (XN D cs b n) w H) (As : List Value) : PreS s H (pn_Pc D cs b n w As) As := ⟨pn_Pc.blind, fun U hU hW => ⟨rfl, by rw [hU]; exact h0, by rw [hU]; exact h1, C.2.1.warm hW, hO.moved hW.alike⟩⟩
theorem pn_callI (C : Cx p s m args c cc nL own (XN D cs b 0)) (hO : pa_O s) {y : MethodName} {ws : List Cond} {rm : Room} {bytes : ByteArray} {maxL index n1 mc ms x n' : Nat} {As rest : List Value} {post : Wd → Prop} (hM : CtN l y ws rm D cs b n n' mc ms w (.ref x :: As) post) (cw : CallB R s args own index y bytes maxL none ws rm mc ms n1 ∧ y.name = "<init>" ∧ (Cond.instanceMethod y).before args s = true) (hn : As.length = n1) (hst : st = As.reverse ++ .ref x :: rest) (hcat : (rest.map fun v => v.category).sum ≤ 8) (hdg : decode cc pc = .ok (.invokespecial index, 3)) (hf : cells + mc ≤ R.cells ∧ slots + ms ≤ R.slots) (kk : ∀ w' : Wd, post w' → MN p l e R s m args below meth c D cs b nL (cells + mc) (slots + ms) Q n' w' (pc + 3) lv rest) : MN p l e R s m args below meth c D cs b nL cells slots Q n w pc lv st := fun H locs ls h0 h1 h2 h3 => by
  subst hst
  exact va_callv (va_runI (As := As) (rest := rest) C.1 hM cw (pn_pre C hO h0 h1 (.ref x :: As)) rfl hn h3.1 rfl (lv_room hcat) hdg hf) h2 (fun q _ h => h) (fun q h => h) (fun u t H1 locs1 ht hvm hp hB hz hk hS => kk u hp H1 locs1 ls (by rw [← ht]; exact hB.1) (by rw [← ht]; exact hB.2) hS h3)
theorem pn_callIN (C : Cx p s m args c cc nL own (XN D cs b 0)) (hO : pa_O s) {y : MethodName} {ws : List Cond} {rm : Room} {bytes : ByteArray} {maxL index n1 mc ms x n' : Nat} {As rest : List Value} {post : Wd → Prop} {host : String} (hM : CtN l y ws rm D cs b n n' mc ms w (.ref x :: As) post) (cw : va_CN R s args own index y host bytes maxL none ws rm mc ms n1 ∧ y.name = "<init>" ∧ (Cond.instanceMethod y).before args s = true) (hn : As.length = n1) (hst : st = As.reverse ++ .ref x :: rest) (hcat : (rest.map fun v => v.category).sum ≤ 8) (hdg : decode cc pc = .ok (.invokespecial index, 3)) (hf : cells + mc ≤ R.cells ∧ slots + ms ≤ R.slots) (kk : ∀ w' : Wd, post w' → MN p l e R s m args below meth c D cs b nL (cells + mc) (slots + ms) Q n' w' (pc + 3) lv rest) : MN p l e R s m args below meth c D cs b nL cells slots Q n w pc lv st := fun H locs ls h0 h1 h2 h3 => by
  subst hst
  exact va_callv (va_runIN (As := As) (rest := rest) C.1 hM cw (pn_pre C hO h0 h1 (.ref x :: As)) rfl hn h3.1 rfl (lv_room hcat) hdg hf) h2 (fun q _ h => h) (fun q h => h) (fun u t H1 locs1 ht hvm hp hB hz hk hS => kk u hp H1 locs1 ls (by rw [← ht]; exact hB.1) (by rw [← ht]; exact hB.2) hS h3)
theorem av_congr (c : ClassId) {N : Nat} {f g : Nat → Value} (h : ∀ j, j < N → f j = g j) : arrV c N f = arrV c N g := by
  unfold arrV
  have e : (fun j : Fin N => f j) = fun j : Fin N => g j := funext fun j => h j.1 j.2
  rw [e]
theorem mo_cell (c : ClassId) (N h0 : Nat) : ∀ i : Nat, Jvm.Free.Multi.outerC c N h0 i = arrV c N (fun j => va_rf (if j < i then some (h0 + 1 + j) else none)) := by
  intro i
  induction i with
  | zero =>
    show ({ cls := c, slots := Array.replicate N .null, vm := .none } : Cell) = _
    rw [arrV_new]
    exact av_congr c (fun j _ => by simp [va_rf])
  | succ i ih =>
    show (Jvm.Free.Multi.outerC c N h0 i).setSlot i (.ref (h0 + 1 + i)) = _
    rw [ih, arrV_store]
    refine av_congr c (fun j _ => ?_)
    rcases Nat.lt_trichotomy j i with q | q | q
    · simp [updV, Nat.ne_of_lt q, q, Nat.lt_succ_of_lt q]
    · subst q; simp [updV, va_rf]
    · simp [updV, Nat.ne_of_gt q, show ¬ j < i by omega, show ¬ j < i + 1 by omega]
theorem pn_mna (C : Cx p s m args c cc nL own (XN D cs b 0)) (hO : pa_O s) {index : Nat} (hcl : Cond.classLink own index "[[J" ∈ pw_all) (harr : Cond.arrayClass .long ∈ pw_all) (go gr : Nat) {k x : Int32} {N' K' : Nat} (ho : of_k go 0 = n) (hr : ∀ i, i < N' → of_k gr i = n + 1 + i) (hkeys : ∀ g i, dm_k g i = true → n ≤ of_k g i → of_k g i < n + 1 + N' → (g = go ∧ i = 0) ∨ (g = gr ∧ i < N')) (hw1 : w go 0 = aQ (XN D cs b 0) N' (fun i => some (b + of_k gr i))) (hw2 : ∀ i, i < N' → w gr i = aL (XN D cs b 0) K' (fun _ => 0)) (hn : ¬ x < 0) (hk : ¬ k < 0) (hN : x.toNatClampNeg = N') (hM : k.toNatClampNeg = K') (hb1 : N' * 4 ≤ 536870912) (hb2 : K' * componentBytes .long ≤ 536870912) (hb3 : K' ≤ 536870912) (hcells : cells + (1 + N') ≤ R.cells) (hslots : slots + (N' + N' * K') ≤ R.slots) (hdg : decode cc pc = .ok (.multianewarray index 2, 4)) (kk : MN p l e R s m args below meth c D cs b nL (cells + 1 + N') (slots + N' + N' * K') Q (n + 1 + N') w (pc + 4) lv (.ref (b + of_k go 0) :: st)) : MN p l e R s m args below meth c D cs b nL cells slots Q n w pc lv (.int k :: .int x :: st) := fun H locs ls h0 h1 h2 h3 => by
  subst hN
  subst hM
  intro T hT Xs
  obtain ⟨vm₁, cA, comp, -, fA, fC, -, -, X', step⟩ := Xs.multianewarray2F (ty := .long) C.1.1 C.1.2.2.2.1 (pw_w C hcl) hO (pw_w C harr) (g := F0 m pc ls (.int k :: .int x :: st)) rfl (by rw [C.1.2.1]; exact hdg) rfl hn hk hb1 hb2 hb3 rfl rfl hcells hslots
  have hA : cA = cs 2 := Option.some.inj (fA.symm.trans (C.2.1.1.2 2 _ rfl).2)
  have hc : comp = cs 1 := Option.some.inj (fC.symm.trans (C.2.1.1.2 1 _ rfl).2)
  subst hA
  subst hc
  generalize hF : Jvm.Free.Multi.fill (T.setVm vm₁) (cs 2) (cs 1) x.toNatClampNeg k.toNatClampNeg (defaultValue .long) x.toNatClampNeg = F at X' step
  have hTh : (T.setVm vm₁).heap = H := hT
  obtain ⟨f1, f2, -, -⟩ := Jvm.Free.Multi.fill_facts (T.setVm vm₁) (cs 2) (cs 1) x.toNatClampNeg k.toNatClampNeg (defaultValue .long) x.toNatClampNeg
  rw [hF, hTh, h0] at f1 f2
  have o1 : ∀ q : Nat, q < b + n → F.heap[q]? = H[q]? := fun q hq => by
    have := Jvm.Free.Multi.fill_old (T.setVm vm₁) (cs 2) (cs 1) x.toNatClampNeg k.toNatClampNeg (defaultValue .long) (a := q) (by rw [hTh, h0]; exact hq) x.toNatClampNeg
    rw [hF, hTh] at this
    exact this
  have hrow : ∀ j : Nat, j < x.toNatClampNeg → F.heap[b + n + 1 + j]? = some (Jvm.Free.Multi.innerC (cs 1) k.toNatClampNeg (defaultValue .long)) := fun j hj => by
    have := Jvm.Free.Multi.fill_inner (T.setVm vm₁) (cs 2) (cs 1) x.toNatClampNeg k.toNatClampNeg (defaultValue .long) x.toNatClampNeg j hj
    rw [hF, hTh, h0] at this
    exact this
  obtain ⟨t, a1, b1⟩ := kk F.heap locs ls (by rw [f1]; omega) (xn_push h1 o1 (fun g' i' hd l1 l2 => by
    rcases hkeys g' i' hd l1 l2 with ⟨rfl, rfl⟩ | ⟨rfl, hi⟩
    · rw [hw1]
      show F.heap[b + of_k g' 0]? = some (vp_cell (cs 2) _)
      rw [ho, f2, mo_cell]
      refine congrArg some ?_
      show _ = arrV (cs 2) x.toNatClampNeg (fun j => va_rf (some (b + of_k gr j)))
      refine av_congr (cs 2) (fun j hj => ?_)
      rw [if_pos hj, hr j hj]
      simp only [va_rf, Nat.add_assoc]
    · rw [hw2 i' hi]
      show F.heap[b + of_k g' i']? = some (vp_cell (cs 1) _)
      rw [hr i' hi, show b + (n + 1 + i') = b + n + 1 + i' by omega, hrow i' hi]
      exact congrArg some (arrV_new _ _ _))) (pn_S h0 (n' := n + 1 + x.toNatClampNeg) (by rw [f1]; omega) (by omega) o1 h2) h3 F rfl X'
  refine ⟨t, step t ?_, b1⟩
  have e : T.heap.size = b + of_k go 0 := by rw [hT, h0, ho]
  rw [e]
  exact a1
end PN
