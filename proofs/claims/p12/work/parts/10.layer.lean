/-! THE LAYER. A world is a function from keys (g, i) to cells; a layout X says where a key lies. MW: the machine at pc, with locals lv, stack st and world w, comes to Q, whatever the heap is that holds w. -/
abbrev Wd : Type := Nat → Nat → va_E
abbrev Lay : Type := va_G × (Nat → ClassId) × (Nat → Nat → Nat) × Nat × (Nat → Nat → Prop)
def pw_D (X : Lay) : va_G := X.1
def pw_c (X : Lay) : Nat → ClassId := X.2.1
def pw_a (X : Lay) : Nat → Nat → Nat := X.2.2.1
def pw_z (X : Lay) : Nat := X.2.2.2.1
def pw_d (X : Lay) : Nat → Nat → Prop := X.2.2.2.2
def pw_tys (X : Lay) : List (ClassId × FieldType) := [(pw_c X 0, .int), (pw_c X 1, .long), (pw_c X 2, .array .long), (pw_c X 3, .boolean)]
/-- cells: an int array, a long array, an array of rows, an object -/
abbrev aI (X : Lay) (n : Nat) (f : Nat → Int32) : va_E := .inl (pw_c X 0, n, .inl f)
abbrev aL (X : Lay) (n : Nat) (f : Nat → Int64) : va_E := .inl (pw_c X 1, n, .inr (.inl f))
abbrev aQ (X : Lay) (n : Nat) (f : Nat → Option Nat) : va_E := .inl (pw_c X 2, n, .inr (.inr (.inr (.inr f))))
abbrev aZ (X : Lay) (n : Nat) (f : Nat → Int32) : va_E := .inl (pw_c X 3, n, .inl f)
abbrev oB (ci : Nat) (fs : List Value) : va_E := .inr (ci, fs)
def pw_H (X : Lay) (w : Wd) (H : Heap) : Prop := ∀ g i, pw_d X g i → va_at (pw_D X) vwCl (pw_a X g i, w g i) H
def pw_I (X : Lay) : Prop := (∀ g i g' i', pw_d X g i → pw_d X g' i' → pw_a X g i = pw_a X g' i' → g = g' ∧ i = i') ∧ ∀ g i, pw_d X g i → pw_z X ≤ pw_a X g i
def pw_up (w : Wd) (g i : Nat) (e : va_E) : Wd := fun g' i' => if g' = g ∧ i' = i then e else w g' i'
theorem pw_up_self (w : Wd) (g i : Nat) (e : va_E) : pw_up w g i e g i = e := by simp [pw_up]
theorem pw_up_ne (w : Wd) {g i g' i' : Nat} (e : va_E) (h : ¬ (g' = g ∧ i' = i)) : pw_up w g i e g' i' = w g' i' := by simp only [pw_up, if_neg h]
theorem pw_up_g (w : Wd) {g i g' i' : Nat} (e : va_E) (h : g' ≠ g) : pw_up w g i e g' i' = w g' i' := pw_up_ne w e (fun q => h q.1)
theorem pw_up_i (w : Wd) {g i i' : Nat} (e : va_E) (h : i' ≠ i) : pw_up w g i e g i' = w g i' := pw_up_ne w e (fun q => h q.2)
theorem pw_up_up (w : Wd) (g i : Nat) (e e' : va_E) : pw_up (pw_up w g i e) g i e' = pw_up w g i e' := by
  funext g' i'
  by_cases h : g' = g ∧ i' = i
  · simp only [pw_up, if_pos h]
  · simp only [pw_up, if_neg h]
theorem pw_up_id (w : Wd) {g i : Nat} {e : va_E} (h : w g i = e) : pw_up w g i e = w := by
  funext g' i'
  by_cases hq : g' = g ∧ i' = i
  · obtain ⟨rfl, rfl⟩ := hq
    rw [pw_up_self, h]
  · rw [pw_up_ne w e hq]
theorem pw_H.set {X : Lay} {w : Wd} {H H1 : Heap} {g i : Nat} {e : va_E} (hI : pw_I X) (h : pw_H X w H) (hd : pw_d X g i) (he : va_at (pw_D X) vwCl (pw_a X g i, e) H1) (oq : ∀ q : Nat, q ≠ pw_a X g i → H1[q]? = H[q]?) : pw_H X (pw_up w g i e) H1 := by
  intro g' i' hd'
  by_cases hq : g' = g ∧ i' = i
  · obtain ⟨rfl, rfl⟩ := hq
    rw [pw_up_self]
    exact he
  · rw [pw_up_ne w e hq]
    exact (h g' i' hd').kept (oq _ (fun z => hq (hI.1 _ _ _ _ hd' hd z)))
/-- the locals, by their numbers -/
def pw_L (ls : Array Slot) (nL : Nat) (lv : List (Option Value)) : Prop := ls.size = nL ∧ lv_wf ls ∧ ∀ (i : Nat) (v : Value), lv[i]? = some (some v) → ls[i]? = some (.val v)
def pw_al (lv : List (Option Value)) : List (Nat × Value) := (List.range lv.length).filterMap (fun k => match lv[k]? with | some (some v) => some (k, v) | _ => none)
theorem pw_al_mem {lv : List (Option Value)} {k : Nat} {u : Value} (h : lv[k]? = some (some u)) : (k, u) ∈ pw_al lv := by
  unfold pw_al
  rw [List.mem_filterMap]
  exact ⟨k, List.mem_range.mpr (List.getElem?_eq_some_iff.mp h).1, by rw [h]⟩
theorem pw_al_get {lv : List (Option Value)} {q : Nat × Value} (h : q ∈ pw_al lv) : lv[q.1]? = some (some q.2) := by
  unfold pw_al at h
  obtain ⟨k, -, hk⟩ := List.mem_filterMap.mp h
  split at hk
  · rename_i v hv
    cases hk
    exact hv
  · cases hk
theorem pw_L.has {ls : Array Slot} {nL : Nat} {lv : List (Option Value)} (h : pw_L ls nL lv) : lv_has ls nL (pw_al lv) := ⟨h.1, h.2.1, fun q hq => h.2.2 q.1 q.2 (pw_al_get hq)⟩
def pw_k1 (lv : List (Option Value)) (j : Nat) : List (Option Value) := match lv[j]? with
  | some (some (.long _)) => lv.set j none
  | some (some (.double _)) => lv.set j none
  | _ => lv
def pw_p1 (lv : List (Option Value)) (i : Nat) (v : Value) : List (Option Value) := match i with
  | 0 => lv.set 0 (some v)
  | j + 1 => (pw_k1 lv j).set (j + 1) (some v)
def pw_p2 (lv : List (Option Value)) (i : Nat) (v : Value) : List (Option Value) := (pw_p1 lv i v).set (i + 1) none
theorem pw_set_get {lv : List (Option Value)} {j k : Nat} {x : Option Value} {u : Value} (h : (lv.set j x)[k]? = some (some u)) : (k = j ∧ x = some u) ∨ (k ≠ j ∧ lv[k]? = some (some u)) := by
  by_cases hk : k = j
  · subst hk
    refine Or.inl ⟨rfl, ?_⟩
    rw [List.getElem?_set] at h
    split at h
    · split at h
      · exact Option.some.inj h
      · cases h
    · rename_i h2; exact absurd rfl h2
  · refine Or.inr ⟨hk, ?_⟩
    rw [List.getElem?_set_ne (Ne.symm hk)] at h
    exact h
theorem pw_k1_get {lv : List (Option Value)} {j k : Nat} {u : Value} (h : (pw_k1 lv j)[k]? = some (some u)) : lv[k]? = some (some u) ∧ (k = j → ¬ u.category = 2) := by
  unfold pw_k1 at h
  split at h
  · rcases pw_set_get h with ⟨-, h2⟩ | ⟨h1, h2⟩
    · cases h2
    · exact ⟨h2, fun q => absurd q h1⟩
  · rcases pw_set_get h with ⟨-, h2⟩ | ⟨h1, h2⟩
    · cases h2
    · exact ⟨h2, fun q => absurd q h1⟩
  · rename_i n1 n2
    refine ⟨h, fun q => ?_⟩
    subst q
    cases u with
    | long x => exact absurd h (n1 x)
    | double x => exact absurd h (n2 x)
    | _ => simp [Value.category]
theorem pw_p1_get {lv : List (Option Value)} {i k : Nat} {v u : Value} (h : (pw_p1 lv i v)[k]? = some (some u)) : (k = i ∧ u = v) ∨ (k ≠ i ∧ lv[k]? = some (some u) ∧ (k + 1 = i → ¬ u.category = 2)) := by
  cases i with
  | zero =>
    rcases pw_set_get h with ⟨h1, h2⟩ | ⟨h1, h2⟩
    · exact Or.inl ⟨h1, (Option.some.inj h2).symm⟩
    · exact Or.inr ⟨h1, h2, fun q => by omega⟩
  | succ j =>
    rcases pw_set_get h with ⟨h1, h2⟩ | ⟨h1, h2⟩
    · exact Or.inl ⟨h1, (Option.some.inj h2).symm⟩
    · obtain ⟨h3, h4⟩ := pw_k1_get h2
      exact Or.inr ⟨h1, h3, fun q => h4 (by omega)⟩
theorem pw_L.put1 {ls' : Array Slot} {nL i : Nat} {v : Value} {lv : List (Option Value)} (h : lv_has ls' nL ((i, v) :: (pw_al lv).filter (fun q => !(q.1 == i) && !(q.1 + 1 == i && q.2.category == 2)))) : pw_L ls' nL (pw_p1 lv i v) := by
  refine ⟨h.1, h.2.1, fun k u hk => h.2.2 (k, u) ?_⟩
  rcases pw_p1_get hk with ⟨rfl, rfl⟩ | ⟨h1, h2, h3⟩
  · exact List.mem_cons_self
  · refine List.mem_cons_of_mem _ (List.mem_filter.mpr ⟨pw_al_mem h2, ?_⟩)
    by_cases hq : k + 1 = i
    · simp [h1, h3 hq]
    · simp [h1, hq]
theorem pw_L.put2 {ls' : Array Slot} {nL i : Nat} {v : Value} {lv : List (Option Value)} (h : lv_has ls' nL ((i, v) :: (pw_al lv).filter (fun q => !(q.1 == i) && (!(q.1 == i + 1) && !(q.1 + 1 == i && q.2.category == 2))))) : pw_L ls' nL (pw_p2 lv i v) := by
  refine ⟨h.1, h.2.1, fun k u hk => h.2.2 (k, u) ?_⟩
  rcases pw_set_get hk with ⟨-, h9⟩ | ⟨h8, h9⟩
  · cases h9
  rcases pw_p1_get h9 with ⟨rfl, rfl⟩ | ⟨h1, h2, h3⟩
  · exact List.mem_cons_self
  · refine List.mem_cons_of_mem _ (List.mem_filter.mpr ⟨pw_al_mem h2, ?_⟩)
    by_cases hq : k + 1 = i
    · simp [h1, h8, h3 hq]
    · simp [h1, h8, hq]
def pw_so (x : Slot) : Option Value := match x with
  | .val v => some v
  | _ => none
def pw_ent (vs : List Value) (n : Nat) : List (Option Value) := (lg_sl vs ++ List.replicate (n - (lg_sl vs).length) Slot.unset).map pw_so
theorem pw_entry (vs : List Value) {n : Nat} (h : (lg_sl vs).length ≤ n) : pw_L ((lg_sl vs ++ List.replicate (n - (lg_sl vs).length) Slot.unset).toArray) n (pw_ent vs n) := by
  have h0 := lv_entry vs h
  refine ⟨h0.1, h0.2.1, fun i v hv => ?_⟩
  unfold pw_ent at hv
  rw [List.getElem?_map] at hv
  rw [List.getElem?_toArray]
  cases hx : (lg_sl vs ++ List.replicate (n - (lg_sl vs).length) Slot.unset)[i]? with
  | none => rw [hx] at hv; cases hv
  | some x =>
    rw [hx] at hv
    cases x with
    | val u => cases hv; rfl
    | unset => cases hv
    | second => cases hv
theorem pw_isN_on {w : Cond} (h : pw_isN w = true) : w.onTables = true := by
  cases w <;> first | rfl | cases h
theorem pw_isN_warm {w : Cond} (h : pw_isN w = true) {s U : State} (hW : s.WarmedH U.vm) (hZ : va_Nw w s) : va_Nw w U := by
  cases w <;> first | exact va_Nw.warmF hW hZ | exact va_Nw.warmM hW hZ | cases h
def pw_K (X : Lay) (U : State) : Prop := va_K (pw_D X) vwCl (pw_tys X) U ∧ ∀ w ∈ pw_nw, va_Nw w U
theorem pw_K.warm {X : Lay} {s U : State} (hW : s.WarmedH U.vm) (h : pw_K X s) : pw_K X U := ⟨va_K.moved hW.alike h.1, fun w hw => pw_isN_warm (pw_nw_ok w hw) hW (h.2 w hw)⟩
theorem pw_K.same {X : Lay} {s U : State} (hv : s.vm = U.vm) (h : pw_K X s) : pw_K X U := ⟨va_K.moved (by rw [hv]; exact Vm.Alike.refl U.vm) h.1, fun w hw => va_Nw.same (pw_isN_on (pw_nw_ok w hw)) hv (h.2 w hw)⟩
def MW (p : Program) (l : Launch) (e : Env) (R : Room) (s : State) (m : MethodId) (args : Array Value) (below : List Frame) (meth : Method) (c : Code) (X : Lay) (nL cells slots : Nat) (Q : State → Prop) (w : Wd) (pc : Nat) (lv : List (Option Value)) (st : List Value) : Prop :=
  ∀ (H : Heap) (locs : List Loc) (ls : Array Slot), pw_H X w H → va_S (fun q => pw_z X ≤ q) s.heap H locs → pw_L ls nL lv → W p l e R s m args below meth c H locs cells slots Q (F0 m pc ls st)
/-- what holds of the method's start, all through its walk -/
def Cx (p : Program) (s : State) (m : MethodId) (args : Array Value) (c : Code) (cc : ByteArray) (nL : Nat) (own : String) (X : Lay) : Prop :=
  CallFix p m c cc nL s args pw_all own ∧ pw_K X s ∧ pw_I X ∧ pw_z X ≤ s.heap.size
def pw_Pc (X : Lay) (w : Wd) (av : List Value) : Array Value → State → Prop := va_Pc av (fun U => pw_z X ≤ U.heap.size ∧ pw_H X w U.heap ∧ pw_K X U)
def pw_B (X : Lay) : Wd → State → Prop := fun w t => pw_H X w t.heap
def pw_F (X : Lay) : Nat → Prop := fun q => pw_z X ≤ q
theorem pw_Pc.blind {X : Lay} {w : Wd} {av : List Value} : FrameBlind (pw_Pc X w av) := fun a U g mk q => by
  obtain ⟨q0, q1, q2, q3⟩ := q
  exact ⟨q0, q1, q2, pw_K.same (s := U) (U := U.calling g mk a) rfl q3⟩
/-- contracts: a method that makes nothing; its answer an int (a boolean, too), a long, nothing, a cell -/
abbrev CtI (l : Launch) (y : MethodName) (ws : List Cond) (rm : Room) (X : Lay) (w : Wd) (av : List Value) (post : Int32 → Wd → Prop) : Prop := Met l y ws rm (pw_Pc X w av) (va_Qi post (pw_B X) (pw_F X)) 0 0 (pw_F X)
abbrev CtL (l : Launch) (y : MethodName) (ws : List Cond) (rm : Room) (X : Lay) (w : Wd) (av : List Value) (post : Int64 → Wd → Prop) : Prop := Met l y ws rm (pw_Pc X w av) (va_Ql post (pw_B X) (pw_F X)) 0 0 (pw_F X)
abbrev CtV (l : Launch) (y : MethodName) (ws : List Cond) (rm : Room) (X : Lay) (w : Wd) (av : List Value) (post : Wd → Prop) : Prop := Met l y ws rm (pw_Pc X w av) (va_Qv post (pw_B X) (pw_F X)) 0 0 (pw_F X)
abbrev CtR (l : Launch) (y : MethodName) (ws : List Cond) (rm : Room) (X : Lay) (w : Wd) (av : List Value) (g i : Nat) (post : Wd → Prop) : Prop := Met l y ws rm (pw_Pc X w av) (va_Qr post (fun w a t => a = pw_a X g i ∧ pw_H X w t.heap) (pw_F X)) 0 0 (pw_F X)
/-- the words of a method: its own code, and all words of the tables -/
def pw_ws (y : MethodName) (cc : ByteArray) (maxL : Nat) (ret : Option FieldType) : List Cond := Cond.code y cc maxL ret :: pw_all
theorem pw_gws {y : MethodName} {cc : ByteArray} {maxL : Nat} {ret : Option FieldType} (h : Cond.code y cc maxL ret ∈ pw_all) : GoodIn pw_all (pw_ws y cc maxL ret) := by
  intro w hw
  rcases List.mem_cons.mp hw with rfl | hw
  · exact ⟨h, (pw_good _ h).2⟩
  · exact ⟨hw, (pw_good _ hw).2⟩
/-- a contract from the walk of the body -/
theorem pw_open {l : Launch} {y : MethodName} {rm : Room} {X : Lay} {w : Wd} {av : List Value} {Qc : Array Value → State → Outcome → State → Prop} {mc ms : Nat} {cc : ByteArray} {maxL : Nat} {ret : Option FieldType}
    (hy : plainName y.cls = true) (hI : pw_I X) (lv : List (Option Value)) (hlv : pw_ent av maxL = lv) (hle : (lg_sl av).length ≤ maxL)
    (body : ∀ (p : Program) (e : Env) (s : State) (m : MethodId) (args : Array Value) (below : List Frame) (meth : Method) (c : Code), args = av.toArray → Cx p s m args c cc maxL y.cls X → meth.sig.returnType = ret → meth.locks = false → meth.name = y.name → MW p l e rm s m args below meth c X maxL 0 0 (MQ below Qc args s mc ms (pw_F X)) w 0 lv []) : Met l y (pw_ws y cc maxL ret) rm (pw_Pc X w av) Qc mc ms (pw_F X) := by
  refine Met.ofW (cc := cc) (maxL := maxL) (ret := ret) hy rfl ?_
  intro p e s m args below meth c s₁ B hml hv
  obtain ⟨rfl, hz, hH, hK⟩ := hv
  have hb := body p e s m av.toArray below meth c rfl ⟨⟨B.exec, B.bytes, hml, findClass_of_methodNamed B.named, fun w hw => atoms_spec (ws := pw_ws y cc maxL ret) B.pre w (List.mem_cons_of_mem _ hw)⟩, hK, hI, hz⟩ B.returns B.notSynchronized (name_of_methodNamed B.named B.method).1
  rw [lg_entry_eq]
  exact hb s.heap [] _ hH va_S.rf (by rw [← hlv]; exact pw_entry av hle)
section PW
variable {p : Program} {l : Launch} {e : Env} {R : Room} {s : State} {m : MethodId} {args : Array Value} {below : List Frame} {meth : Method} {c : Code} {X : Lay} {cc : ByteArray} {nL cells slots : Nat} {Q : State → Prop} {own : String} {w : Wd} {pc : Nat} {lv : List (Option Value)} {st : List Value}
theorem MW.lveq {lv' : List (Option Value)} (h : lv = lv') (k : MW p l e R s m args below meth c X nL cells slots Q w pc lv' st) : MW p l e R s m args below meth c X nL cells slots Q w pc lv st := h ▸ k
/-- fewer locals are known -/
theorem MW.less {lv' : List (Option Value)} (h : ∀ (i : Nat) (v : Value), lv'[i]? = some (some v) → lv[i]? = some (some v)) (k : MW p l e R s m args below meth c X nL cells slots Q w pc lv' st) : MW p l e R s m args below meth c X nL cells slots Q w pc lv st := fun H locs ls h1 h2 h3 => k H locs ls h1 h2 ⟨h3.1, h3.2.1, fun i v hv => h3.2.2 i v (h i v hv)⟩
theorem MW.world {w' : Wd} (h : w = w') (k : MW p l e R s m args below meth c X nL cells slots Q w' pc lv st) : MW p l e R s m args below meth c X nL cells slots Q w pc lv st := h ▸ k
theorem pw_iconst (C : Cx p s m args c cc nL own X) {n : Int} (hdg : decode cc pc = .ok (.iconst n, 1)) {v : Int32} (hv : Int32.ofInt n = v) (k : MW p l e R s m args below meth c X nL cells slots Q w (pc + 1) lv (.int v :: st)) : MW p l e R s m args below meth c X nL cells slots Q w pc lv st := fun H locs ls h1 h2 h3 => lv_iconst C.1.1 C.1.2.1 hdg hv (k H locs ls h1 h2 h3)
theorem pw_bipush (C : Cx p s m args c cc nL own X) {n : Int} (hdg : decode cc pc = .ok (.bipush n, 2)) {v : Int32} (hv : (Int8.ofInt n).toInt32 = v) (k : MW p l e R s m args below meth c X nL cells slots Q w (pc + 2) lv (.int v :: st)) : MW p l e R s m args below meth c X nL cells slots Q w pc lv st := fun H locs ls h1 h2 h3 => lv_bipush C.1.1 C.1.2.1 hdg hv (k H locs ls h1 h2 h3)
theorem pw_sipush (C : Cx p s m args c cc nL own X) {n : Int} (hdg : decode cc pc = .ok (.sipush n, 3)) {v : Int32} (hv : (Int16.ofInt n).toInt32 = v) (k : MW p l e R s m args below meth c X nL cells slots Q w (pc + 3) lv (.int v :: st)) : MW p l e R s m args below meth c X nL cells slots Q w pc lv st := fun H locs ls h1 h2 h3 => lv_sipush C.1.1 C.1.2.1 hdg hv (k H locs ls h1 h2 h3)
theorem pw_lconst (C : Cx p s m args c cc nL own X) {n : Fin 2} (hdg : decode cc pc = .ok (.lconst n, 1)) {v : Int64} (hv : Int64.ofNat (n : Nat) = v) (k : MW p l e R s m args below meth c X nL cells slots Q w (pc + 1) lv (.long v :: st)) : MW p l e R s m args below meth c X nL cells slots Q w pc lv st := fun H locs ls h1 h2 h3 => lv_lconst C.1.1 C.1.2.1 hdg hv (k H locs ls h1 h2 h3)
theorem pw_ldc (C : Cx p s m args c cc nL own X) {index : Nat} (hdg : decode cc pc = .ok (.ldc index, 2)) {v : Int32} (hc : Cond.constant own index v ∈ pw_all) (k : MW p l e R s m args below meth c X nL cells slots Q w (pc + 2) lv (.int v :: st)) : MW p l e R s m args below meth c X nL cells slots Q w pc lv st := fun H locs ls h1 h2 h3 => lv_ldc C.1.1 C.1.2.1 C.1.2.2.2.1 (C.1.2.2.2.2 _ hc) hdg (k H locs ls h1 h2 h3)
theorem pw_ldc_w (C : Cx p s m args c cc nL own X) {index : Nat} (hdg : decode cc pc = .ok (.ldc_w index, 3)) {v : Int32} (hc : Cond.constant own index v ∈ pw_all) (k : MW p l e R s m args below meth c X nL cells slots Q w (pc + 3) lv (.int v :: st)) : MW p l e R s m args below meth c X nL cells slots Q w pc lv st := fun H locs ls h1 h2 h3 => lv_ldcw C.1.1 C.1.2.1 C.1.2.2.2.1 (C.1.2.2.2.2 _ hc) hdg (k H locs ls h1 h2 h3)
theorem pw_ldc2_w (C : Cx p s m args c cc nL own X) {index : Nat} (hdg : decode cc pc = .ok (.ldc2_w index, 3)) {v : Int64} (hc : Cond.constantLong own index v ∈ pw_all) (k : MW p l e R s m args below meth c X nL cells slots Q w (pc + 3) lv (.long v :: st)) : MW p l e R s m args below meth c X nL cells slots Q w pc lv st := fun H locs ls h1 h2 h3 => lv_ldc2 C.1.1 C.1.2.1 C.1.2.2.2.1 (C.1.2.2.2.2 _ hc) hdg (k H locs ls h1 h2 h3)
theorem pw_iload_n (C : Cx p s m args c cc nL own X) {k0 : Fin 4} (hdg : decode cc pc = .ok (.iload_n k0, 1)) {x : Int32} (hv : lv[(k0 : Nat)]? = some (some (.int x))) (k : MW p l e R s m args below meth c X nL cells slots Q w (pc + 1) lv (.int x :: st)) : MW p l e R s m args below meth c X nL cells slots Q w pc lv st := fun H locs ls h1 h2 h3 => lv_iload_n C.1.1 C.1.2.1 hdg rfl (h3.2.2 _ _ hv) (k H locs ls h1 h2 h3)
theorem pw_iload (C : Cx p s m args c cc nL own X) {i : Nat} (hdg : decode cc pc = .ok (.iload i, 2)) {x : Int32} (hv : lv[i]? = some (some (.int x))) (k : MW p l e R s m args below meth c X nL cells slots Q w (pc + 2) lv (.int x :: st)) : MW p l e R s m args below meth c X nL cells slots Q w pc lv st := fun H locs ls h1 h2 h3 => lv_iload C.1.1 C.1.2.1 hdg (h3.2.2 _ _ hv) (k H locs ls h1 h2 h3)
theorem pw_istore_n (C : Cx p s m args c cc nL own X) {k0 : Fin 4} {x : Int32} (hdg : decode cc pc = .ok (.istore_n k0, 1)) (hn : (k0 : Nat) < nL) (k : MW p l e R s m args below meth c X nL cells slots Q w (pc + 1) (pw_p1 lv k0 (.int x)) st) : MW p l e R s m args below meth c X nL cells slots Q w pc lv (.int x :: st) := fun H locs ls h1 h2 h3 => lv_istore_n C.1.1 C.1.2.1 hdg rfl h3.has hn rfl (fun ls9 h9 => k H locs ls9 h1 h2 (pw_L.put1 h9))
theorem pw_istore (C : Cx p s m args c cc nL own X) {i : Nat} {x : Int32} (hdg : decode cc pc = .ok (.istore i, 2)) (hn : i < nL) (k : MW p l e R s m args below meth c X nL cells slots Q w (pc + 2) (pw_p1 lv i (.int x)) st) : MW p l e R s m args below meth c X nL cells slots Q w pc lv (.int x :: st) := fun H locs ls h1 h2 h3 => lv_istore C.1.1 C.1.2.1 hdg h3.has hn rfl (fun ls9 h9 => k H locs ls9 h1 h2 (pw_L.put1 h9))
theorem pw_lload_n (C : Cx p s m args c cc nL own X) {k0 : Fin 4} (hdg : decode cc pc = .ok (.lload_n k0, 1)) {x : Int64} (hv : lv[(k0 : Nat)]? = some (some (.long x))) (k : MW p l e R s m args below meth c X nL cells slots Q w (pc + 1) lv (.long x :: st)) : MW p l e R s m args below meth c X nL cells slots Q w pc lv st := fun H locs ls h1 h2 h3 => lv_lload_n C.1.1 C.1.2.1 hdg rfl (h3.2.2 _ _ hv) (k H locs ls h1 h2 h3)
theorem pw_lload (C : Cx p s m args c cc nL own X) {i : Nat} (hdg : decode cc pc = .ok (.lload i, 2)) {x : Int64} (hv : lv[i]? = some (some (.long x))) (k : MW p l e R s m args below meth c X nL cells slots Q w (pc + 2) lv (.long x :: st)) : MW p l e R s m args below meth c X nL cells slots Q w pc lv st := fun H locs ls h1 h2 h3 => lv_lload C.1.1 C.1.2.1 hdg (h3.2.2 _ _ hv) (k H locs ls h1 h2 h3)
theorem pw_lstore_n (C : Cx p s m args c cc nL own X) {k0 : Fin 4} {x : Int64} (hdg : decode cc pc = .ok (.lstore_n k0, 1)) (hn : (k0 : Nat) + 1 < nL) (k : MW p l e R s m args below meth c X nL cells slots Q w (pc + 1) (pw_p2 lv k0 (.long x)) st) : MW p l e R s m args below meth c X nL cells slots Q w pc lv (.long x :: st) := fun H locs ls h1 h2 h3 => lv_lstore_n C.1.1 C.1.2.1 hdg rfl h3.has hn rfl (fun ls9 h9 => k H locs ls9 h1 h2 (pw_L.put2 h9))
theorem pw_lstore (C : Cx p s m args c cc nL own X) {i : Nat} {x : Int64} (hdg : decode cc pc = .ok (.lstore i, 2)) (hn : i + 1 < nL) (k : MW p l e R s m args below meth c X nL cells slots Q w (pc + 2) (pw_p2 lv i (.long x)) st) : MW p l e R s m args below meth c X nL cells slots Q w pc lv (.long x :: st) := fun H locs ls h1 h2 h3 => lv_lstore C.1.1 C.1.2.1 hdg h3.has hn rfl (fun ls9 h9 => k H locs ls9 h1 h2 (pw_L.put2 h9))
theorem pw_aload_n (C : Cx p s m args c cc nL own X) {k0 : Fin 4} (hdg : decode cc pc = .ok (.aload_n k0, 1)) {x : Nat} (hv : lv[(k0 : Nat)]? = some (some (.ref x))) (k : MW p l e R s m args below meth c X nL cells slots Q w (pc + 1) lv (.ref x :: st)) : MW p l e R s m args below meth c X nL cells slots Q w pc lv st := fun H locs ls h1 h2 h3 => lv_aload_n C.1.1 C.1.2.1 hdg rfl (h3.2.2 _ _ hv) (k H locs ls h1 h2 h3)
theorem pw_aload (C : Cx p s m args c cc nL own X) {i : Nat} (hdg : decode cc pc = .ok (.aload i, 2)) {x : Nat} (hv : lv[i]? = some (some (.ref x))) (k : MW p l e R s m args below meth c X nL cells slots Q w (pc + 2) lv (.ref x :: st)) : MW p l e R s m args below meth c X nL cells slots Q w pc lv st := fun H locs ls h1 h2 h3 => lv_aload C.1.1 C.1.2.1 hdg (h3.2.2 _ _ hv) (k H locs ls h1 h2 h3)
theorem pw_astore_n (C : Cx p s m args c cc nL own X) {k0 : Fin 4} {x : Nat} (hdg : decode cc pc = .ok (.astore_n k0, 1)) (hn : (k0 : Nat) < nL) (k : MW p l e R s m args below meth c X nL cells slots Q w (pc + 1) (pw_p1 lv k0 (.ref x)) st) : MW p l e R s m args below meth c X nL cells slots Q w pc lv (.ref x :: st) := fun H locs ls h1 h2 h3 => lv_astore_n C.1.1 C.1.2.1 hdg rfl h3.has hn rfl (fun ls9 h9 => k H locs ls9 h1 h2 (pw_L.put1 h9))
theorem pw_astore (C : Cx p s m args c cc nL own X) {i : Nat} {x : Nat} (hdg : decode cc pc = .ok (.astore i, 2)) (hn : i < nL) (k : MW p l e R s m args below meth c X nL cells slots Q w (pc + 2) (pw_p1 lv i (.ref x)) st) : MW p l e R s m args below meth c X nL cells slots Q w pc lv (.ref x :: st) := fun H locs ls h1 h2 h3 => lv_astore C.1.1 C.1.2.1 hdg h3.has hn rfl (fun ls9 h9 => k H locs ls9 h1 h2 (pw_L.put1 h9))
theorem pw_iinc (C : Cx p s m args c cc nL own X) {i : Nat} {n : Int} {x : Int32} (hdg : decode cc pc = .ok (.iinc i n, 3)) (hv : lv[i]? = some (some (.int x))) (hn : i < nL) (k : MW p l e R s m args below meth c X nL cells slots Q w (pc + 3) (pw_p1 lv i (.int (x + Int32.ofInt n))) st) : MW p l e R s m args below meth c X nL cells slots Q w pc lv st := fun H locs ls h1 h2 h3 => by
  obtain ⟨k0, hk0⟩ := List.getElem?_of_mem (pw_al_mem hv)
  exact lv_iinc C.1.1 C.1.2.1 hdg h3.has hk0 rfl hn rfl (fun ls9 h9 => k H locs ls9 h1 h2 (pw_L.put1 h9))
theorem pw_iadd (C : Cx p s m args c cc nL own X) {x y : Int32} (hdg : decode cc pc = .ok (.iadd, 1)) (k : MW p l e R s m args below meth c X nL cells slots Q w (pc + 1) lv (.int (x + y) :: st)) : MW p l e R s m args below meth c X nL cells slots Q w pc lv (.int y :: .int x :: st) := fun H locs ls h1 h2 h3 => lv_iadd C.1.1 C.1.2.1 hdg (k H locs ls h1 h2 h3)
theorem pw_isub (C : Cx p s m args c cc nL own X) {x y : Int32} (hdg : decode cc pc = .ok (.isub, 1)) (k : MW p l e R s m args below meth c X nL cells slots Q w (pc + 1) lv (.int (x - y) :: st)) : MW p l e R s m args below meth c X nL cells slots Q w pc lv (.int y :: .int x :: st) := fun H locs ls h1 h2 h3 => lv_isub C.1.1 C.1.2.1 hdg (k H locs ls h1 h2 h3)
theorem pw_imul (C : Cx p s m args c cc nL own X) {x y : Int32} (hdg : decode cc pc = .ok (.imul, 1)) (k : MW p l e R s m args below meth c X nL cells slots Q w (pc + 1) lv (.int (x * y) :: st)) : MW p l e R s m args below meth c X nL cells slots Q w pc lv (.int y :: .int x :: st) := fun H locs ls h1 h2 h3 => lv_imul C.1.1 C.1.2.1 hdg (k H locs ls h1 h2 h3)
theorem pw_iand (C : Cx p s m args c cc nL own X) {x y : Int32} (hdg : decode cc pc = .ok (.iand, 1)) (k : MW p l e R s m args below meth c X nL cells slots Q w (pc + 1) lv (.int (x &&& y) :: st)) : MW p l e R s m args below meth c X nL cells slots Q w pc lv (.int y :: .int x :: st) := fun H locs ls h1 h2 h3 => lv_iand C.1.1 C.1.2.1 hdg (k H locs ls h1 h2 h3)
theorem pw_ior (C : Cx p s m args c cc nL own X) {x y : Int32} (hdg : decode cc pc = .ok (.ior, 1)) (k : MW p l e R s m args below meth c X nL cells slots Q w (pc + 1) lv (.int (x ||| y) :: st)) : MW p l e R s m args below meth c X nL cells slots Q w pc lv (.int y :: .int x :: st) := fun H locs ls h1 h2 h3 => lv_ior C.1.1 C.1.2.1 hdg (k H locs ls h1 h2 h3)
theorem pw_ixor (C : Cx p s m args c cc nL own X) {x y : Int32} (hdg : decode cc pc = .ok (.ixor, 1)) (k : MW p l e R s m args below meth c X nL cells slots Q w (pc + 1) lv (.int (x ^^^ y) :: st)) : MW p l e R s m args below meth c X nL cells slots Q w pc lv (.int y :: .int x :: st) := fun H locs ls h1 h2 h3 => lv_ixor C.1.1 C.1.2.1 hdg (k H locs ls h1 h2 h3)
theorem pw_ishl (C : Cx p s m args c cc nL own X) {x y : Int32} (hdg : decode cc pc = .ok (.ishl, 1)) (k : MW p l e R s m args below meth c X nL cells slots Q w (pc + 1) lv (.int (x <<< (y &&& 31)) :: st)) : MW p l e R s m args below meth c X nL cells slots Q w pc lv (.int y :: .int x :: st) := fun H locs ls h1 h2 h3 => lv_ishl C.1.1 C.1.2.1 hdg (k H locs ls h1 h2 h3)
theorem pw_ishr (C : Cx p s m args c cc nL own X) {x y : Int32} (hdg : decode cc pc = .ok (.ishr, 1)) (k : MW p l e R s m args below meth c X nL cells slots Q w (pc + 1) lv (.int (x >>> (y &&& 31)) :: st)) : MW p l e R s m args below meth c X nL cells slots Q w pc lv (.int y :: .int x :: st) := fun H locs ls h1 h2 h3 => lv_ishr C.1.1 C.1.2.1 hdg (k H locs ls h1 h2 h3)
theorem pw_iushr (C : Cx p s m args c cc nL own X) {x y : Int32} (hdg : decode cc pc = .ok (.iushr, 1)) (k : MW p l e R s m args below meth c X nL cells slots Q w (pc + 1) lv (.int (x.toUInt32 >>> (y.toUInt32 &&& Int32.toUInt32 31)).toInt32 :: st)) : MW p l e R s m args below meth c X nL cells slots Q w pc lv (.int y :: .int x :: st) := fun H locs ls h1 h2 h3 => lv_iushr C.1.1 C.1.2.1 hdg rfl (k H locs ls h1 h2 h3)
theorem pw_ineg (C : Cx p s m args c cc nL own X) {x : Int32} (hdg : decode cc pc = .ok (.ineg, 1)) (k : MW p l e R s m args below meth c X nL cells slots Q w (pc + 1) lv (.int (-x) :: st)) : MW p l e R s m args below meth c X nL cells slots Q w pc lv (.int x :: st) := fun H locs ls h1 h2 h3 => lv_ineg C.1.1 C.1.2.1 hdg (k H locs ls h1 h2 h3)
theorem pw_idiv (C : Cx p s m args c cc nL own X) {x y : Int32} (hdg : decode cc pc = .ok (.idiv, 1)) (hne : ¬ y = 0) (k : MW p l e R s m args below meth c X nL cells slots Q w (pc + 1) lv (.int (x / y) :: st)) : MW p l e R s m args below meth c X nL cells slots Q w pc lv (.int y :: .int x :: st) := fun H locs ls h1 h2 h3 => lv_idiv C.1.1 C.1.2.1 hdg hne (k H locs ls h1 h2 h3)
theorem pw_irem (C : Cx p s m args c cc nL own X) {x y : Int32} (hdg : decode cc pc = .ok (.irem, 1)) (hne : ¬ y = 0) (k : MW p l e R s m args below meth c X nL cells slots Q w (pc + 1) lv (.int (x - x / y * y) :: st)) : MW p l e R s m args below meth c X nL cells slots Q w pc lv (.int y :: .int x :: st) := fun H locs ls h1 h2 h3 => lv_irem C.1.1 C.1.2.1 hdg hne (k H locs ls h1 h2 h3)
theorem pw_ladd (C : Cx p s m args c cc nL own X) {x y : Int64} (hdg : decode cc pc = .ok (.ladd, 1)) (k : MW p l e R s m args below meth c X nL cells slots Q w (pc + 1) lv (.long (x + y) :: st)) : MW p l e R s m args below meth c X nL cells slots Q w pc lv (.long y :: .long x :: st) := fun H locs ls h1 h2 h3 => lv_ladd C.1.1 C.1.2.1 hdg (k H locs ls h1 h2 h3)
theorem pw_lsub (C : Cx p s m args c cc nL own X) {x y : Int64} (hdg : decode cc pc = .ok (.lsub, 1)) (k : MW p l e R s m args below meth c X nL cells slots Q w (pc + 1) lv (.long (x - y) :: st)) : MW p l e R s m args below meth c X nL cells slots Q w pc lv (.long y :: .long x :: st) := fun H locs ls h1 h2 h3 => lv_lsub C.1.1 C.1.2.1 hdg (k H locs ls h1 h2 h3)
theorem pw_lmul (C : Cx p s m args c cc nL own X) {x y : Int64} (hdg : decode cc pc = .ok (.lmul, 1)) (k : MW p l e R s m args below meth c X nL cells slots Q w (pc + 1) lv (.long (x * y) :: st)) : MW p l e R s m args below meth c X nL cells slots Q w pc lv (.long y :: .long x :: st) := fun H locs ls h1 h2 h3 => lv_lmul C.1.1 C.1.2.1 hdg (k H locs ls h1 h2 h3)
theorem pw_land (C : Cx p s m args c cc nL own X) {x y : Int64} (hdg : decode cc pc = .ok (.land, 1)) (k : MW p l e R s m args below meth c X nL cells slots Q w (pc + 1) lv (.long (x &&& y) :: st)) : MW p l e R s m args below meth c X nL cells slots Q w pc lv (.long y :: .long x :: st) := fun H locs ls h1 h2 h3 => lv_land C.1.1 C.1.2.1 hdg (k H locs ls h1 h2 h3)
theorem pw_lor (C : Cx p s m args c cc nL own X) {x y : Int64} (hdg : decode cc pc = .ok (.lor, 1)) (k : MW p l e R s m args below meth c X nL cells slots Q w (pc + 1) lv (.long (x ||| y) :: st)) : MW p l e R s m args below meth c X nL cells slots Q w pc lv (.long y :: .long x :: st) := fun H locs ls h1 h2 h3 => lv_lor C.1.1 C.1.2.1 hdg (k H locs ls h1 h2 h3)
theorem pw_lxor (C : Cx p s m args c cc nL own X) {x y : Int64} (hdg : decode cc pc = .ok (.lxor, 1)) (k : MW p l e R s m args below meth c X nL cells slots Q w (pc + 1) lv (.long (x ^^^ y) :: st)) : MW p l e R s m args below meth c X nL cells slots Q w pc lv (.long y :: .long x :: st) := fun H locs ls h1 h2 h3 => lv_lxor C.1.1 C.1.2.1 hdg (k H locs ls h1 h2 h3)
theorem pw_ldiv (C : Cx p s m args c cc nL own X) {x y : Int64} (hdg : decode cc pc = .ok (.ldiv, 1)) (hne : ¬ y = 0) (k : MW p l e R s m args below meth c X nL cells slots Q w (pc + 1) lv (.long (x / y) :: st)) : MW p l e R s m args below meth c X nL cells slots Q w pc lv (.long y :: .long x :: st) := fun H locs ls h1 h2 h3 => lv_ldiv C.1.1 C.1.2.1 hdg hne (k H locs ls h1 h2 h3)
theorem pw_lrem (C : Cx p s m args c cc nL own X) {x y : Int64} (hdg : decode cc pc = .ok (.lrem, 1)) (hne : ¬ y = 0) (k : MW p l e R s m args below meth c X nL cells slots Q w (pc + 1) lv (.long (x - x / y * y) :: st)) : MW p l e R s m args below meth c X nL cells slots Q w pc lv (.long y :: .long x :: st) := fun H locs ls h1 h2 h3 => lv_lrem C.1.1 C.1.2.1 hdg hne (k H locs ls h1 h2 h3)
theorem pw_lneg (C : Cx p s m args c cc nL own X) {x : Int64} (hdg : decode cc pc = .ok (.lneg, 1)) (k : MW p l e R s m args below meth c X nL cells slots Q w (pc + 1) lv (.long (-x) :: st)) : MW p l e R s m args below meth c X nL cells slots Q w pc lv (.long x :: st) := fun H locs ls h1 h2 h3 => lv_lneg C.1.1 C.1.2.1 hdg (k H locs ls h1 h2 h3)
theorem pw_lshl (C : Cx p s m args c cc nL own X) {x : Int64} {y : Int32} (hdg : decode cc pc = .ok (.lshl, 1)) (k : MW p l e R s m args below meth c X nL cells slots Q w (pc + 1) lv (.long (x <<< (y.toInt64 &&& 63)) :: st)) : MW p l e R s m args below meth c X nL cells slots Q w pc lv (.int y :: .long x :: st) := fun H locs ls h1 h2 h3 => lv_lshl C.1.1 C.1.2.1 hdg rfl (k H locs ls h1 h2 h3)
theorem pw_lshr (C : Cx p s m args c cc nL own X) {x : Int64} {y : Int32} (hdg : decode cc pc = .ok (.lshr, 1)) (k : MW p l e R s m args below meth c X nL cells slots Q w (pc + 1) lv (.long (x >>> (y.toInt64 &&& 63)) :: st)) : MW p l e R s m args below meth c X nL cells slots Q w pc lv (.int y :: .long x :: st) := fun H locs ls h1 h2 h3 => lv_lshr C.1.1 C.1.2.1 hdg rfl (k H locs ls h1 h2 h3)
theorem pw_lushr (C : Cx p s m args c cc nL own X) {x : Int64} {y : Int32} (hdg : decode cc pc = .ok (.lushr, 1)) (k : MW p l e R s m args below meth c X nL cells slots Q w (pc + 1) lv (.long (x.toUInt64 >>> (y.toInt64.toUInt64 &&& Int64.toUInt64 63)).toInt64 :: st)) : MW p l e R s m args below meth c X nL cells slots Q w pc lv (.int y :: .long x :: st) := fun H locs ls h1 h2 h3 => lv_lushr C.1.1 C.1.2.1 hdg rfl (k H locs ls h1 h2 h3)
theorem pw_i2l (C : Cx p s m args c cc nL own X) {x : Int32} (hdg : decode cc pc = .ok (.i2l, 1)) (k : MW p l e R s m args below meth c X nL cells slots Q w (pc + 1) lv (.long x.toInt64 :: st)) : MW p l e R s m args below meth c X nL cells slots Q w pc lv (.int x :: st) := fun H locs ls h1 h2 h3 => lv_i2l C.1.1 C.1.2.1 hdg rfl (k H locs ls h1 h2 h3)
theorem pw_l2i (C : Cx p s m args c cc nL own X) {x : Int64} (hdg : decode cc pc = .ok (.l2i, 1)) (k : MW p l e R s m args below meth c X nL cells slots Q w (pc + 1) lv (.int x.toInt32 :: st)) : MW p l e R s m args below meth c X nL cells slots Q w pc lv (.long x :: st) := fun H locs ls h1 h2 h3 => lv_l2i C.1.1 C.1.2.1 hdg rfl (k H locs ls h1 h2 h3)
theorem pw_lcmp (C : Cx p s m args c cc nL own X) {x y : Int64} (hdg : decode cc pc = .ok (.lcmp, 1)) (k : MW p l e R s m args below meth c X nL cells slots Q w (pc + 1) lv (.int (lg_cmp x y) :: st)) : MW p l e R s m args below meth c X nL cells slots Q w pc lv (.long y :: .long x :: st) := fun H locs ls h1 h2 h3 => W.lcmp C.1.1 C.1.2.1 hdg (k H locs ls h1 h2 h3)
theorem pw_dup (C : Cx p s m args c cc nL own X) {va : Value} (hdg : decode cc pc = .ok (.dup, 1)) (hva : va.category = 1) (k : MW p l e R s m args below meth c X nL cells slots Q w (pc + 1) lv (va :: va :: st)) : MW p l e R s m args below meth c X nL cells slots Q w pc lv (va :: st) := fun H locs ls h1 h2 h3 => lv_dup C.1.1 C.1.2.1 hdg hva (k H locs ls h1 h2 h3)
theorem pw_pop (C : Cx p s m args c cc nL own X) {va : Value} (hdg : decode cc pc = .ok (.pop, 1)) (hva : va.category = 1) (k : MW p l e R s m args below meth c X nL cells slots Q w (pc + 1) lv st) : MW p l e R s m args below meth c X nL cells slots Q w pc lv (va :: st) := fun H locs ls h1 h2 h3 => lv_pop C.1.1 C.1.2.1 hdg hva (k H locs ls h1 h2 h3)
theorem pw_pop2 (C : Cx p s m args c cc nL own X) {va : Value} (hdg : decode cc pc = .ok (.pop2, 1)) (hva : va.category = 2) (k : MW p l e R s m args below meth c X nL cells slots Q w (pc + 1) lv st) : MW p l e R s m args below meth c X nL cells slots Q w pc lv (va :: st) := fun H locs ls h1 h2 h3 => lv_pop2_2 C.1.1 C.1.2.1 hdg hva (k H locs ls h1 h2 h3)
theorem pw_dup_x1 (C : Cx p s m args c cc nL own X) {va vb : Value} (hdg : decode cc pc = .ok (.dup_x1, 1)) (hva : va.category = 1) (hvb : vb.category = 1) (k : MW p l e R s m args below meth c X nL cells slots Q w (pc + 1) lv (va :: vb :: va :: st)) : MW p l e R s m args below meth c X nL cells slots Q w pc lv (va :: vb :: st) := fun H locs ls h1 h2 h3 => lv_dup_x1 C.1.1 C.1.2.1 hdg hva hvb (k H locs ls h1 h2 h3)
theorem pw_dup_x2 (C : Cx p s m args c cc nL own X) {va vb vd : Value} (hdg : decode cc pc = .ok (.dup_x2, 1)) (hva : va.category = 1) (hvb : vb.category = 1) (hvd : vd.category = 1) (k : MW p l e R s m args below meth c X nL cells slots Q w (pc + 1) lv (va :: vb :: vd :: va :: st)) : MW p l e R s m args below meth c X nL cells slots Q w pc lv (va :: vb :: vd :: st) := fun H locs ls h1 h2 h3 => lv_dup_x2 C.1.1 C.1.2.1 hdg hva hvb hvd (k H locs ls h1 h2 h3)
theorem pw_dup2 (C : Cx p s m args c cc nL own X) {va vb : Value} (hdg : decode cc pc = .ok (.dup2, 1)) (hva : va.category = 1) (hvb : vb.category = 1) (k : MW p l e R s m args below meth c X nL cells slots Q w (pc + 1) lv (va :: vb :: va :: vb :: st)) : MW p l e R s m args below meth c X nL cells slots Q w pc lv (va :: vb :: st) := fun H locs ls h1 h2 h3 => lv_dup2_11 C.1.1 C.1.2.1 hdg hva hvb (k H locs ls h1 h2 h3)
theorem pw_dup2_2 (C : Cx p s m args c cc nL own X) {va : Value} (hdg : decode cc pc = .ok (.dup2, 1)) (hva : va.category = 2) (k : MW p l e R s m args below meth c X nL cells slots Q w (pc + 1) lv (va :: va :: st)) : MW p l e R s m args below meth c X nL cells slots Q w pc lv (va :: st) := fun H locs ls h1 h2 h3 => lv_dup2_2 C.1.1 C.1.2.1 hdg hva (k H locs ls h1 h2 h3)
theorem pw_dup2_x1 (C : Cx p s m args c cc nL own X) {va vb : Value} (hdg : decode cc pc = .ok (.dup2_x1, 1)) (hva : va.category = 2) (hvb : vb.category = 1) (k : MW p l e R s m args below meth c X nL cells slots Q w (pc + 1) lv (va :: vb :: va :: st)) : MW p l e R s m args below meth c X nL cells slots Q w pc lv (va :: vb :: st) := fun H locs ls h1 h2 h3 => lv_dup2_x1_2 C.1.1 C.1.2.1 hdg hva hvb (k H locs ls h1 h2 h3)
theorem pw_dup2_x2 (C : Cx p s m args c cc nL own X) {va vb vd : Value} (hdg : decode cc pc = .ok (.dup2_x2, 1)) (hva : va.category = 2) (hvb : vb.category = 1) (hvd : vd.category = 1) (k : MW p l e R s m args below meth c X nL cells slots Q w (pc + 1) lv (va :: vb :: vd :: va :: st)) : MW p l e R s m args below meth c X nL cells slots Q w pc lv (va :: vb :: vd :: st) := fun H locs ls h1 h2 h3 => lv_dup2_x2_2 C.1.1 C.1.2.1 hdg hva hvb hvd (k H locs ls h1 h2 h3)
theorem pw_goto (C : Cx p s m args c cc nL own X) {off : Int} (tgt : Nat) (hdg : decode cc pc = .ok (.goto off, 3)) (ht : (pc : Int) + off = (tgt : Int)) (k : MW p l e R s m args below meth c X nL cells slots Q w tgt lv st) : MW p l e R s m args below meth c X nL cells slots Q w pc lv st := fun H locs ls h1 h2 h3 => lv_goto C.1.1 C.1.2.1 hdg ht (k H locs ls h1 h2 h3)
theorem pw_if_eq (C : Cx p s m args c cc nL own X) {x : Int32} {off : Int} (tgt : Nat) (hdg : decode cc pc = .ok (.ifCond .eq off, 3)) (ht : (pc : Int) + off = (tgt : Int)) (kt : x = 0 → MW p l e R s m args below meth c X nL cells slots Q w tgt lv st) (kf : ¬ x = 0 → MW p l e R s m args below meth c X nL cells slots Q w (pc + 3) lv st) : MW p l e R s m args below meth c X nL cells slots Q w pc lv (.int x :: st) := fun H locs ls h1 h2 h3 => lv_if_eq C.1.1 C.1.2.1 hdg ht (fun q => kt q H locs ls h1 h2 h3) (fun q => kf q H locs ls h1 h2 h3)
theorem pw_if_ne (C : Cx p s m args c cc nL own X) {x : Int32} {off : Int} (tgt : Nat) (hdg : decode cc pc = .ok (.ifCond .ne off, 3)) (ht : (pc : Int) + off = (tgt : Int)) (kt : ¬ x = 0 → MW p l e R s m args below meth c X nL cells slots Q w tgt lv st) (kf : x = 0 → MW p l e R s m args below meth c X nL cells slots Q w (pc + 3) lv st) : MW p l e R s m args below meth c X nL cells slots Q w pc lv (.int x :: st) := fun H locs ls h1 h2 h3 => lv_if_ne C.1.1 C.1.2.1 hdg ht (fun q => kt q H locs ls h1 h2 h3) (fun q => kf q H locs ls h1 h2 h3)
theorem pw_if_lt (C : Cx p s m args c cc nL own X) {x : Int32} {off : Int} (tgt : Nat) (hdg : decode cc pc = .ok (.ifCond .lt off, 3)) (ht : (pc : Int) + off = (tgt : Int)) (kt : x < 0 → MW p l e R s m args below meth c X nL cells slots Q w tgt lv st) (kf : ¬ x < 0 → MW p l e R s m args below meth c X nL cells slots Q w (pc + 3) lv st) : MW p l e R s m args below meth c X nL cells slots Q w pc lv (.int x :: st) := fun H locs ls h1 h2 h3 => lv_if_lt C.1.1 C.1.2.1 hdg ht (fun q => kt q H locs ls h1 h2 h3) (fun q => kf q H locs ls h1 h2 h3)
theorem pw_if_ge (C : Cx p s m args c cc nL own X) {x : Int32} {off : Int} (tgt : Nat) (hdg : decode cc pc = .ok (.ifCond .ge off, 3)) (ht : (pc : Int) + off = (tgt : Int)) (kt : 0 ≤ x → MW p l e R s m args below meth c X nL cells slots Q w tgt lv st) (kf : ¬ 0 ≤ x → MW p l e R s m args below meth c X nL cells slots Q w (pc + 3) lv st) : MW p l e R s m args below meth c X nL cells slots Q w pc lv (.int x :: st) := fun H locs ls h1 h2 h3 => lv_if_ge C.1.1 C.1.2.1 hdg ht (fun q => kt q H locs ls h1 h2 h3) (fun q => kf q H locs ls h1 h2 h3)
theorem pw_if_gt (C : Cx p s m args c cc nL own X) {x : Int32} {off : Int} (tgt : Nat) (hdg : decode cc pc = .ok (.ifCond .gt off, 3)) (ht : (pc : Int) + off = (tgt : Int)) (kt : 0 < x → MW p l e R s m args below meth c X nL cells slots Q w tgt lv st) (kf : ¬ 0 < x → MW p l e R s m args below meth c X nL cells slots Q w (pc + 3) lv st) : MW p l e R s m args below meth c X nL cells slots Q w pc lv (.int x :: st) := fun H locs ls h1 h2 h3 => lv_if_gt C.1.1 C.1.2.1 hdg ht (fun q => kt q H locs ls h1 h2 h3) (fun q => kf q H locs ls h1 h2 h3)
theorem pw_if_le (C : Cx p s m args c cc nL own X) {x : Int32} {off : Int} (tgt : Nat) (hdg : decode cc pc = .ok (.ifCond .le off, 3)) (ht : (pc : Int) + off = (tgt : Int)) (kt : x ≤ 0 → MW p l e R s m args below meth c X nL cells slots Q w tgt lv st) (kf : ¬ x ≤ 0 → MW p l e R s m args below meth c X nL cells slots Q w (pc + 3) lv st) : MW p l e R s m args below meth c X nL cells slots Q w pc lv (.int x :: st) := fun H locs ls h1 h2 h3 => lv_if_le C.1.1 C.1.2.1 hdg ht (fun q => kt q H locs ls h1 h2 h3) (fun q => kf q H locs ls h1 h2 h3)
theorem pw_icmp_eq (C : Cx p s m args c cc nL own X) {x y : Int32} {off : Int} (tgt : Nat) (hdg : decode cc pc = .ok (.if_icmp .eq off, 3)) (ht : (pc : Int) + off = (tgt : Int)) (kt : x = y → MW p l e R s m args below meth c X nL cells slots Q w tgt lv st) (kf : ¬ x = y → MW p l e R s m args below meth c X nL cells slots Q w (pc + 3) lv st) : MW p l e R s m args below meth c X nL cells slots Q w pc lv (.int y :: .int x :: st) := fun H locs ls h1 h2 h3 => lv_icmp_eq C.1.1 C.1.2.1 hdg ht (fun q => kt q H locs ls h1 h2 h3) (fun q => kf q H locs ls h1 h2 h3)
theorem pw_icmp_ne (C : Cx p s m args c cc nL own X) {x y : Int32} {off : Int} (tgt : Nat) (hdg : decode cc pc = .ok (.if_icmp .ne off, 3)) (ht : (pc : Int) + off = (tgt : Int)) (kt : ¬ x = y → MW p l e R s m args below meth c X nL cells slots Q w tgt lv st) (kf : x = y → MW p l e R s m args below meth c X nL cells slots Q w (pc + 3) lv st) : MW p l e R s m args below meth c X nL cells slots Q w pc lv (.int y :: .int x :: st) := fun H locs ls h1 h2 h3 => lv_icmp_ne C.1.1 C.1.2.1 hdg ht (fun q => kt q H locs ls h1 h2 h3) (fun q => kf q H locs ls h1 h2 h3)
theorem pw_icmp_lt (C : Cx p s m args c cc nL own X) {x y : Int32} {off : Int} (tgt : Nat) (hdg : decode cc pc = .ok (.if_icmp .lt off, 3)) (ht : (pc : Int) + off = (tgt : Int)) (kt : x < y → MW p l e R s m args below meth c X nL cells slots Q w tgt lv st) (kf : ¬ x < y → MW p l e R s m args below meth c X nL cells slots Q w (pc + 3) lv st) : MW p l e R s m args below meth c X nL cells slots Q w pc lv (.int y :: .int x :: st) := fun H locs ls h1 h2 h3 => lv_icmp_lt C.1.1 C.1.2.1 hdg ht (fun q => kt q H locs ls h1 h2 h3) (fun q => kf q H locs ls h1 h2 h3)
theorem pw_icmp_ge (C : Cx p s m args c cc nL own X) {x y : Int32} {off : Int} (tgt : Nat) (hdg : decode cc pc = .ok (.if_icmp .ge off, 3)) (ht : (pc : Int) + off = (tgt : Int)) (kt : y ≤ x → MW p l e R s m args below meth c X nL cells slots Q w tgt lv st) (kf : ¬ y ≤ x → MW p l e R s m args below meth c X nL cells slots Q w (pc + 3) lv st) : MW p l e R s m args below meth c X nL cells slots Q w pc lv (.int y :: .int x :: st) := fun H locs ls h1 h2 h3 => lv_icmp_ge C.1.1 C.1.2.1 hdg ht (fun q => kt q H locs ls h1 h2 h3) (fun q => kf q H locs ls h1 h2 h3)
theorem pw_icmp_gt (C : Cx p s m args c cc nL own X) {x y : Int32} {off : Int} (tgt : Nat) (hdg : decode cc pc = .ok (.if_icmp .gt off, 3)) (ht : (pc : Int) + off = (tgt : Int)) (kt : y < x → MW p l e R s m args below meth c X nL cells slots Q w tgt lv st) (kf : ¬ y < x → MW p l e R s m args below meth c X nL cells slots Q w (pc + 3) lv st) : MW p l e R s m args below meth c X nL cells slots Q w pc lv (.int y :: .int x :: st) := fun H locs ls h1 h2 h3 => lv_icmp_gt C.1.1 C.1.2.1 hdg ht (fun q => kt q H locs ls h1 h2 h3) (fun q => kf q H locs ls h1 h2 h3)
theorem pw_icmp_le (C : Cx p s m args c cc nL own X) {x y : Int32} {off : Int} (tgt : Nat) (hdg : decode cc pc = .ok (.if_icmp .le off, 3)) (ht : (pc : Int) + off = (tgt : Int)) (kt : x ≤ y → MW p l e R s m args below meth c X nL cells slots Q w tgt lv st) (kf : ¬ x ≤ y → MW p l e R s m args below meth c X nL cells slots Q w (pc + 3) lv st) : MW p l e R s m args below meth c X nL cells slots Q w pc lv (.int y :: .int x :: st) := fun H locs ls h1 h2 h3 => lv_icmp_le C.1.1 C.1.2.1 hdg ht (fun q => kt q H locs ls h1 h2 h3) (fun q => kf q H locs ls h1 h2 h3)
theorem pw_tableIn (C : Cx p s m args c cc nL own X) {dflt lo hi : Int} {offs : Array Int} {len : Nat} {x : Int32} {off : Int} (tgt : Nat) (hdg : decode cc pc = .ok (.tableswitch dflt lo hi offs, len)) (hl1 : ¬ x.toInt < lo) (hl2 : ¬ hi < x.toInt) (ho : offs[(x.toInt - lo).toNat]? = some off) (ht : (pc : Int) + off = (tgt : Int)) (k : MW p l e R s m args below meth c X nL cells slots Q w tgt lv st) : MW p l e R s m args below meth c X nL cells slots Q w pc lv (.int x :: st) := fun H locs ls h1 h2 h3 => lv_tableIn C.1.1 C.1.2.1 hdg hl1 hl2 ho ht (k H locs ls h1 h2 h3)
theorem pw_tableOut (C : Cx p s m args c cc nL own X) {dflt lo hi : Int} {offs : Array Int} {len : Nat} {x : Int32} (tgt : Nat) (hdg : decode cc pc = .ok (.tableswitch dflt lo hi offs, len)) (ho : x.toInt < lo ∨ hi < x.toInt) (ht : (pc : Int) + dflt = (tgt : Int)) (k : MW p l e R s m args below meth c X nL cells slots Q w tgt lv st) : MW p l e R s m args below meth c X nL cells slots Q w pc lv (.int x :: st) := fun H locs ls h1 h2 h3 => lv_tableOut C.1.1 C.1.2.1 hdg ho ht (k H locs ls h1 h2 h3)
theorem pw_lookup (C : Cx p s m args c cc nL own X) {dflt : Int} {ps : Array (Int × Int)} {len : Nat} {x : Int32} {off : Int} (tgt : Nat) (hdg : decode cc pc = .ok (.lookupswitch dflt ps, len)) (hp : (ps.toList.zip (ps.toList.drop 1)).all (fun (a, next) => a.1 < next.1) = true) (ho : Op.lookupswitch.offset ps.toList dflt x.toInt = off) (ht : (pc : Int) + off = (tgt : Int)) (k : MW p l e R s m args below meth c X nL cells slots Q w tgt lv st) : MW p l e R s m args below meth c X nL cells slots Q w pc lv (.int x :: st) := fun H locs ls h1 h2 h3 => lv_lookup C.1.1 C.1.2.1 hdg hp ho ht (k H locs ls h1 h2 h3)
theorem pw_one {H : Heap} {g i : Nat} {e : va_E} (h : pw_H X w H) (hd : pw_d X g i) (hw : w g i = e) : va_P (pw_D X) vwCl [(pw_a X g i, e)] H := by
  intro k q hk
  have hz : k < 1 := (List.getElem?_eq_some_iff.mp hk).1
  rw [show k = 0 by omega] at hk
  cases hk
  rw [← hw]
  exact h g i hd
theorem pw_iald (C : Cx p s m args c cc nL own X) {g i n : Nat} {f : Nat → Int32} {j : Int32} (hdg : decode cc pc = .ok (.iaload, 1)) (hd : pw_d X g i) (hw : w g i = aI X n f) (hin : vp_in j n) (k : MW p l e R s m args below meth c X nL cells slots Q w (pc + 1) lv (.int (f j.toNatClampNeg) :: st)) : MW p l e R s m args below meth c X nL cells slots Q w pc lv (.int j :: .ref (pw_a X g i) :: st) := fun H locs ls h1 h2 h3 => va_iald C.1.1 C.1.2.1 C.2.1.1 (pw_one h1 hd hw) 0 0 rfl rfl hin hdg (k H locs ls h1 h2 h3)
theorem pw_lald (C : Cx p s m args c cc nL own X) {g i n : Nat} {f : Nat → Int64} {j : Int32} (hdg : decode cc pc = .ok (.laload, 1)) (hd : pw_d X g i) (hw : w g i = aL X n f) (hin : vp_in j n) (k : MW p l e R s m args below meth c X nL cells slots Q w (pc + 1) lv (.long (f j.toNatClampNeg) :: st)) : MW p l e R s m args below meth c X nL cells slots Q w pc lv (.int j :: .ref (pw_a X g i) :: st) := fun H locs ls h1 h2 h3 => va_lald C.1.1 C.1.2.1 C.2.1.1 (pw_one h1 hd hw) 0 1 rfl rfl hin hdg (k H locs ls h1 h2 h3)
theorem pw_aald (C : Cx p s m args c cc nL own X) {g i n : Nat} {f : Nat → Option Nat} {j : Int32} {v : Nat} (hdg : decode cc pc = .ok (.aaload, 1)) (hd : pw_d X g i) (hw : w g i = aQ X n f) (hin : vp_in j n) (hv : f j.toNatClampNeg = some v) (k : MW p l e R s m args below meth c X nL cells slots Q w (pc + 1) lv (.ref v :: st)) : MW p l e R s m args below meth c X nL cells slots Q w pc lv (.int j :: .ref (pw_a X g i) :: st) := fun H locs ls h1 h2 h3 => by
  have hlt : j.toNatClampNeg < n := Nat.not_le.mp fun q => hin (Or.inr q)
  exact W.aald (v := .ref v) (ty := .array .long) C.1.1 C.1.2.1 (pw_one h1 hd hw 0 _ rfl) ((C.2.1.1.2 2 _ rfl).1 n (fun j => va_rf (f j))) rfl (fun q => by cases q) (by show ¬ (j < 0 ∨ (arrV _ _ _).slots.size ≤ _); rw [arrV_size]; exact hin) (by show (arrV _ _ _).slots[_]? = _; rw [arrV_read _ _ hlt, hv]; rfl) rfl rfl hdg (k H locs ls h1 h2 h3)
theorem pw_alenI (C : Cx p s m args c cc nL own X) {g i n : Nat} {f : Nat → Int32} (hdg : decode cc pc = .ok (.arraylength, 1)) (hd : pw_d X g i) (hw : w g i = aI X n f) (k : MW p l e R s m args below meth c X nL cells slots Q w (pc + 1) lv (.int (Int32.ofNat n) :: st)) : MW p l e R s m args below meth c X nL cells slots Q w pc lv (.ref (pw_a X g i) :: st) := fun H locs ls h1 h2 h3 => va_alen C.1.1 C.1.2.1 C.2.1.1 (pw_one h1 hd hw) 0 0 rfl rfl rfl hdg (k H locs ls h1 h2 h3)
theorem pw_alenL (C : Cx p s m args c cc nL own X) {g i n : Nat} {f : Nat → Int64} (hdg : decode cc pc = .ok (.arraylength, 1)) (hd : pw_d X g i) (hw : w g i = aL X n f) (k : MW p l e R s m args below meth c X nL cells slots Q w (pc + 1) lv (.int (Int32.ofNat n) :: st)) : MW p l e R s m args below meth c X nL cells slots Q w pc lv (.ref (pw_a X g i) :: st) := fun H locs ls h1 h2 h3 => va_alen C.1.1 C.1.2.1 C.2.1.1 (pw_one h1 hd hw) 0 1 rfl rfl rfl hdg (k H locs ls h1 h2 h3)
theorem pw_iast (C : Cx p s m args c cc nL own X) {g i n : Nat} {f : Nat → Int32} {j : Int32} {x : Int32} (hdg : decode cc pc = .ok (.iastore, 1)) (hd : pw_d X g i) (hw : w g i = aI X n f) (hin : vp_in j n) (k : MW p l e R s m args below meth c X nL cells slots Q (pw_up w g i (aI X n (upd f j.toNatClampNeg x))) (pc + 1) lv st) : MW p l e R s m args below meth c X nL cells slots Q w pc lv (.int x :: .int j :: .ref (pw_a X g i) :: st) := fun H locs ls h1 h2 h3 => by
  refine W.iast C.1.1 C.1.2.1 (pw_one h1 hd hw 0 _ rfl) ((C.2.1.1.2 0 _ rfl).1 n (fun j => .int (f j))) (fun q => by cases q) (by show ¬ (j < 0 ∨ (arrV _ _ _).slots.size ≤ _); rw [arrV_size]; exact hin) rfl rfl hdg fun H1 e1 z1 oq => ?_
  refine k H1 _ ls (h1.set C.2.2.1 hd ?_ oq) (h2.put z1 oq (C.2.2.1.2 g i hd)) h3
  show H1[pw_a X g i]? = some (vp_cell _ _)
  rw [e1]
  rw [vp_cell_i, vp_cell_i, arrV_store]
  congr 2
  funext q
  by_cases hq : q = j.toNatClampNeg
  · subst hq
    simp [updV, upd]
  · simp [updV, upd, hq]
theorem pw_last (C : Cx p s m args c cc nL own X) {g i n : Nat} {f : Nat → Int64} {j : Int32} {x : Int64} (hdg : decode cc pc = .ok (.lastore, 1)) (hd : pw_d X g i) (hw : w g i = aL X n f) (hin : vp_in j n) (k : MW p l e R s m args below meth c X nL cells slots Q (pw_up w g i (aL X n (vp_updL f j.toNatClampNeg x))) (pc + 1) lv st) : MW p l e R s m args below meth c X nL cells slots Q w pc lv (.long x :: .int j :: .ref (pw_a X g i) :: st) := fun H locs ls h1 h2 h3 => by
  refine W.last C.1.1 C.1.2.1 (pw_one h1 hd hw 0 _ rfl) ((C.2.1.1.2 1 _ rfl).1 n (fun j => .long (f j))) (fun q => by cases q) (by show ¬ (j < 0 ∨ (arrV _ _ _).slots.size ≤ _); rw [arrV_size]; exact hin) rfl rfl hdg fun H1 e1 z1 oq => ?_
  refine k H1 _ ls (h1.set C.2.2.1 hd ?_ oq) (h2.put z1 oq (C.2.2.1.2 g i hd)) h3
  show H1[pw_a X g i]? = some (vp_cell _ _)
  rw [e1]
  rw [vp_cell_l, vp_cell_l, arrV_store]
  congr 2
  funext q
  by_cases hq : q = j.toNatClampNeg
  · subst hq
    simp [updV, vp_updL]
  · simp [updV, vp_updL, hq]
theorem pw_zald (C : Cx p s m args c cc nL own X) {g i n : Nat} {f : Nat → Int32} {j : Int32} (hdg : decode cc pc = .ok (.baload, 1)) (hd : pw_d X g i) (hw : w g i = aZ X n f) (hin : vp_in j n) (k : MW p l e R s m args below meth c X nL cells slots Q w (pc + 1) lv (.int (f j.toNatClampNeg) :: st)) : MW p l e R s m args below meth c X nL cells slots Q w pc lv (.int j :: .ref (pw_a X g i) :: st) := fun H locs ls h1 h2 h3 => va_zald C.1.1 C.1.2.1 C.2.1.1 (pw_one h1 hd hw) 0 3 rfl rfl hin hdg (k H locs ls h1 h2 h3)
theorem pw_zast (C : Cx p s m args c cc nL own X) {g i n : Nat} {f : Nat → Int32} {j x : Int32} (hdg : decode cc pc = .ok (.bastore, 1)) (hd : pw_d X g i) (hw : w g i = aZ X n f) (hin : vp_in j n) (k : MW p l e R s m args below meth c X nL cells slots Q (pw_up w g i (aZ X n (upd f j.toNatClampNeg (vp_nar .boolean x)))) (pc + 1) lv st) : MW p l e R s m args below meth c X nL cells slots Q w pc lv (.int x :: .int j :: .ref (pw_a X g i) :: st) := fun H locs ls h1 h2 h3 => by
  refine W.zast C.1.1 C.1.2.1 (pw_one h1 hd hw 0 _ rfl) ((C.2.1.1.2 3 _ rfl).1 n (fun j => .int (f j))) (fun q => by cases q) (by show ¬ (j < 0 ∨ (arrV _ _ _).slots.size ≤ _); rw [arrV_size]; exact hin) rfl rfl hdg fun H1 e1 z1 oq => ?_
  refine k H1 _ ls (h1.set C.2.2.1 hd ?_ oq) (h2.put z1 oq (C.2.2.1.2 g i hd)) h3
  show H1[pw_a X g i]? = some (vp_cell _ _)
  rw [e1]
  rw [vp_cell_i, vp_cell_i, arrV_store]
  congr 2
  funext q
  by_cases hq : q = j.toNatClampNeg
  · subst hq
    simp [updV, upd]
    rfl
  · simp [updV, upd, hq]
theorem pw_ialdK (C : Cx p s m args c cc nL own X) {g i n k0 : Nat} {f : Nat → Int32} (hdg : decode cc pc = .ok (.iaload, 1)) (hd : pw_d X g i) (hw : w g i = aI X n f) (hk : k0 < n) (k : MW p l e R s m args below meth c X nL cells slots Q w (pc + 1) lv (.int (f k0) :: st)) (hn : n < 2 ^ 31 := by first | assumption | decide) : MW p l e R s m args below meth c X nL cells slots Q w pc lv (.int (nI k0) :: .ref (pw_a X g i) :: st) := pw_iald C hdg hd hw (vp_in_nI hk hn) (by rw [nI_clamp (Nat.lt_trans hk hn)]; exact k)
theorem pw_laldK (C : Cx p s m args c cc nL own X) {g i n k0 : Nat} {f : Nat → Int64} (hdg : decode cc pc = .ok (.laload, 1)) (hd : pw_d X g i) (hw : w g i = aL X n f) (hk : k0 < n) (k : MW p l e R s m args below meth c X nL cells slots Q w (pc + 1) lv (.long (f k0) :: st)) (hn : n < 2 ^ 31 := by first | assumption | decide) : MW p l e R s m args below meth c X nL cells slots Q w pc lv (.int (nI k0) :: .ref (pw_a X g i) :: st) := pw_lald C hdg hd hw (vp_in_nI hk hn) (by rw [nI_clamp (Nat.lt_trans hk hn)]; exact k)
theorem pw_aaldK (C : Cx p s m args c cc nL own X) {g i n k0 v : Nat} {f : Nat → Option Nat} (hdg : decode cc pc = .ok (.aaload, 1)) (hd : pw_d X g i) (hw : w g i = aQ X n f) (hk : k0 < n) (hv : f k0 = some v) (k : MW p l e R s m args below meth c X nL cells slots Q w (pc + 1) lv (.ref v :: st)) (hn : n < 2 ^ 31 := by first | assumption | decide) : MW p l e R s m args below meth c X nL cells slots Q w pc lv (.int (nI k0) :: .ref (pw_a X g i) :: st) := pw_aald C hdg hd hw (vp_in_nI hk hn) (by rw [nI_clamp (Nat.lt_trans hk hn)]; exact hv) k
theorem pw_iastK (C : Cx p s m args c cc nL own X) {g i n k0 : Nat} {f : Nat → Int32} {x : Int32} (hdg : decode cc pc = .ok (.iastore, 1)) (hd : pw_d X g i) (hw : w g i = aI X n f) (hk : k0 < n) (k : MW p l e R s m args below meth c X nL cells slots Q (pw_up w g i (aI X n (upd f k0 x))) (pc + 1) lv st) (hn : n < 2 ^ 31 := by first | assumption | decide) : MW p l e R s m args below meth c X nL cells slots Q w pc lv (.int x :: .int (nI k0) :: .ref (pw_a X g i) :: st) := pw_iast C hdg hd hw (vp_in_nI hk hn) (by rw [nI_clamp (Nat.lt_trans hk hn)]; exact k)
theorem pw_lastK (C : Cx p s m args c cc nL own X) {g i n k0 : Nat} {f : Nat → Int64} {x : Int64} (hdg : decode cc pc = .ok (.lastore, 1)) (hd : pw_d X g i) (hw : w g i = aL X n f) (hk : k0 < n) (k : MW p l e R s m args below meth c X nL cells slots Q (pw_up w g i (aL X n (vp_updL f k0 x))) (pc + 1) lv st) (hn : n < 2 ^ 31 := by first | assumption | decide) : MW p l e R s m args below meth c X nL cells slots Q w pc lv (.long x :: .int (nI k0) :: .ref (pw_a X g i) :: st) := pw_last C hdg hd hw (vp_in_nI hk hn) (by rw [nI_clamp (Nat.lt_trans hk hn)]; exact k)
theorem pw_iinc1 (C : Cx p s m args c cc nL own X) {i k0 : Nat} (hdg : decode cc pc = .ok (.iinc i 1, 3)) (hv : lv[i]? = some (some (.int (nI k0)))) (hn : i < nL) (k : MW p l e R s m args below meth c X nL cells slots Q w (pc + 3) (pw_p1 lv i (.int (nI (k0 + 1)))) st) : MW p l e R s m args below meth c X nL cells slots Q w pc lv st := pw_iinc C hdg hv hn (by rw [show nI k0 + Int32.ofInt 1 = nI (k0 + 1) from nI_1 k0]; exact k)
theorem pw_get (C : Cx p s m args c cc nL own X) {g i ci index N : Nat} {fs : List Value} {Cn ref : String} {T : u_T} {v : Value} (hdg : decode cc pc = .ok (.getfield index, 3)) (hd : pw_d X g i) (hw : w g i = oB ci fs) (k0 : Nat) (hv : fs[k0]? = some v) (hc : vwCl[ci]? = some (Cn, T, N)) (hk : k0 < N) (hin : ∀ q ∈ u_ws Cn T N, q ∈ pw_all) (hl : Cond.fieldLink own index ref (T k0).2.1 (T k0).2.2.1 ∈ pw_all) (hsame : (T k0).1 = ref) (k : MW p l e R s m args below meth c X nL cells slots Q w (pc + 3) lv (v :: st)) : MW p l e R s m args below meth c X nL cells slots Q w pc lv (.ref (pw_a X g i) :: st) := fun H locs ls h1 h2 h3 => va_get C.1.1 C.1.2.1 C.1.2.2.2.2 hin C.1.2.2.2.1 C.2.1.1 (pw_one h1 hd hw) 0 rfl hc k0 hk (C.1.2.2.2.2 _ hl) (fun x9 h9 => by rw [← hsame]; exact h9) hv hdg (k H locs ls h1 h2 h3)
theorem pw_getN (C : Cx p s m args c cc nL own X) {g i ci index N : Nat} {fs : List Value} {Cn ref : String} {T : u_T} {host : String} {v : Value} (hdg : decode cc pc = .ok (.getfield index, 3)) (hd : pw_d X g i) (hw : w g i = oB ci fs) (k0 : Nat) (hv : fs[k0]? = some v) (hc : vwCl[ci]? = some (Cn, T, N)) (hk : k0 < N) (hin : ∀ q ∈ u_ws Cn T N, q ∈ pw_all) (hl : Cond.fieldLinkNest own index ref (T k0).2.1 (T k0).2.2.1 host ∈ pw_nw) (hsame : (T k0).1 = ref) (k : MW p l e R s m args below meth c X nL cells slots Q w (pc + 3) lv (v :: st)) : MW p l e R s m args below meth c X nL cells slots Q w pc lv (.ref (pw_a X g i) :: st) := fun H locs ls h1 h2 h3 => va_getN C.1.1 C.1.2.1 C.1.2.2.2.2 hin C.1.2.2.2.1 C.2.1.1 (pw_one h1 hd hw) 0 rfl hc k0 hk (va_Nw.use (pw_isN_on (pw_nw_ok _ hl)) (C.2.1.2 _ hl)) (fun x9 h9 => by rw [← hsame]; exact h9) hv hdg (k H locs ls h1 h2 h3)
theorem pw_put (C : Cx p s m args c cc nL own X) {g i ci index N : Nat} {fs : List Value} {Cn ref : String} {T : u_T} {v : Value} {ty : FieldType} (hdg : decode cc pc = .ok (.putfield index, 3)) (hd : pw_d X g i) (hw : w g i = oB ci fs) (k0 : Nat) (hl9 : k0 < fs.length) (hc : vwCl[ci]? = some (Cn, T, N)) (hk : k0 < N) (hin : ∀ q ∈ u_ws Cn T N, q ∈ pw_all) (ty0 : Nat → FieldType) (hty : ∀ k, k < N → parseFieldDescriptor (T k).2.2.1 = some (ty0 k)) (hnm : ∀ a, a < N → ∀ b, b < N → a ≠ b → (T a).2.1 ≠ (T b).2.1) (hl : Cond.fieldLink own index ref (T k0).2.1 (T k0).2.2.1 ∈ pw_all) (hsame : (T k0).1 = ref) (hfin : (T k0).2.2.2 = false) (hdd : parseFieldDescriptor (T k0).2.2.1 = some ty) (hn : narrow ty v = v) (hfit : fits ty v = true) (k : MW p l e R s m args below meth c X nL cells slots Q (pw_up w g i (oB ci (fs.set k0 v))) (pc + 3) lv st) : MW p l e R s m args below meth c X nL cells slots Q w pc lv (v :: .ref (pw_a X g i) :: st) := fun H locs ls h1 h2 h3 => by
  subst hsame
  have hK := C.2.1.1
  have hts := C.1.2.2.2.2
  have hap := va_apart (own := own) hts hin ty0 hty hnm hK hc
  obtain ⟨r, g1, cell, q1, q2, q3, q4⟩ := pw_one h1 hd hw 0 _ rfl
  have hr : r = (Cn, T, N) := Option.some.inj (g1.symm.trans hc)
  subst hr
  obtain ⟨hS, hfc, kC, hkC, hkind⟩ := hK.1 ci _ hc
  obtain ⟨cf, kf, fi, f, hi, hsl⟩ := hS k0 hk
  have hlay := hts _ (hin _ (u_in_lay hk))
  unfold u_lay at hlay
  rw [if_neg (by rw [hfin]; decide)] at hlay
  have hst := (u_facts hfc hkC (u_lays hts hin hk) hi).1
  have h6 := u_store hfc hkC hkind hlay hi hdd hn hfit
  refine W.putK C.1.1 C.1.2.1 (f := f) ⟨C.1.2.2.2.1, (C.1.2.2.2.2 _ hl), ⟨_, _, _, hi⟩, hst⟩ (by rw [q2]; exact h6) q1 q3 (by rw [hsl]; exact k2_hasslot (q4 k0 hk)) rfl rfl hdg fun H1 e1 e2 e3 => ?_
  rw [hsl] at e1 ⊢
  exact k H1 _ ls (h1.set C.2.2.1 hd ⟨_, hc, t_OB.to (V := updV (vp_V fs) k0 v) ⟨_, e1, q2, q3, t_set q4 hap hk v⟩ (fun j _ => vp_updV_set hl9 v j)⟩ e3) (h2.put e2 e3 (C.2.2.1.2 g i hd)) h3
theorem pw_putN (C : Cx p s m args c cc nL own X) {g i ci index N : Nat} {fs : List Value} {Cn ref : String} {T : u_T} {host : String} {v : Value} {ty : FieldType} (hdg : decode cc pc = .ok (.putfield index, 3)) (hd : pw_d X g i) (hw : w g i = oB ci fs) (k0 : Nat) (hl9 : k0 < fs.length) (hc : vwCl[ci]? = some (Cn, T, N)) (hk : k0 < N) (hin : ∀ q ∈ u_ws Cn T N, q ∈ pw_all) (ty0 : Nat → FieldType) (hty : ∀ k, k < N → parseFieldDescriptor (T k).2.2.1 = some (ty0 k)) (hnm : ∀ a, a < N → ∀ b, b < N → a ≠ b → (T a).2.1 ≠ (T b).2.1) (hl : Cond.fieldLinkNest own index ref (T k0).2.1 (T k0).2.2.1 host ∈ pw_nw) (hsame : (T k0).1 = ref) (hfin : (T k0).2.2.2 = false) (hdd : parseFieldDescriptor (T k0).2.2.1 = some ty) (hn : narrow ty v = v) (hfit : fits ty v = true) (k : MW p l e R s m args below meth c X nL cells slots Q (pw_up w g i (oB ci (fs.set k0 v))) (pc + 3) lv st) : MW p l e R s m args below meth c X nL cells slots Q w pc lv (v :: .ref (pw_a X g i) :: st) := fun H locs ls h1 h2 h3 => by
  subst hsame
  have hK := C.2.1.1
  have hts := C.1.2.2.2.2
  have hap := va_apart (own := own) hts hin ty0 hty hnm hK hc
  obtain ⟨r, g1, cell, q1, q2, q3, q4⟩ := pw_one h1 hd hw 0 _ rfl
  have hr : r = (Cn, T, N) := Option.some.inj (g1.symm.trans hc)
  subst hr
  obtain ⟨hS, hfc, kC, hkC, hkind⟩ := hK.1 ci _ hc
  obtain ⟨cf, kf, fi, f, hi, hsl⟩ := hS k0 hk
  have hlay := hts _ (hin _ (u_in_lay hk))
  unfold u_lay at hlay
  rw [if_neg (by rw [hfin]; decide)] at hlay
  have hst := (u_facts hfc hkC (u_lays hts hin hk) hi).1
  have h6 := u_store hfc hkC hkind hlay hi hdd hn hfit
  refine va_WputK C.1.1 C.1.2.1 (f := f) C.1.2.2.2.1 (va_Nw.use (pw_isN_on (pw_nw_ok _ hl)) (C.2.1.2 _ hl)) hi hst (by rw [q2]; exact h6) q1 q3 (by rw [hsl]; exact k2_hasslot (q4 k0 hk)) rfl rfl hdg fun H1 e1 e2 e3 => ?_
  rw [hsl] at e1 ⊢
  exact k H1 _ ls (h1.set C.2.2.1 hd ⟨_, hc, t_OB.to (V := updV (vp_V fs) k0 v) ⟨_, e1, q2, q3, t_set q4 hap hk v⟩ (fun j _ => vp_updV_set hl9 v j)⟩ e3) (h2.put e2 e3 (C.2.2.1.2 g i hd)) h3
theorem pw_iret (C : Cx p s m args c cc nL own X) {post : Int32 → Wd → Prop} {v : Int32} (hr : meth.sig.returnType = some .int) (hlk : meth.locks = false) (hdg : decode cc pc = .ok (.ireturn, 1)) (hp : post v w) : MW p l e R s m args below meth c X nL cells slots (MQ below (va_Qi post (pw_B X) (pw_F X)) args s cells slots (pw_F X)) w pc lv [.int v] := fun H locs ls h1 h2 h3 => W.iret C.1.1 C.1.2.1 hr (fun t ht hW => ⟨⟨v, w, rfl, hp, by unfold pw_B; rw [ht]; exact h1⟩, h2.F ht⟩) h2.2.2 hdg hlk
theorem pw_zret (C : Cx p s m args c cc nL own X) {post : Int32 → Wd → Prop} {v : Int32} {ty : FieldType} (hr : meth.sig.returnType = some ty) (hn : narrow ty (.int v) = .int v) (hlk : meth.locks = false) (hdg : decode cc pc = .ok (.ireturn, 1)) (hp : post v w) : MW p l e R s m args below meth c X nL cells slots (MQ below (va_Qi post (pw_B X) (pw_F X)) args s cells slots (pw_F X)) w pc lv [.int v] := fun H locs ls h1 h2 h3 => W.zret C.1.1 C.1.2.1 hr hn (fun t ht hW => ⟨⟨v, w, rfl, hp, by unfold pw_B; rw [ht]; exact h1⟩, h2.F ht⟩) h2.2.2 hdg hlk
theorem pw_lret (C : Cx p s m args c cc nL own X) {post : Int64 → Wd → Prop} {v : Int64} (hr : meth.sig.returnType = some .long) (hlk : meth.locks = false) (hdg : decode cc pc = .ok (.lreturn, 1)) (hp : post v w) : MW p l e R s m args below meth c X nL cells slots (MQ below (va_Ql post (pw_B X) (pw_F X)) args s cells slots (pw_F X)) w pc lv [.long v] := fun H locs ls h1 h2 h3 => W.lret C.1.1 C.1.2.1 hr (fun t ht hW => ⟨⟨v, w, rfl, hp, by unfold pw_B; rw [ht]; exact h1⟩, h2.F ht⟩) h2.2.2 hdg hlk
theorem pw_vret (C : Cx p s m args c cc nL own X) {post : Wd → Prop} (hr : meth.sig.returnType = none) (hlk : meth.locks = false) (hdg : decode cc pc = .ok (.return_, 1)) (hp : post w) : MW p l e R s m args below meth c X nL cells slots (MQ below (va_Qv post (pw_B X) (pw_F X)) args s cells slots (pw_F X)) w pc lv [] := fun H locs ls h1 h2 h3 => W.vret C.1.1 C.1.2.1 hr (fun t ht hW => ⟨⟨w, rfl, hp, by unfold pw_B; rw [ht]; exact h1⟩, h2.F ht⟩) h2.2.2 hdg hlk
theorem pw_aret (C : Cx p s m args c cc nL own X) {post : Wd → Prop} {g i : Nat} {t0 : FieldType} (hr : meth.sig.returnType = some (.array t0)) (hlk : meth.locks = false) (hdg : decode cc pc = .ok (.areturn, 1)) (hp : post w) : MW p l e R s m args below meth c X nL cells slots (MQ below (va_Qr post (fun w a t => a = pw_a X g i ∧ pw_H X w t.heap) (pw_F X)) args s cells slots (pw_F X)) w pc lv [.ref (pw_a X g i)] := fun H locs ls h1 h2 h3 => W.aret C.1.1 C.1.2.1 hr (Or.inr ⟨_, rfl⟩) (Or.inr ⟨_, rfl⟩) (fun t ht hW => ⟨⟨w, _, rfl, hp, rfl, by rw [ht]; exact h1⟩, h2.F ht⟩) h2.2.2 hdg hlk
theorem pw_pre (C : Cx p s m args c cc nL own X) {H : Heap} {locs : List Loc} (h1 : pw_H X w H) (h2 : va_S (fun q => pw_z X ≤ q) s.heap H locs) (As : List Value) : PreS s H (pw_Pc X w As) As := ⟨pw_Pc.blind, fun U hU hW => ⟨rfl, by rw [hU]; exact Nat.le_trans C.2.2.2 h2.1, by rw [hU]; exact h1, C.2.1.warm hW⟩⟩
theorem pw_preV (C : Cx p s m args c cc nL own X) {H : Heap} {locs : List Loc} (h1 : pw_H X w H) (h2 : va_S (fun q => pw_z X ≤ q) s.heap H locs) {g i ci : Nat} {fs : List Value} {q : vw_C} (hd : pw_d X g i) (hw : w g i = oB ci fs) (hc : vwCl[ci]? = some q) (As : List Value) : PreV s H q.1 (pw_a X g i) (pw_Pc X w (.ref (pw_a X g i) :: As)) As := ⟨pw_Pc.blind, va_recv C.2.1.1 (pw_one h1 hd hw) hc (q0 := 0) rfl, fun U hU hW => ⟨rfl, by rw [hU]; exact Nat.le_trans C.2.2.2 h2.1, by rw [hU]; exact h1, C.2.1.warm hW⟩⟩
theorem pw_callSi (C : Cx p s m args c cc nL own X) {y : MethodName} {ws : List Cond} {rm : Room} {bytes : ByteArray} {maxL index n : Nat} {ret : Option FieldType} {As rest : List Value} {post : Int32 → Wd → Prop} (hM : CtI l y ws rm X w As post) (cw : CallB R s args own index y bytes maxL ret ws rm 0 0 n ∧ (Cond.static y).before args s = true) (hn : As.length = n) (hst : st = As.reverse ++ rest) (hcat : (rest.map fun v => v.category).sum ≤ 8) (hdg : decode cc pc = .ok (.invokestatic index, 3)) (hf : cells ≤ R.cells ∧ slots ≤ R.slots) (kk : ∀ (r : Int32) (w' : Wd), post r w' → MW p l e R s m args below meth c X nL cells slots Q w' (pc + 3) lv (.int r :: rest)) : MW p l e R s m args below meth c X nL cells slots Q w pc lv st := fun H locs ls h1 h2 h3 => by
  subst hst
  exact va_calli (va_runS (As := As) (rest := rest) C.1 hM cw (pw_pre C h1 h2 As) rfl hn h3.1 rfl (lv_room hcat) hdg hf) h2 (fun q _ h => h) (fun q h => h) (fun r u t H1 locs1 ht hvm hp hB hz hk hS => kk r u hp H1 locs1 ls (by rw [← ht]; exact hB) hS h3)
theorem pw_callSl (C : Cx p s m args c cc nL own X) {y : MethodName} {ws : List Cond} {rm : Room} {bytes : ByteArray} {maxL index n : Nat} {ret : Option FieldType} {As rest : List Value} {post : Int64 → Wd → Prop} (hM : CtL l y ws rm X w As post) (cw : CallB R s args own index y bytes maxL ret ws rm 0 0 n ∧ (Cond.static y).before args s = true) (hn : As.length = n) (hst : st = As.reverse ++ rest) (hcat : (rest.map fun v => v.category).sum ≤ 8) (hdg : decode cc pc = .ok (.invokestatic index, 3)) (hf : cells ≤ R.cells ∧ slots ≤ R.slots) (kk : ∀ (r : Int64) (w' : Wd), post r w' → MW p l e R s m args below meth c X nL cells slots Q w' (pc + 3) lv (.long r :: rest)) : MW p l e R s m args below meth c X nL cells slots Q w pc lv st := fun H locs ls h1 h2 h3 => by
  subst hst
  exact va_calll (va_runS (As := As) (rest := rest) C.1 hM cw (pw_pre C h1 h2 As) rfl hn h3.1 rfl (lv_room hcat) hdg hf) h2 (fun q _ h => h) (fun q h => h) (fun r u t H1 locs1 ht hvm hp hB hz hk hS => kk r u hp H1 locs1 ls (by rw [← ht]; exact hB) hS h3)
theorem pw_callSv (C : Cx p s m args c cc nL own X) {y : MethodName} {ws : List Cond} {rm : Room} {bytes : ByteArray} {maxL index n : Nat} {ret : Option FieldType} {As rest : List Value} {post : Wd → Prop} (hM : CtV l y ws rm X w As post) (cw : CallB R s args own index y bytes maxL ret ws rm 0 0 n ∧ (Cond.static y).before args s = true) (hn : As.length = n) (hst : st = As.reverse ++ rest) (hcat : (rest.map fun v => v.category).sum ≤ 8) (hdg : decode cc pc = .ok (.invokestatic index, 3)) (hf : cells ≤ R.cells ∧ slots ≤ R.slots) (kk : ∀ w' : Wd, post w' → MW p l e R s m args below meth c X nL cells slots Q w' (pc + 3) lv rest) : MW p l e R s m args below meth c X nL cells slots Q w pc lv st := fun H locs ls h1 h2 h3 => by
  subst hst
  exact va_callv (va_runS (As := As) (rest := rest) C.1 hM cw (pw_pre C h1 h2 As) rfl hn h3.1 rfl (lv_room hcat) hdg hf) h2 (fun q _ h => h) (fun q h => h) (fun u t H1 locs1 ht hvm hp hB hz hk hS => kk u hp H1 locs1 ls (by rw [← ht]; exact hB) hS h3)
theorem pw_callSr (C : Cx p s m args c cc nL own X) {y : MethodName} {ws : List Cond} {rm : Room} {bytes : ByteArray} {maxL index n : Nat} {ret : Option FieldType} {As rest : List Value} {g9 i9 : Nat} {post : Wd → Prop} (hM : CtR l y ws rm X w As g9 i9 post) (cw : CallB R s args own index y bytes maxL ret ws rm 0 0 n ∧ (Cond.static y).before args s = true) (hn : As.length = n) (hst : st = As.reverse ++ rest) (hcat : (rest.map fun v => v.category).sum ≤ 8) (hdg : decode cc pc = .ok (.invokestatic index, 3)) (hf : cells ≤ R.cells ∧ slots ≤ R.slots) (kk : ∀ w' : Wd, post w' → MW p l e R s m args below meth c X nL cells slots Q w' (pc + 3) lv (.ref (pw_a X g9 i9) :: rest)) : MW p l e R s m args below meth c X nL cells slots Q w pc lv st := fun H locs ls h1 h2 h3 => by
  subst hst
  exact va_callr (va_runS (As := As) (rest := rest) C.1 hM cw (pw_pre C h1 h2 As) rfl hn h3.1 rfl (lv_room hcat) hdg hf) h2 (fun q _ h => h) (fun q h => h) (fun u ra t H1 locs1 ht hvm hp hB hz hk hS => by
    obtain ⟨hB1, hB2⟩ := hB
    subst hB1
    exact kk u hp H1 locs1 ls (by rw [← ht]; exact hB2) hS h3)
theorem pw_callSNi (C : Cx p s m args c cc nL own X) {y : MethodName} {ws : List Cond} {rm : Room} {bytes : ByteArray} {maxL index n : Nat} {ret : Option FieldType} {As rest : List Value} {post : Int32 → Wd → Prop} (hM : CtI l y ws rm X w As post) {host : String} (cw : va_CN R s args own index y host bytes maxL ret ws rm 0 0 n ∧ (Cond.static y).before args s = true ∧ True) (hn : As.length = n) (hst : st = As.reverse ++ rest) (hcat : (rest.map fun v => v.category).sum ≤ 8) (hdg : decode cc pc = .ok (.invokestatic index, 3)) (hf : cells ≤ R.cells ∧ slots ≤ R.slots) (kk : ∀ (r : Int32) (w' : Wd), post r w' → MW p l e R s m args below meth c X nL cells slots Q w' (pc + 3) lv (.int r :: rest)) : MW p l e R s m args below meth c X nL cells slots Q w pc lv st := fun H locs ls h1 h2 h3 => by
  subst hst
  exact va_calli (va_runSN (As := As) (rest := rest) C.1 hM cw (pw_pre C h1 h2 As) rfl hn h3.1 rfl (lv_room hcat) hdg hf) h2 (fun q _ h => h) (fun q h => h) (fun r u t H1 locs1 ht hvm hp hB hz hk hS => kk r u hp H1 locs1 ls (by rw [← ht]; exact hB) hS h3)
theorem pw_callSNl (C : Cx p s m args c cc nL own X) {y : MethodName} {ws : List Cond} {rm : Room} {bytes : ByteArray} {maxL index n : Nat} {ret : Option FieldType} {As rest : List Value} {post : Int64 → Wd → Prop} (hM : CtL l y ws rm X w As post) {host : String} (cw : va_CN R s args own index y host bytes maxL ret ws rm 0 0 n ∧ (Cond.static y).before args s = true ∧ True) (hn : As.length = n) (hst : st = As.reverse ++ rest) (hcat : (rest.map fun v => v.category).sum ≤ 8) (hdg : decode cc pc = .ok (.invokestatic index, 3)) (hf : cells ≤ R.cells ∧ slots ≤ R.slots) (kk : ∀ (r : Int64) (w' : Wd), post r w' → MW p l e R s m args below meth c X nL cells slots Q w' (pc + 3) lv (.long r :: rest)) : MW p l e R s m args below meth c X nL cells slots Q w pc lv st := fun H locs ls h1 h2 h3 => by
  subst hst
  exact va_calll (va_runSN (As := As) (rest := rest) C.1 hM cw (pw_pre C h1 h2 As) rfl hn h3.1 rfl (lv_room hcat) hdg hf) h2 (fun q _ h => h) (fun q h => h) (fun r u t H1 locs1 ht hvm hp hB hz hk hS => kk r u hp H1 locs1 ls (by rw [← ht]; exact hB) hS h3)
theorem pw_callSNv (C : Cx p s m args c cc nL own X) {y : MethodName} {ws : List Cond} {rm : Room} {bytes : ByteArray} {maxL index n : Nat} {ret : Option FieldType} {As rest : List Value} {post : Wd → Prop} (hM : CtV l y ws rm X w As post) {host : String} (cw : va_CN R s args own index y host bytes maxL ret ws rm 0 0 n ∧ (Cond.static y).before args s = true ∧ True) (hn : As.length = n) (hst : st = As.reverse ++ rest) (hcat : (rest.map fun v => v.category).sum ≤ 8) (hdg : decode cc pc = .ok (.invokestatic index, 3)) (hf : cells ≤ R.cells ∧ slots ≤ R.slots) (kk : ∀ w' : Wd, post w' → MW p l e R s m args below meth c X nL cells slots Q w' (pc + 3) lv rest) : MW p l e R s m args below meth c X nL cells slots Q w pc lv st := fun H locs ls h1 h2 h3 => by
  subst hst
  exact va_callv (va_runSN (As := As) (rest := rest) C.1 hM cw (pw_pre C h1 h2 As) rfl hn h3.1 rfl (lv_room hcat) hdg hf) h2 (fun q _ h => h) (fun q h => h) (fun u t H1 locs1 ht hvm hp hB hz hk hS => kk u hp H1 locs1 ls (by rw [← ht]; exact hB) hS h3)
theorem pw_callSNr (C : Cx p s m args c cc nL own X) {y : MethodName} {ws : List Cond} {rm : Room} {bytes : ByteArray} {maxL index n : Nat} {ret : Option FieldType} {As rest : List Value} {g9 i9 : Nat} {post : Wd → Prop} (hM : CtR l y ws rm X w As g9 i9 post) {host : String} (cw : va_CN R s args own index y host bytes maxL ret ws rm 0 0 n ∧ (Cond.static y).before args s = true ∧ True) (hn : As.length = n) (hst : st = As.reverse ++ rest) (hcat : (rest.map fun v => v.category).sum ≤ 8) (hdg : decode cc pc = .ok (.invokestatic index, 3)) (hf : cells ≤ R.cells ∧ slots ≤ R.slots) (kk : ∀ w' : Wd, post w' → MW p l e R s m args below meth c X nL cells slots Q w' (pc + 3) lv (.ref (pw_a X g9 i9) :: rest)) : MW p l e R s m args below meth c X nL cells slots Q w pc lv st := fun H locs ls h1 h2 h3 => by
  subst hst
  exact va_callr (va_runSN (As := As) (rest := rest) C.1 hM cw (pw_pre C h1 h2 As) rfl hn h3.1 rfl (lv_room hcat) hdg hf) h2 (fun q _ h => h) (fun q h => h) (fun u ra t H1 locs1 ht hvm hp hB hz hk hS => by
    obtain ⟨hB1, hB2⟩ := hB
    subst hB1
    exact kk u hp H1 locs1 ls (by rw [← ht]; exact hB2) hS h3)
theorem pw_callVi (C : Cx p s m args c cc nL own X) {y : MethodName} {ws : List Cond} {rm : Room} {bytes : ByteArray} {maxL index n : Nat} {ret : Option FieldType} {As rest : List Value} {g i ci : Nat} {fs : List Value} {q9 : vw_C} {post : Int32 → Wd → Prop} (hM : CtI l y ws rm X w (.ref (pw_a X g i) :: As) post) (hd : pw_d X g i) (hw : w g i = oB ci fs) (hc : vwCl[ci]? = some q9) (cw : CallW R s args own q9.1 index y bytes maxL ret ws rm 0 0 n) (hn : As.length = n) (hst : st = As.reverse ++ .ref (pw_a X g i) :: rest) (hcat : (rest.map fun v => v.category).sum ≤ 8) (hdg : decode cc pc = .ok (.invokevirtual index, 3)) (hf : cells ≤ R.cells ∧ slots ≤ R.slots) (kk : ∀ (r : Int32) (w' : Wd), post r w' → MW p l e R s m args below meth c X nL cells slots Q w' (pc + 3) lv (.int r :: rest)) : MW p l e R s m args below meth c X nL cells slots Q w pc lv st := fun H locs ls h1 h2 h3 => by
  subst hst
  exact va_calli (va_runV (As := As) (rest := rest) C.1 hM cw (pw_preV C h1 h2 hd hw hc As) rfl hn h3.1 rfl (lv_room hcat) hdg hf) h2 (fun q _ h => h) (fun q h => h) (fun r u t H1 locs1 ht hvm hp hB hz hk hS => kk r u hp H1 locs1 ls (by rw [← ht]; exact hB) hS h3)
theorem pw_callVl (C : Cx p s m args c cc nL own X) {y : MethodName} {ws : List Cond} {rm : Room} {bytes : ByteArray} {maxL index n : Nat} {ret : Option FieldType} {As rest : List Value} {g i ci : Nat} {fs : List Value} {q9 : vw_C} {post : Int64 → Wd → Prop} (hM : CtL l y ws rm X w (.ref (pw_a X g i) :: As) post) (hd : pw_d X g i) (hw : w g i = oB ci fs) (hc : vwCl[ci]? = some q9) (cw : CallW R s args own q9.1 index y bytes maxL ret ws rm 0 0 n) (hn : As.length = n) (hst : st = As.reverse ++ .ref (pw_a X g i) :: rest) (hcat : (rest.map fun v => v.category).sum ≤ 8) (hdg : decode cc pc = .ok (.invokevirtual index, 3)) (hf : cells ≤ R.cells ∧ slots ≤ R.slots) (kk : ∀ (r : Int64) (w' : Wd), post r w' → MW p l e R s m args below meth c X nL cells slots Q w' (pc + 3) lv (.long r :: rest)) : MW p l e R s m args below meth c X nL cells slots Q w pc lv st := fun H locs ls h1 h2 h3 => by
  subst hst
  exact va_calll (va_runV (As := As) (rest := rest) C.1 hM cw (pw_preV C h1 h2 hd hw hc As) rfl hn h3.1 rfl (lv_room hcat) hdg hf) h2 (fun q _ h => h) (fun q h => h) (fun r u t H1 locs1 ht hvm hp hB hz hk hS => kk r u hp H1 locs1 ls (by rw [← ht]; exact hB) hS h3)
theorem pw_callVv (C : Cx p s m args c cc nL own X) {y : MethodName} {ws : List Cond} {rm : Room} {bytes : ByteArray} {maxL index n : Nat} {ret : Option FieldType} {As rest : List Value} {g i ci : Nat} {fs : List Value} {q9 : vw_C} {post : Wd → Prop} (hM : CtV l y ws rm X w (.ref (pw_a X g i) :: As) post) (hd : pw_d X g i) (hw : w g i = oB ci fs) (hc : vwCl[ci]? = some q9) (cw : CallW R s args own q9.1 index y bytes maxL ret ws rm 0 0 n) (hn : As.length = n) (hst : st = As.reverse ++ .ref (pw_a X g i) :: rest) (hcat : (rest.map fun v => v.category).sum ≤ 8) (hdg : decode cc pc = .ok (.invokevirtual index, 3)) (hf : cells ≤ R.cells ∧ slots ≤ R.slots) (kk : ∀ w' : Wd, post w' → MW p l e R s m args below meth c X nL cells slots Q w' (pc + 3) lv rest) : MW p l e R s m args below meth c X nL cells slots Q w pc lv st := fun H locs ls h1 h2 h3 => by
  subst hst
  exact va_callv (va_runV (As := As) (rest := rest) C.1 hM cw (pw_preV C h1 h2 hd hw hc As) rfl hn h3.1 rfl (lv_room hcat) hdg hf) h2 (fun q _ h => h) (fun q h => h) (fun u t H1 locs1 ht hvm hp hB hz hk hS => kk u hp H1 locs1 ls (by rw [← ht]; exact hB) hS h3)
theorem pw_callVr (C : Cx p s m args c cc nL own X) {y : MethodName} {ws : List Cond} {rm : Room} {bytes : ByteArray} {maxL index n : Nat} {ret : Option FieldType} {As rest : List Value} {g i ci : Nat} {fs : List Value} {q9 : vw_C} {g9 i9 : Nat} {post : Wd → Prop} (hM : CtR l y ws rm X w (.ref (pw_a X g i) :: As) g9 i9 post) (hd : pw_d X g i) (hw : w g i = oB ci fs) (hc : vwCl[ci]? = some q9) (cw : CallW R s args own q9.1 index y bytes maxL ret ws rm 0 0 n) (hn : As.length = n) (hst : st = As.reverse ++ .ref (pw_a X g i) :: rest) (hcat : (rest.map fun v => v.category).sum ≤ 8) (hdg : decode cc pc = .ok (.invokevirtual index, 3)) (hf : cells ≤ R.cells ∧ slots ≤ R.slots) (kk : ∀ w' : Wd, post w' → MW p l e R s m args below meth c X nL cells slots Q w' (pc + 3) lv (.ref (pw_a X g9 i9) :: rest)) : MW p l e R s m args below meth c X nL cells slots Q w pc lv st := fun H locs ls h1 h2 h3 => by
  subst hst
  exact va_callr (va_runV (As := As) (rest := rest) C.1 hM cw (pw_preV C h1 h2 hd hw hc As) rfl hn h3.1 rfl (lv_room hcat) hdg hf) h2 (fun q _ h => h) (fun q h => h) (fun u ra t H1 locs1 ht hvm hp hB hz hk hS => by
    obtain ⟨hB1, hB2⟩ := hB
    subst hB1
    exact kk u hp H1 locs1 ls (by rw [← ht]; exact hB2) hS h3)
theorem pw_callVNi (C : Cx p s m args c cc nL own X) {y : MethodName} {ws : List Cond} {rm : Room} {bytes : ByteArray} {maxL index n : Nat} {ret : Option FieldType} {As rest : List Value} {g i ci : Nat} {fs : List Value} {q9 : vw_C} {post : Int32 → Wd → Prop} (hM : CtI l y ws rm X w (.ref (pw_a X g i) :: As) post) (hd : pw_d X g i) (hw : w g i = oB ci fs) (hc : vwCl[ci]? = some q9) {host : String} (cw : va_CN R s args own index y host bytes maxL ret ws rm 0 0 n ∧ (Cond.instanceMethod y).before args s = true ∧ (Cond.selects q9.1 y y).before args s = true) (hn : As.length = n) (hst : st = As.reverse ++ .ref (pw_a X g i) :: rest) (hcat : (rest.map fun v => v.category).sum ≤ 8) (hdg : decode cc pc = .ok (.invokevirtual index, 3)) (hf : cells ≤ R.cells ∧ slots ≤ R.slots) (kk : ∀ (r : Int32) (w' : Wd), post r w' → MW p l e R s m args below meth c X nL cells slots Q w' (pc + 3) lv (.int r :: rest)) : MW p l e R s m args below meth c X nL cells slots Q w pc lv st := fun H locs ls h1 h2 h3 => by
  subst hst
  exact va_calli (va_runVN (As := As) (rest := rest) C.1 hM cw (pw_preV C h1 h2 hd hw hc As) rfl hn h3.1 rfl (lv_room hcat) hdg hf) h2 (fun q _ h => h) (fun q h => h) (fun r u t H1 locs1 ht hvm hp hB hz hk hS => kk r u hp H1 locs1 ls (by rw [← ht]; exact hB) hS h3)
theorem pw_callVNl (C : Cx p s m args c cc nL own X) {y : MethodName} {ws : List Cond} {rm : Room} {bytes : ByteArray} {maxL index n : Nat} {ret : Option FieldType} {As rest : List Value} {g i ci : Nat} {fs : List Value} {q9 : vw_C} {post : Int64 → Wd → Prop} (hM : CtL l y ws rm X w (.ref (pw_a X g i) :: As) post) (hd : pw_d X g i) (hw : w g i = oB ci fs) (hc : vwCl[ci]? = some q9) {host : String} (cw : va_CN R s args own index y host bytes maxL ret ws rm 0 0 n ∧ (Cond.instanceMethod y).before args s = true ∧ (Cond.selects q9.1 y y).before args s = true) (hn : As.length = n) (hst : st = As.reverse ++ .ref (pw_a X g i) :: rest) (hcat : (rest.map fun v => v.category).sum ≤ 8) (hdg : decode cc pc = .ok (.invokevirtual index, 3)) (hf : cells ≤ R.cells ∧ slots ≤ R.slots) (kk : ∀ (r : Int64) (w' : Wd), post r w' → MW p l e R s m args below meth c X nL cells slots Q w' (pc + 3) lv (.long r :: rest)) : MW p l e R s m args below meth c X nL cells slots Q w pc lv st := fun H locs ls h1 h2 h3 => by
  subst hst
  exact va_calll (va_runVN (As := As) (rest := rest) C.1 hM cw (pw_preV C h1 h2 hd hw hc As) rfl hn h3.1 rfl (lv_room hcat) hdg hf) h2 (fun q _ h => h) (fun q h => h) (fun r u t H1 locs1 ht hvm hp hB hz hk hS => kk r u hp H1 locs1 ls (by rw [← ht]; exact hB) hS h3)
theorem pw_callVNv (C : Cx p s m args c cc nL own X) {y : MethodName} {ws : List Cond} {rm : Room} {bytes : ByteArray} {maxL index n : Nat} {ret : Option FieldType} {As rest : List Value} {g i ci : Nat} {fs : List Value} {q9 : vw_C} {post : Wd → Prop} (hM : CtV l y ws rm X w (.ref (pw_a X g i) :: As) post) (hd : pw_d X g i) (hw : w g i = oB ci fs) (hc : vwCl[ci]? = some q9) {host : String} (cw : va_CN R s args own index y host bytes maxL ret ws rm 0 0 n ∧ (Cond.instanceMethod y).before args s = true ∧ (Cond.selects q9.1 y y).before args s = true) (hn : As.length = n) (hst : st = As.reverse ++ .ref (pw_a X g i) :: rest) (hcat : (rest.map fun v => v.category).sum ≤ 8) (hdg : decode cc pc = .ok (.invokevirtual index, 3)) (hf : cells ≤ R.cells ∧ slots ≤ R.slots) (kk : ∀ w' : Wd, post w' → MW p l e R s m args below meth c X nL cells slots Q w' (pc + 3) lv rest) : MW p l e R s m args below meth c X nL cells slots Q w pc lv st := fun H locs ls h1 h2 h3 => by
  subst hst
  exact va_callv (va_runVN (As := As) (rest := rest) C.1 hM cw (pw_preV C h1 h2 hd hw hc As) rfl hn h3.1 rfl (lv_room hcat) hdg hf) h2 (fun q _ h => h) (fun q h => h) (fun u t H1 locs1 ht hvm hp hB hz hk hS => kk u hp H1 locs1 ls (by rw [← ht]; exact hB) hS h3)
theorem pw_callVNr (C : Cx p s m args c cc nL own X) {y : MethodName} {ws : List Cond} {rm : Room} {bytes : ByteArray} {maxL index n : Nat} {ret : Option FieldType} {As rest : List Value} {g i ci : Nat} {fs : List Value} {q9 : vw_C} {g9 i9 : Nat} {post : Wd → Prop} (hM : CtR l y ws rm X w (.ref (pw_a X g i) :: As) g9 i9 post) (hd : pw_d X g i) (hw : w g i = oB ci fs) (hc : vwCl[ci]? = some q9) {host : String} (cw : va_CN R s args own index y host bytes maxL ret ws rm 0 0 n ∧ (Cond.instanceMethod y).before args s = true ∧ (Cond.selects q9.1 y y).before args s = true) (hn : As.length = n) (hst : st = As.reverse ++ .ref (pw_a X g i) :: rest) (hcat : (rest.map fun v => v.category).sum ≤ 8) (hdg : decode cc pc = .ok (.invokevirtual index, 3)) (hf : cells ≤ R.cells ∧ slots ≤ R.slots) (kk : ∀ w' : Wd, post w' → MW p l e R s m args below meth c X nL cells slots Q w' (pc + 3) lv (.ref (pw_a X g9 i9) :: rest)) : MW p l e R s m args below meth c X nL cells slots Q w pc lv st := fun H locs ls h1 h2 h3 => by
  subst hst
  exact va_callr (va_runVN (As := As) (rest := rest) C.1 hM cw (pw_preV C h1 h2 hd hw hc As) rfl hn h3.1 rfl (lv_room hcat) hdg hf) h2 (fun q _ h => h) (fun q h => h) (fun u ra t H1 locs1 ht hvm hp hB hz hk hS => by
    obtain ⟨hB1, hB2⟩ := hB
    subst hB1
    exact kk u hp H1 locs1 ls (by rw [← ht]; exact hB2) hS h3)
/-- the words of a call, out of the tables' -/
theorem pw_cb {y : MethodName} {bytes : ByteArray} {maxL index : Nat} {ret : Option FieldType} {rm : Room} (C : Cx p s m args c cc nL own X) (n : Nat) (hc : Cond.code y bytes maxL ret ∈ pw_all) (hini : Cond.initialized y.cls ∈ pw_all) (hl : Cond.methodLink own index y ∈ pw_all) (hrm : rm.cells = 0 ∧ rm.slots = 0) (hd : y.cls ≠ "java/lang/invoke/MethodHandle" ∧ y.cls ≠ "java/lang/invoke/VarHandle" ∧ (parseMethodDescriptor y.desc).map (fun d => d.parameters.length) = some n) (hR : rm.frames + 1 ≤ R.frames ∧ 8 + (maxL + 11) + rm.locals ≤ R.locals) : CallB R s args own index y bytes maxL ret (pw_ws y bytes maxL ret) rm 0 0 n := callB_of n C.1.2.2.2.2 (pw_gws hc) rfl hrm.1 hrm.2 (C.1.2.2.2.2 _ hini) (C.1.2.2.2.2 _ hl) hd hR
theorem pw_cn {y : MethodName} {bytes : ByteArray} {maxL index : Nat} {ret : Option FieldType} {rm : Room} {host : String} (C : Cx p s m args c cc nL own X) (n : Nat) (hc : Cond.code y bytes maxL ret ∈ pw_all) (hini : Cond.initialized y.cls ∈ pw_all) (hl : Cond.methodLinkNest own index y host ∈ pw_nw) (hrm : rm.cells = 0 ∧ rm.slots = 0) (hd : y.cls ≠ "java/lang/invoke/MethodHandle" ∧ y.cls ≠ "java/lang/invoke/VarHandle" ∧ (parseMethodDescriptor y.desc).map (fun d => d.parameters.length) = some n) (hR : rm.frames + 1 ≤ R.frames ∧ 8 + (maxL + 11) + rm.locals ≤ R.locals) : va_CN R s args own index y host bytes maxL ret (pw_ws y bytes maxL ret) rm 0 0 n := va_cnB n C.1.2.2.2.2 (pw_gws hc) rfl hrm.1 hrm.2 (C.2.1.2 _ hl) (C.1.2.2.2.2 _ hini) hd hR
theorem pw_w {w0 : Cond} (C : Cx p s m args c cc nL own X) (h : w0 ∈ pw_all) : w0.before args s = true := C.1.2.2.2.2 _ h
end PW
