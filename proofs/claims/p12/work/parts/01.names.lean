-- ===== PART A: goes FIRST, ahead of the names: the tables' words, and 'selects' of the private methods out of them =====
/-- a private method of a class that the tables say can be made, by its rows of tables_1 -/
def lw_okq (q : MethodName × Nat) : Prop := (q.1.cls ≠ "java/lang/invoke/MethodHandle" ∧ q.1.cls ≠ "java/lang/invoke/VarHandle") ∧ Cond.instantiable q.1.cls q.2 ∈ tables_1 ∧ Cond.privateMethod q.1 ∈ tables_1 ∧ Cond.instanceMethod q.1 ∈ tables_1
theorem lw_p0 : lw_okq (⟨"PathFinder$Graph", "put", "(III)I"⟩, 2) := ⟨⟨by decide +kernel, by decide +kernel⟩, List.mem_of_getElem? (i := 19) (by decide +kernel), List.mem_of_getElem? (i := 145) (by decide +kernel), List.mem_of_getElem? (i := 146) (by decide +kernel)⟩
theorem lw_p1 : lw_okq (⟨"PathFinder", "forget", "()V"⟩, 4) := ⟨⟨by decide +kernel, by decide +kernel⟩, List.mem_of_getElem? (i := 11) (by decide +kernel), List.mem_of_getElem? (i := 164) (by decide +kernel), List.mem_of_getElem? (i := 165) (by decide +kernel)⟩
theorem lw_p2 : lw_okq (⟨"PathFinder$Graph", "remove", "(III)I"⟩, 2) := ⟨⟨by decide +kernel, by decide +kernel⟩, List.mem_of_getElem? (i := 19) (by decide +kernel), List.mem_of_getElem? (i := 172) (by decide +kernel), List.mem_of_getElem? (i := 173) (by decide +kernel)⟩
theorem lw_p3 : lw_okq (⟨"PathFinder$Path", "append", "(I)I"⟩, 7) := ⟨⟨by decide +kernel, by decide +kernel⟩, List.mem_of_getElem? (i := 38) (by decide +kernel), List.mem_of_getElem? (i := 185) (by decide +kernel), List.mem_of_getElem? (i := 186) (by decide +kernel)⟩
theorem lw_p4 : lw_okq (⟨"PathFinder$Path", "readWords", "()V"⟩, 7) := ⟨⟨by decide +kernel, by decide +kernel⟩, List.mem_of_getElem? (i := 38) (by decide +kernel), List.mem_of_getElem? (i := 189) (by decide +kernel), List.mem_of_getElem? (i := 190) (by decide +kernel)⟩
theorem lw_p5 : lw_okq (⟨"PathFinder$Path", "readPart", "(II)I"⟩, 7) := ⟨⟨by decide +kernel, by decide +kernel⟩, List.mem_of_getElem? (i := 38) (by decide +kernel), List.mem_of_getElem? (i := 193) (by decide +kernel), List.mem_of_getElem? (i := 194) (by decide +kernel)⟩
theorem lw_p6 : lw_okq (⟨"PathFinder$Path", "isWithin", "(III)Z"⟩, 7) := ⟨⟨by decide +kernel, by decide +kernel⟩, List.mem_of_getElem? (i := 38) (by decide +kernel), List.mem_of_getElem? (i := 197) (by decide +kernel), List.mem_of_getElem? (i := 198) (by decide +kernel)⟩
theorem lw_p7 : lw_okq (⟨"PathFinder$Path", "readLabels", "(II)I"⟩, 7) := ⟨⟨by decide +kernel, by decide +kernel⟩, List.mem_of_getElem? (i := 38) (by decide +kernel), List.mem_of_getElem? (i := 204) (by decide +kernel), List.mem_of_getElem? (i := 205) (by decide +kernel)⟩
theorem lw_p8 : lw_okq (⟨"PathFinder$Path", "empty", "()I"⟩, 7) := ⟨⟨by decide +kernel, by decide +kernel⟩, List.mem_of_getElem? (i := 38) (by decide +kernel), List.mem_of_getElem? (i := 212) (by decide +kernel), List.mem_of_getElem? (i := 213) (by decide +kernel)⟩
theorem lw_p9 : lw_okq (⟨"PathFinder$Path", "isJust", "()Z"⟩, 7) := ⟨⟨by decide +kernel, by decide +kernel⟩, List.mem_of_getElem? (i := 38) (by decide +kernel), List.mem_of_getElem? (i := 226) (by decide +kernel), List.mem_of_getElem? (i := 227) (by decide +kernel)⟩
theorem lw_p10 : lw_okq (⟨"PathFinder$Counts", "from", "(I)[J"⟩, 7) := ⟨⟨by decide +kernel, by decide +kernel⟩, List.mem_of_getElem? (i := 98) (by decide +kernel), List.mem_of_getElem? (i := 231) (by decide +kernel), List.mem_of_getElem? (i := 232) (by decide +kernel)⟩
theorem lw_p11 : lw_okq (⟨"PathFinder$Relations", "ofPath", "()[J"⟩, 4) := ⟨⟨by decide +kernel, by decide +kernel⟩, List.mem_of_getElem? (i := 76) (by decide +kernel), List.mem_of_getElem? (i := 236) (by decide +kernel), List.mem_of_getElem? (i := 237) (by decide +kernel)⟩
theorem lw_p12 : lw_okq (⟨"PathFinder$Relations", "fill", "(I)V"⟩, 4) := ⟨⟨by decide +kernel, by decide +kernel⟩, List.mem_of_getElem? (i := 76) (by decide +kernel), List.mem_of_getElem? (i := 240) (by decide +kernel), List.mem_of_getElem? (i := 241) (by decide +kernel)⟩
theorem lw_p13 : lw_okq (⟨"PathFinder$Relations", "addEdges", "([JI)V"⟩, 4) := ⟨⟨by decide +kernel, by decide +kernel⟩, List.mem_of_getElem? (i := 76) (by decide +kernel), List.mem_of_getElem? (i := 247) (by decide +kernel), List.mem_of_getElem? (i := 248) (by decide +kernel)⟩
theorem lw_p14 : lw_okq (⟨"PathFinder$Counts", "carry", "(IZI[J[J)V"⟩, 7) := ⟨⟨by decide +kernel, by decide +kernel⟩, List.mem_of_getElem? (i := 98) (by decide +kernel), List.mem_of_getElem? (i := 279) (by decide +kernel), List.mem_of_getElem? (i := 280) (by decide +kernel)⟩
theorem lw_p15 : lw_okq (⟨"PathFinder$Counts", "carryOverEdges", "(IZ[J[J)V"⟩, 7) := ⟨⟨by decide +kernel, by decide +kernel⟩, List.mem_of_getElem? (i := 98) (by decide +kernel), List.mem_of_getElem? (i := 283) (by decide +kernel), List.mem_of_getElem? (i := 284) (by decide +kernel)⟩
def lw_privs_1 : List (MethodName × Nat) := [(⟨"PathFinder$Graph", "put", "(III)I"⟩, 2), (⟨"PathFinder", "forget", "()V"⟩, 4), (⟨"PathFinder$Graph", "remove", "(III)I"⟩, 2), (⟨"PathFinder$Path", "append", "(I)I"⟩, 7), (⟨"PathFinder$Path", "readWords", "()V"⟩, 7), (⟨"PathFinder$Path", "readPart", "(II)I"⟩, 7), (⟨"PathFinder$Path", "isWithin", "(III)Z"⟩, 7), (⟨"PathFinder$Path", "readLabels", "(II)I"⟩, 7), (⟨"PathFinder$Path", "empty", "()I"⟩, 7), (⟨"PathFinder$Path", "isJust", "()Z"⟩, 7), (⟨"PathFinder$Counts", "from", "(I)[J"⟩, 7), (⟨"PathFinder$Relations", "ofPath", "()[J"⟩, 4), (⟨"PathFinder$Relations", "fill", "(I)V"⟩, 4), (⟨"PathFinder$Relations", "addEdges", "([JI)V"⟩, 4), (⟨"PathFinder$Counts", "carry", "(IZI[J[J)V"⟩, 7), (⟨"PathFinder$Counts", "carryOverEdges", "(IZ[J[J)V"⟩, 7)]
theorem lw_r1 : ∀ q ∈ lw_privs_1, lw_okq q := List.forall_mem_cons.mpr ⟨lw_p0, List.forall_mem_cons.mpr ⟨lw_p1, List.forall_mem_cons.mpr ⟨lw_p2, List.forall_mem_cons.mpr ⟨lw_p3, List.forall_mem_cons.mpr ⟨lw_p4, List.forall_mem_cons.mpr ⟨lw_p5, List.forall_mem_cons.mpr ⟨lw_p6, List.forall_mem_cons.mpr ⟨lw_p7, List.forall_mem_cons.mpr ⟨lw_p8, List.forall_mem_cons.mpr ⟨lw_p9, List.forall_mem_cons.mpr ⟨lw_p10, List.forall_mem_cons.mpr ⟨lw_p11, List.forall_mem_cons.mpr ⟨lw_p12, List.forall_mem_cons.mpr ⟨lw_p13, List.forall_mem_cons.mpr ⟨lw_p14, List.forall_mem_cons.mpr ⟨lw_p15, fun _ h => absurd h List.not_mem_nil⟩⟩⟩⟩⟩⟩⟩⟩⟩⟩⟩⟩⟩⟩⟩⟩
theorem lw_p16 : lw_okq (⟨"PathFinder$Counts", "carryOverBoth", "(IZI[J[J)V"⟩, 7) := ⟨⟨by decide +kernel, by decide +kernel⟩, List.mem_of_getElem? (i := 98) (by decide +kernel), List.mem_of_getElem? (i := 302) (by decide +kernel), List.mem_of_getElem? (i := 303) (by decide +kernel)⟩
theorem lw_p17 : lw_okq (⟨"PathFinderModel", "reckon", "()Z"⟩, 10) := ⟨⟨by decide +kernel, by decide +kernel⟩, List.mem_of_getElem? (i := 336) (by decide +kernel), List.mem_of_getElem? (i := 417) (by decide +kernel), List.mem_of_getElem? (i := 418) (by decide +kernel)⟩
theorem lw_p18 : lw_okq (⟨"PathFinderModel", "edgesOf", "(II)V"⟩, 10) := ⟨⟨by decide +kernel, by decide +kernel⟩, List.mem_of_getElem? (i := 336) (by decide +kernel), List.mem_of_getElem? (i := 422) (by decide +kernel), List.mem_of_getElem? (i := 423) (by decide +kernel)⟩
theorem lw_p19 : lw_okq (⟨"PathFinderModel", "turn", "(I)V"⟩, 10) := ⟨⟨by decide +kernel, by decide +kernel⟩, List.mem_of_getElem? (i := 336) (by decide +kernel), List.mem_of_getElem? (i := 426) (by decide +kernel), List.mem_of_getElem? (i := 427) (by decide +kernel)⟩
theorem lw_p20 : lw_okq (⟨"PathFinderModel", "chain", "(II)V"⟩, 10) := ⟨⟨by decide +kernel, by decide +kernel⟩, List.mem_of_getElem? (i := 336) (by decide +kernel), List.mem_of_getElem? (i := 430) (by decide +kernel), List.mem_of_getElem? (i := 431) (by decide +kernel)⟩
theorem lw_p21 : lw_okq (⟨"PathFinderModel", "fall", "(I)V"⟩, 10) := ⟨⟨by decide +kernel, by decide +kernel⟩, List.mem_of_getElem? (i := 336) (by decide +kernel), List.mem_of_getElem? (i := 441) (by decide +kernel), List.mem_of_getElem? (i := 442) (by decide +kernel)⟩
theorem lw_p22 : lw_okq (⟨"PathFinderModel", "mark", "(IZ)V"⟩, 10) := ⟨⟨by decide +kernel, by decide +kernel⟩, List.mem_of_getElem? (i := 336) (by decide +kernel), List.mem_of_getElem? (i := 445) (by decide +kernel), List.mem_of_getElem? (i := 446) (by decide +kernel)⟩
theorem lw_p23 : lw_okq (⟨"PathFinderModel", "close", "(IZ)V"⟩, 10) := ⟨⟨by decide +kernel, by decide +kernel⟩, List.mem_of_getElem? (i := 336) (by decide +kernel), List.mem_of_getElem? (i := 449) (by decide +kernel), List.mem_of_getElem? (i := 450) (by decide +kernel)⟩
def lw_privs_2 : List (MethodName × Nat) := [(⟨"PathFinder$Counts", "carryOverBoth", "(IZI[J[J)V"⟩, 7), (⟨"PathFinderModel", "reckon", "()Z"⟩, 10), (⟨"PathFinderModel", "edgesOf", "(II)V"⟩, 10), (⟨"PathFinderModel", "turn", "(I)V"⟩, 10), (⟨"PathFinderModel", "chain", "(II)V"⟩, 10), (⟨"PathFinderModel", "fall", "(I)V"⟩, 10), (⟨"PathFinderModel", "mark", "(IZ)V"⟩, 10), (⟨"PathFinderModel", "close", "(IZ)V"⟩, 10)]
theorem lw_r2 : ∀ q ∈ lw_privs_2, lw_okq q := List.forall_mem_cons.mpr ⟨lw_p16, List.forall_mem_cons.mpr ⟨lw_p17, List.forall_mem_cons.mpr ⟨lw_p18, List.forall_mem_cons.mpr ⟨lw_p19, List.forall_mem_cons.mpr ⟨lw_p20, List.forall_mem_cons.mpr ⟨lw_p21, List.forall_mem_cons.mpr ⟨lw_p22, List.forall_mem_cons.mpr ⟨lw_p23, fun _ h => absurd h List.not_mem_nil⟩⟩⟩⟩⟩⟩⟩⟩
def lw_privs : List (MethodName × Nat) := lw_privs_1 ++ (lw_privs_2)
def lw_tbl : List Cond := k2_sels lw_privs ++ tables_1
theorem lw_privs_ok : ∀ q ∈ lw_privs, lw_okq q := by
  show ∀ q ∈ lw_privs_1 ++ (lw_privs_2), lw_okq q
  exact List.forall_mem_append.mpr ⟨lw_r1, lw_r2⟩

/-! NAMES, by program out of the Statement -/
def pw_all : List Cond := lw_tbl.filter goodWord
theorem pw_good : GoodIn lw_tbl pw_all := fun w h => ⟨(List.mem_filter.mp h).1, good_of_word (List.mem_filter.mp h).2⟩
theorem pw_in {w : Cond} (h : w ∈ lw_tbl) (g : goodWord w = true) : w ∈ pw_all := List.mem_filter.mpr ⟨h, g⟩
def R_CN : String := "PathFinder$Counts"
def T_CN : u_T := fun k => match k with
  | 0 => ("PathFinder$Counts", "graph", "LPathFinder$Graph;", true)
  | 1 => ("PathFinder$Counts", "path", "LPathFinder$Path;", true)
  | 2 => ("PathFinder$Counts", "relations", "LPathFinder$Relations;", true)
  | 3 => ("PathFinder$Counts", "before", "[J", true)
  | 4 => ("PathFinder$Counts", "after", "[J", true)
  | 5 => ("PathFinder$Counts", "between", "[[J", true)
  | _ => ("PathFinder$Counts", "start", "I", false)
def t_CN : Nat → FieldType := fun k => match k with
  | 0 => (.object "PathFinder$Graph")
  | 1 => (.object "PathFinder$Path")
  | 2 => (.object "PathFinder$Relations")
  | 3 => (.array .long)
  | 4 => (.array .long)
  | 5 => (.array (.array .long))
  | _ => .int
theorem n_CN : ∀ a, a < 7 → ∀ b, b < 7 → a ≠ b → (T_CN a).2.1 ≠ (T_CN b).2.1 := by decide +kernel
theorem tk_CN : ∀ k, k < 7 → parseFieldDescriptor (T_CN k).2.2.1 = some (t_CN k) := by decide +kernel
def R_GR : String := "PathFinder$Graph"
def T_GR : u_T := fun k => match k with
  | 0 => ("PathFinder$Graph", "targets", "[[J", true)
  | _ => ("PathFinder$Graph", "size", "I", false)
def t_GR : Nat → FieldType := fun k => match k with
  | 0 => (.array (.array .long))
  | _ => .int
theorem n_GR : ∀ a, a < 2 → ∀ b, b < 2 → a ≠ b → (T_GR a).2.1 ≠ (T_GR b).2.1 := by decide +kernel
theorem tk_GR : ∀ k, k < 2 → parseFieldDescriptor (T_GR k).2.2.1 = some (t_GR k) := by decide +kernel
def R_PA : String := "PathFinder$Path"
def T_PA : u_T := fun k => match k with
  | 0 => ("PathFinder$Path", "words", "[I", true)
  | 1 => ("PathFinder$Path", "kinds", "[I", true)
  | 2 => ("PathFinder$Path", "labelSets", "[I", true)
  | 3 => ("PathFinder$Path", "seconds", "[I", true)
  | 4 => ("PathFinder$Path", "size", "I", false)
  | 5 => ("PathFinder$Path", "parts", "I", false)
  | _ => ("PathFinder$Path", "fault", "I", false)
def t_PA : Nat → FieldType := fun k => match k with
  | 0 => (.array .int)
  | 1 => (.array .int)
  | 2 => (.array .int)
  | 3 => (.array .int)
  | 4 => .int
  | 5 => .int
  | _ => .int
theorem n_PA : ∀ a, a < 7 → ∀ b, b < 7 → a ≠ b → (T_PA a).2.1 ≠ (T_PA b).2.1 := by decide +kernel
theorem tk_PA : ∀ k, k < 7 → parseFieldDescriptor (T_PA k).2.2.1 = some (t_PA k) := by decide +kernel
def R_RE : String := "PathFinder$Relations"
def T_RE : u_T := fun k => match k with
  | 0 => ("PathFinder$Relations", "graph", "LPathFinder$Graph;", true)
  | 1 => ("PathFinder$Relations", "path", "LPathFinder$Path;", true)
  | 2 => ("PathFinder$Relations", "partRows", "[[J", true)
  | _ => ("PathFinder$Relations", "ready", "Z", false)
def t_RE : Nat → FieldType := fun k => match k with
  | 0 => (.object "PathFinder$Graph")
  | 1 => (.object "PathFinder$Path")
  | 2 => (.array (.array .long))
  | _ => .boolean
theorem n_RE : ∀ a, a < 4 → ∀ b, b < 4 → a ≠ b → (T_RE a).2.1 ≠ (T_RE b).2.1 := by decide +kernel
theorem tk_RE : ∀ k, k < 4 → parseFieldDescriptor (T_RE k).2.2.1 = some (t_RE k) := by decide +kernel
def R_PF : String := "PathFinder"
def T_PF : u_T := fun k => match k with
  | 0 => ("PathFinder", "graph", "LPathFinder$Graph;", true)
  | 1 => ("PathFinder", "path", "LPathFinder$Path;", true)
  | 2 => ("PathFinder", "relations", "LPathFinder$Relations;", true)
  | _ => ("PathFinder", "counts", "LPathFinder$Counts;", true)
def t_PF : Nat → FieldType := fun k => match k with
  | 0 => (.object "PathFinder$Graph")
  | 1 => (.object "PathFinder$Path")
  | 2 => (.object "PathFinder$Relations")
  | _ => (.object "PathFinder$Counts")
theorem n_PF : ∀ a, a < 4 → ∀ b, b < 4 → a ≠ b → (T_PF a).2.1 ≠ (T_PF b).2.1 := by decide +kernel
theorem tk_PF : ∀ k, k < 4 → parseFieldDescriptor (T_PF k).2.2.1 = some (t_PF k) := by decide +kernel
def R_MO : String := "PathFinderModel"
def T_MO : u_T := fun k => match k with
  | 0 => ("PathFinderModel", "there", "[Z", true)
  | 1 => ("PathFinderModel", "count", "I", false)
  | 2 => ("PathFinderModel", "words", "[I", true)
  | 3 => ("PathFinderModel", "size", "I", false)
  | 4 => ("PathFinderModel", "starts", "[I", true)
  | 5 => ("PathFinderModel", "parts", "I", false)
  | 6 => ("PathFinderModel", "lacks", "[I", true)
  | 7 => ("PathFinderModel", "tables", "[J", true)
  | 8 => ("PathFinderModel", "reckoned", "Z", false)
  | _ => ("PathFinderModel", "spare", "[J", true)
def t_MO : Nat → FieldType := fun k => match k with
  | 0 => (.array .boolean)
  | 1 => .int
  | 2 => (.array .int)
  | 3 => .int
  | 4 => (.array .int)
  | 5 => .int
  | 6 => (.array .int)
  | 7 => (.array .long)
  | 8 => .boolean
  | _ => (.array .long)
theorem n_MO : ∀ a, a < 10 → ∀ b, b < 10 → a ≠ b → (T_MO a).2.1 ≠ (T_MO b).2.1 := by decide +kernel
theorem tk_MO : ∀ k, k < 10 → parseFieldDescriptor (T_MO k).2.2.1 = some (t_MO k) := by decide +kernel
abbrev vwCl : List vw_C := [(R_CN, T_CN, 7), (R_GR, T_GR, 2), (R_PA, T_PA, 7), (R_RE, T_RE, 4), (R_PF, T_PF, 4), (R_MO, T_MO, 10)]
abbrev c_PF_init : ByteArray := prog_1_method_1_code
def y_PF_init : MethodName := ⟨"PathFinder", "<init>", "()V"⟩
abbrev c_GR_init : ByteArray := prog_3_method_1_code
def y_GR_init : MethodName := ⟨"PathFinder$Graph", "<init>", "()V"⟩
abbrev c_PA_init : ByteArray := prog_4_method_1_code
def y_PA_init : MethodName := ⟨"PathFinder$Path", "<init>", "()V"⟩
abbrev c_RE_init : ByteArray := prog_5_method_1_code
def y_RE_init : MethodName := ⟨"PathFinder$Relations", "<init>", "(LPathFinder$Graph;LPathFinder$Path;)V"⟩
abbrev c_CN_init : ByteArray := prog_2_method_1_code
def y_CN_init : MethodName := ⟨"PathFinder$Counts", "<init>", "(LPathFinder$Graph;LPathFinder$Path;LPathFinder$Relations;)V"⟩
abbrev c_PF_edge : ByteArray := prog_1_method_2_code
def y_PF_edge : MethodName := ⟨"PathFinder", "edge", "(III)I"⟩
abbrev c_GR_put : ByteArray := prog_3_method_2_code
def y_GR_put : MethodName := ⟨"PathFinder$Graph", "put", "(III)I"⟩
abbrev c_GR_isEdge : ByteArray := prog_3_method_4_code
def y_GR_isEdge : MethodName := ⟨"PathFinder$Graph", "isEdge", "(III)Z"⟩
abbrev c_PF_isPoint : ByteArray := prog_1_method_15_code
def y_PF_isPoint : MethodName := ⟨"PathFinder", "isPoint", "(I)Z"⟩
abbrev c_PF_isLabel : ByteArray := prog_1_method_16_code
def y_PF_isLabel : MethodName := ⟨"PathFinder", "isLabel", "(I)Z"⟩
abbrev c_PF_holds : ByteArray := prog_1_method_18_code
def y_PF_holds : MethodName := ⟨"PathFinder", "holds", "(JI)Z"⟩
abbrev c_PF_bit : ByteArray := prog_1_method_17_code
def y_PF_bit : MethodName := ⟨"PathFinder", "bit", "(I)J"⟩
abbrev c_PF_forget : ByteArray := prog_1_method_14_code
def y_PF_forget : MethodName := ⟨"PathFinder", "forget", "()V"⟩
abbrev c_PF_drop : ByteArray := prog_1_method_3_code
def y_PF_drop : MethodName := ⟨"PathFinder", "drop", "(III)I"⟩
abbrev c_GR_remove : ByteArray := prog_3_method_3_code
def y_GR_remove : MethodName := ⟨"PathFinder$Graph", "remove", "(III)I"⟩
abbrev c_PF_edges : ByteArray := prog_1_method_4_code
def y_PF_edges : MethodName := ⟨"PathFinder", "edges", "()I"⟩
abbrev c_PF_word : ByteArray := prog_1_method_5_code
def y_PF_word : MethodName := ⟨"PathFinder", "word", "(I)I"⟩
abbrev c_PA_append : ByteArray := prog_4_method_2_code
def y_PA_append : MethodName := ⟨"PathFinder$Path", "append", "(I)I"⟩
abbrev c_PA_readWords : ByteArray := prog_4_method_5_code
def y_PA_readWords : MethodName := ⟨"PathFinder$Path", "readWords", "()V"⟩
abbrev c_PA_readPart : ByteArray := prog_4_method_6_code
def y_PA_readPart : MethodName := ⟨"PathFinder$Path", "readPart", "(II)I"⟩
abbrev c_PA_isWithin : ByteArray := prog_4_method_8_code
def y_PA_isWithin : MethodName := ⟨"PathFinder$Path", "isWithin", "(III)Z"⟩
abbrev c_PA_faultAt : ByteArray := prog_4_method_9_code
def y_PA_faultAt : MethodName := ⟨"PathFinder$Path", "faultAt", "(I)I"⟩
abbrev c_PA_readLabels : ByteArray := prog_4_method_7_code
def y_PA_readLabels : MethodName := ⟨"PathFinder$Path", "readLabels", "(II)I"⟩
abbrev c_PF_clear : ByteArray := prog_1_method_6_code
def y_PF_clear : MethodName := ⟨"PathFinder", "clear", "()I"⟩
abbrev c_PA_empty : ByteArray := prog_4_method_3_code
def y_PA_empty : MethodName := ⟨"PathFinder$Path", "empty", "()I"⟩
abbrev c_PF_look : ByteArray := prog_1_method_7_code
def y_PF_look : MethodName := ⟨"PathFinder", "look", "()I"⟩
abbrev c_PF_times : ByteArray := prog_1_method_8_code
def y_PF_times : MethodName := ⟨"PathFinder", "times", "(II)J"⟩
abbrev c_PA_isJust : ByteArray := prog_4_method_4_code
def y_PA_isJust : MethodName := ⟨"PathFinder$Path", "isJust", "()Z"⟩
abbrev c_CN_from : ByteArray := prog_2_method_2_code
def y_CN_from : MethodName := ⟨"PathFinder$Counts", "from", "(I)[J"⟩
abbrev c_RE_ofPath : ByteArray := prog_5_method_2_code
def y_RE_ofPath : MethodName := ⟨"PathFinder$Relations", "ofPath", "()[J"⟩
abbrev c_RE_fill : ByteArray := prog_5_method_3_code
def y_RE_fill : MethodName := ⟨"PathFinder$Relations", "fill", "(I)V"⟩
abbrev c_AR_fill : ByteArray := prog_10_method_101_code
def y_AR_fill : MethodName := ⟨"java/util/Arrays", "fill", "([JJ)V"⟩
abbrev c_RE_addEdges : ByteArray := prog_5_method_5_code
def y_RE_addEdges : MethodName := ⟨"PathFinder$Relations", "addEdges", "([JI)V"⟩
abbrev c_RE_add : ByteArray := prog_5_method_6_code
def y_RE_add : MethodName := ⟨"PathFinder$Relations", "add", "([J[J)V"⟩
abbrev c_RE_fillFrom : ByteArray := prog_5_method_4_code
def y_RE_fillFrom : MethodName := ⟨"PathFinder$Relations", "fillFrom", "([JI[J[J)V"⟩
abbrev c_RE_addTurned : ByteArray := prog_5_method_8_code
def y_RE_addTurned : MethodName := ⟨"PathFinder$Relations", "addTurned", "([J[J)V"⟩
abbrev c_LO_ntz : ByteArray := prog_9_method_49_code
def y_LO_ntz : MethodName := ⟨"java/lang/Long", "numberOfTrailingZeros", "(J)I"⟩
abbrev c_IN_ntz : ByteArray := prog_8_method_48_code
def y_IN_ntz : MethodName := ⟨"java/lang/Integer", "numberOfTrailingZeros", "(I)I"⟩
abbrev c_RE_addJoined : ByteArray := prog_5_method_9_code
def y_RE_addJoined : MethodName := ⟨"PathFinder$Relations", "addJoined", "([J[J[J)V"⟩
abbrev c_RE_addStaying : ByteArray := prog_5_method_7_code
def y_RE_addStaying : MethodName := ⟨"PathFinder$Relations", "addStaying", "([J)V"⟩
abbrev c_RE_close : ByteArray := prog_5_method_10_code
def y_RE_close : MethodName := ⟨"PathFinder$Relations", "close", "([J)V"⟩
abbrev c_CN_carry : ByteArray := prog_2_method_3_code
def y_CN_carry : MethodName := ⟨"PathFinder$Counts", "carry", "(IZI[J[J)V"⟩
abbrev c_CN_carryOverEdges : ByteArray := prog_2_method_5_code
def y_CN_carryOverEdges : MethodName := ⟨"PathFinder$Counts", "carryOverEdges", "(IZ[J[J)V"⟩
abbrev c_CN_carryOver : ByteArray := prog_2_method_6_code
def y_CN_carryOver : MethodName := ⟨"PathFinder$Counts", "carryOver", "([JZ[J[J)V"⟩
abbrev c_CN_gather : ByteArray := prog_2_method_7_code
def y_CN_gather : MethodName := ⟨"PathFinder$Counts", "gather", "(J[J)J"⟩
abbrev c_PF_sumOf : ByteArray := prog_1_method_19_code
def y_PF_sumOf : MethodName := ⟨"PathFinder", "sumOf", "(JJ)J"⟩
abbrev c_CN_spread : ByteArray := prog_2_method_8_code
def y_CN_spread : MethodName := ⟨"PathFinder$Counts", "spread", "(JJ[J)V"⟩
abbrev c_CN_carryOverBoth : ByteArray := prog_2_method_4_code
def y_CN_carryOverBoth : MethodName := ⟨"PathFinder$Counts", "carryOverBoth", "(IZI[J[J)V"⟩
abbrev c_PF_ends : ByteArray := prog_1_method_9_code
def y_PF_ends : MethodName := ⟨"PathFinder", "ends", "(I)I"⟩
abbrev c_LO_bc : ByteArray := prog_9_method_50_code
def y_LO_bc : MethodName := ⟨"java/lang/Long", "bitCount", "(J)I"⟩
abbrev c_PF_reached : ByteArray := prog_1_method_10_code
def y_PF_reached : MethodName := ⟨"PathFinder", "reached", "(I)J"⟩
abbrev c_PF_all : ByteArray := prog_1_method_11_code
def y_PF_all : MethodName := ⟨"PathFinder", "all", "(I)J"⟩
abbrev c_PF_reaching : ByteArray := prog_1_method_12_code
def y_PF_reaching : MethodName := ⟨"PathFinder", "reaching", "(I)J"⟩
abbrev c_PF_pairs : ByteArray := prog_1_method_13_code
def y_PF_pairs : MethodName := ⟨"PathFinder", "pairs", "()I"⟩
abbrev c_MO_init : ByteArray := prog_7_method_1_code
def y_MO_init : MethodName := ⟨"PathFinderModel", "<init>", "()V"⟩
abbrev c_MO_edge : ByteArray := prog_7_method_5_code
def y_MO_edge : MethodName := ⟨"PathFinderModel", "edge", "(III)I"⟩
abbrev c_MO_isEdge : ByteArray := prog_7_method_3_code
def y_MO_isEdge : MethodName := ⟨"PathFinderModel", "isEdge", "(III)Z"⟩
abbrev c_MO_isPoint : ByteArray := prog_7_method_2_code
def y_MO_isPoint : MethodName := ⟨"PathFinderModel", "isPoint", "(I)Z"⟩
abbrev c_MO_place : ByteArray := prog_7_method_4_code
def y_MO_place : MethodName := ⟨"PathFinderModel", "place", "(III)I"⟩
abbrev c_MO_drop : ByteArray := prog_7_method_6_code
def y_MO_drop : MethodName := ⟨"PathFinderModel", "drop", "(III)I"⟩
abbrev c_MO_edges : ByteArray := prog_7_method_7_code
def y_MO_edges : MethodName := ⟨"PathFinderModel", "edges", "()I"⟩
abbrev c_MO_word : ByteArray := prog_7_method_8_code
def y_MO_word : MethodName := ⟨"PathFinderModel", "word", "(I)I"⟩
abbrev c_MO_clear : ByteArray := prog_7_method_9_code
def y_MO_clear : MethodName := ⟨"PathFinderModel", "clear", "()I"⟩
abbrev c_MO_look : ByteArray := prog_7_method_11_code
def y_MO_look : MethodName := ⟨"PathFinderModel", "look", "()I"⟩
abbrev c_MO_children : ByteArray := prog_7_method_10_code
def y_MO_children : MethodName := ⟨"PathFinderModel", "children", "(I)I"⟩
abbrev c_MO_times : ByteArray := prog_7_method_21_code
def y_MO_times : MethodName := ⟨"PathFinderModel", "times", "(II)J"⟩
abbrev c_MO_reckon : ByteArray := prog_7_method_19_code
def y_MO_reckon : MethodName := ⟨"PathFinderModel", "reckon", "()Z"⟩
abbrev c_MO_edgesOf : ByteArray := prog_7_method_14_code
def y_MO_edgesOf : MethodName := ⟨"PathFinderModel", "edgesOf", "(II)V"⟩
abbrev c_MO_turn : ByteArray := prog_7_method_15_code
def y_MO_turn : MethodName := ⟨"PathFinderModel", "turn", "(I)V"⟩
abbrev c_MO_chain : ByteArray := prog_7_method_16_code
def y_MO_chain : MethodName := ⟨"PathFinderModel", "chain", "(II)V"⟩
abbrev c_MO_product : ByteArray := prog_7_method_13_code
def y_MO_product : MethodName := ⟨"PathFinderModel", "product", "(JJ)J"⟩
abbrev c_MO_least : ByteArray := prog_7_method_12_code
def y_MO_least : MethodName := ⟨"PathFinderModel", "least", "(J)J"⟩
abbrev c_MO_fall : ByteArray := prog_7_method_20_code
def y_MO_fall : MethodName := ⟨"PathFinderModel", "fall", "(I)V"⟩
abbrev c_MO_mark : ByteArray := prog_7_method_17_code
def y_MO_mark : MethodName := ⟨"PathFinderModel", "mark", "(IZ)V"⟩
abbrev c_MO_close : ByteArray := prog_7_method_18_code
def y_MO_close : MethodName := ⟨"PathFinderModel", "close", "(IZ)V"⟩
abbrev c_MO_ends : ByteArray := prog_7_method_22_code
def y_MO_ends : MethodName := ⟨"PathFinderModel", "ends", "(I)I"⟩
abbrev c_MO_reached : ByteArray := prog_7_method_23_code
def y_MO_reached : MethodName := ⟨"PathFinderModel", "reached", "(I)J"⟩
abbrev c_MO_all : ByteArray := prog_7_method_24_code
def y_MO_all : MethodName := ⟨"PathFinderModel", "all", "(I)J"⟩
abbrev c_MO_reaching : ByteArray := prog_7_method_25_code
def y_MO_reaching : MethodName := ⟨"PathFinderModel", "reaching", "(I)J"⟩
abbrev c_MO_pairs : ByteArray := prog_7_method_26_code
def y_MO_pairs : MethodName := ⟨"PathFinderModel", "pairs", "()I"⟩
abbrev c_LA_law : ByteArray := code
