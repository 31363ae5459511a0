section
-- ===== PART A: goes FIRST, ahead of the names: the tables' words, and 'selects' of the private methods out of them =====
/-- a private method of a class that the tables say can be made, by its rows of tables_1 -/
def lw_okq (q : MethodName × Nat) : Prop := (q.1.cls ≠ "java/lang/invoke/MethodHandle" ∧ q.1.cls ≠ "java/lang/invoke/VarHandle") ∧ Cond.instantiable q.1.cls q.2 ∈ tables_1 ∧ Cond.privateMethod q.1 ∈ tables_1 ∧ Cond.instanceMethod q.1 ∈ tables_1
theorem lw_p0 : lw_okq (⟨"PathFinder$Graph", "put", "(III)I"⟩, 2) := ⟨⟨by decide +kernel, by decide +kernel⟩, List.mem_of_getElem? (i := 19) (by decide +kernel), List.mem_of_getElem? (i := 145) (by decide +kernel), List.mem_of_getElem? (i := 146) (by decide +kernel)⟩
theorem lw_p1 : lw_okq (⟨"PathFinder", "forget", "()V"⟩, 4) := ⟨⟨by decide +kernel, by decide +kernel⟩, List.mem_of_getElem? (i := 11) (by decide +kernel), List.mem_of_getElem? (i := 164) (by decide +kernel), List.mem_of_getElem? (i := 165) (by decide +kernel)⟩
theorem lw_p2 : lw_okq (⟨"PathFinder$Graph", "remove", "(III)I"⟩, 2) := ⟨⟨by decide +kernel, by decide +kernel⟩, List.mem_of_getElem? (i := 19) (by decide +kernel), List.mem_of_getElem? (i := 172) (by decide +kernel), List.mem_of_getElem? (i := 173) (by decide +kernel)⟩
theorem lw_p3 : lw_okq (⟨"PathFinder$Path", "append", "(I)I"⟩, 7) := ⟨⟨by decide +kernel, by decide +kernel⟩, List.mem_of_getElem? (i := 38) (by decide +kernel), List.mem_of_getElem? (i := 185) (by decide +kernel), List.mem_of_getElem? (i := 186) (by decide +kernel)⟩
theorem lw_p4 : lw_okq (⟨"PathFinder$Path", "readWords", "()V"⟩, 7) := ⟨⟨by decide +kernel, by decide +kernel⟩, List.mem_of_getElem? (i := 38) (by decide +kernel), List.mem_of_getElem? (i := 189) (by decide +kernel), List.mem_of_getElem? (i := 190) (by decide +kernel)⟩
theorem lw_p5 : lw_okq (⟨"PathFinder$Path", "readPart", "(II)I"⟩, 7) := ⟨⟨by decide +kernel, by decide +kernel⟩, List.mem_of_getElem? (i := 38) (by decide +kernel), List.mem_of_getElem? (i := 193) (by decide +kernel), List.mem_of_getElem? (i := 194) (by decide +kernel)⟩
theorem lw_p6 : lw_okq (⟨"PathFinder$Path", "isWithin", "(III)Z"⟩, 7) := ⟨⟨by decide +kernel, by decide +kernel⟩, List.mem_of_getElem? (i := 38) (by decide +kernel), List.mem_of_getElem? (i := 197) (by decide +kernel), List.mem_of_getElem? (i := 198) (by decide +kernel)⟩
theorem lw_p7 : lw_okq (⟨"PathFinder$Path", "readLabels", "(II)I"⟩, 7) := ⟨⟨by decide +kernel, by decide +kernel⟩, List.mem_of_getElem? (i := 38) (by decide +kernel), List.mem_of_getElem? (i := 204) (by decide +kernel), List.mem_of_getElem? (i := 205) (by decide +kernel)⟩
theorem lw_p8 : lw_okq (⟨"PathFinder$Path", "empty", "()I"⟩, 7) := ⟨⟨by decide +kernel, by decide +kernel⟩, List.mem_of_getElem? (i := 38) (by decide +kernel), List.mem_of_getElem? (i := 212) (by decide +kernel), List.mem_of_getElem? (i := 213) (by decide +kernel)⟩
theorem lw_p9 : lw_okq (⟨"PathFinder$Path", "isJust", "()Z"⟩, 7) := ⟨⟨by decide +kernel, by decide +kernel⟩, List.mem_of_getElem? (i := 38) (by decide +kernel), List.mem_of_getElem? (i := 226) (by decide +kernel), List.mem_of_getElem? (i := 227) (by decide +kernel)⟩
theorem lw_p10 : lw_okq (⟨"PathFinder$Counts", "from", "(I)[J"⟩, 7) := ⟨⟨by decide +kernel, by decide +kernel⟩, List.mem_of_getElem? (i := 98) (by decide +kernel), List.mem_of_getElem? (i := 231) (by decide +kernel), List.mem_of_getElem? (i := 232) (by decide +kernel)⟩
theorem lw_p11 : lw_okq (⟨"PathFinder$Relations", "ofPath", "()[J"⟩, 4) := ⟨⟨by decide +kernel, by decide +kernel⟩, List.mem_of_getElem? (i := 76) (by decide +kernel), List.mem_of_getElem? (i := 236) (by decide +kernel), List.mem_of_getElem? (i := 237) (by decide +kernel)⟩
theorem lw_p12 : lw_okq (⟨"PathFinder$Relations", "fill", "(I)V"⟩, 4) := ⟨⟨by decide +kernel, by decide +kernel⟩, List.mem_of_getElem? (i := 76) (by decide +kernel), List.mem_of_getElem? (i := 240) (by decide +kernel), List.mem_of_getElem? (i := 241) (by decide +kernel)⟩
theorem lw_p13 : lw_okq (⟨"PathFinder$Relations", "addEdges", "([JI)V"⟩, 4) := ⟨⟨by decide +kernel, by decide +kernel⟩, List.mem_of_getElem? (i := 76) (by decide +kernel), List.mem_of_getElem? (i := 247) (by decide +kernel), List.mem_of_getElem? (i := 248) (by decide +kernel)⟩
theorem lw_p14 : lw_okq (⟨"PathFinder$Counts", "carry", "(IZI[J[J)V"⟩, 7) := ⟨⟨by decide +kernel, by decide +kernel⟩, List.mem_of_getElem? (i := 98) (by decide +kernel), List.mem_of_getElem? (i := 279) (by decide +kernel), List.mem_of_getElem? (i := 280) (by decide +kernel)⟩
theorem lw_p15 : lw_okq (⟨"PathFinder$Counts", "carryOverEdges", "(IZ[J[J)V"⟩, 7) := ⟨⟨by decide +kernel, by decide +kernel⟩, List.mem_of_getElem? (i := 98) (by decide +kernel), List.mem_of_getElem? (i := 283) (by decide +kernel), List.mem_of_getElem? (i := 284) (by decide +kernel)⟩
def lw_privs_1 : List (MethodName × Nat) := [(⟨"PathFinder$Graph", "put", "(III)I"⟩, 2), (⟨"PathFinder", "forget", "()V"⟩, 4), (⟨"PathFinder$Graph", "remove", "(III)I"⟩, 2), (⟨"PathFinder$Path", "append", "(I)I"⟩, 7), (⟨"PathFinder$Path", "readWords", "()V"⟩, 7), (⟨"PathFinder$Path", "readPart", "(II)I"⟩, 7), (⟨"PathFinder$Path", "isWithin", "(III)Z"⟩, 7), (⟨"PathFinder$Path", "readLabels", "(II)I"⟩, 7), (⟨"PathFinder$Path", "empty", "()I"⟩, 7), (⟨"PathFinder$Path", "isJust", "()Z"⟩, 7), (⟨"PathFinder$Counts", "from", "(I)[J"⟩, 7), (⟨"PathFinder$Relations", "ofPath", "()[J"⟩, 4), (⟨"PathFinder$Relations", "fill", "(I)V"⟩, 4), (⟨"PathFinder$Relations", "addEdges", "([JI)V"⟩, 4), (⟨"PathFinder$Counts", "carry", "(IZI[J[J)V"⟩, 7), (⟨"PathFinder$Counts", "carryOverEdges", "(IZ[J[J)V"⟩, 7)]
theorem lw_r1 : ∀ q ∈ lw_privs_1, lw_okq q := List.forall_mem_cons.mpr ⟨lw_p0, List.forall_mem_cons.mpr ⟨lw_p1, List.forall_mem_cons.mpr ⟨lw_p2, List.forall_mem_cons.mpr ⟨lw_p3, List.forall_mem_cons.mpr ⟨lw_p4, List.forall_mem_cons.mpr ⟨lw_p5, List.forall_mem_cons.mpr ⟨lw_p6, List.forall_mem_cons.mpr ⟨lw_p7, List.forall_mem_cons.mpr ⟨lw_p8, List.forall_mem_cons.mpr ⟨lw_p9, List.forall_mem_cons.mpr ⟨lw_p10, List.forall_mem_cons.mpr ⟨lw_p11, List.forall_mem_cons.mpr ⟨lw_p12, List.forall_mem_cons.mpr ⟨lw_p13, List.forall_mem_cons.mpr ⟨lw_p14, List.forall_mem_cons.mpr ⟨lw_p15, fun _ h => absurd h List.not_mem_nil⟩⟩⟩⟩⟩⟩⟩⟩⟩⟩⟩⟩⟩⟩⟩⟩
theorem lw_p16 : lw_okq (⟨"PathFinder$Counts", "carryOverBoth", "(IZI[J[J)V"⟩, 7) := ⟨⟨by decide +kernel, by decide +kernel⟩, List.mem_of_getElem? (i := 98) (by decide +kernel), List.mem_of_getElem? (i := 302) (by decide +kernel), List.mem_of_getElem? (i := 303) (by decide +kernel)⟩
theorem lw_p17 : lw_okq (⟨"PathFinderModel", "reckon", "()Z"⟩, 10) := ⟨⟨by decide +kernel, by decide +kernel⟩, List.mem_of_getElem? (i := 336) (by decide +kernel), List.mem_of_getElem? (i := 417) (by decide +kernel), List.mem_of_getElem? (i := 418) (by decide +kernel)⟩
theorem lw_p18 : lw_okq (⟨"PathFinderModel", "edgesOf", "(II)V"⟩, 10) := ⟨⟨by decide +kernel, by decide +kernel⟩, List.mem_of_getElem? (i := 336) (by decide +kernel), List.mem_of_getElem? (i := 422) (by decide +kernel), List.mem_of_getElem? (i := 423) (by decide +kernel)⟩
theorem lw_p19 : lw_okq (⟨"PathFinderModel", "turn", "(I)V"⟩, 10) := ⟨⟨by decide +kernel, by decide +kernel⟩, List.mem_of_getElem? (i := 336) (by decide +kernel), List.mem_of_getElem? (i := 426) (by decide +kernel), List.mem_of_getElem? (i := 427) (by decide +kernel)⟩
theorem lw_p20 : lw_okq (⟨"PathFinderModel", "chain", "(II)V"⟩, 10) := ⟨⟨by decide +kernel, by decide +kernel⟩, List.mem_of_getElem? (i := 336) (by decide +kernel), List.mem_of_getElem? (i := 430) (by decide +kernel), List.mem_of_getElem? (i := 431) (by decide +kernel)⟩
theorem lw_p21 : lw_okq (⟨"PathFinderModel", "fall", "(I)V"⟩, 10) := ⟨⟨by decide +kernel, by decide +kernel⟩, List.mem_of_getElem? (i := 336) (by decide +kernel), List.mem_of_getElem? (i := 441) (by decide +kernel), List.mem_of_getElem? (i := 442) (by decide +kernel)⟩
theorem lw_p22 : lw_okq (⟨"PathFinderModel", "mark", "(IZ)V"⟩, 10) := ⟨⟨by decide +kernel, by decide +kernel⟩, List.mem_of_getElem? (i := 336) (by decide +kernel), List.mem_of_getElem? (i := 445) (by decide +kernel), List.mem_of_getElem? (i := 446) (by decide +kernel)⟩
theorem lw_p23 : lw_okq (⟨"PathFinderModel", "close", "(IZ)V"⟩, 10) := ⟨⟨by decide +kernel, by decide +kernel⟩, List.mem_of_getElem? (i := 336) (by decide +kernel), List.mem_of_getElem? (i := 449) (by decide +kernel), List.mem_of_getElem? (i := 450) (by decide +kernel)⟩
def lw_privs_2 : List (MethodName × Nat) := [(⟨"PathFinder$Counts", "carryOverBoth", "(IZI[J[J)V"⟩, 7), (⟨"PathFinderModel", "reckon", "()Z"⟩, 10), (⟨"PathFinderModel", "edgesOf", "(II)V"⟩, 10), (⟨"PathFinderModel", "turn", "(I)V"⟩, 10), (⟨"PathFinderModel", "chain", "(II)V"⟩, 10), (⟨"PathFinderModel", "fall", "(I)V"⟩, 10), (⟨"PathFinderModel", "mark", "(IZ)V"⟩, 10), (⟨"PathFinderModel", "close", "(IZ)V"⟩, 10)]
theorem lw_r2 : ∀ q ∈ lw_privs_2, lw_okq q := List.forall_mem_cons.mpr ⟨lw_p16, List.forall_mem_cons.mpr ⟨lw_p17, List.forall_mem_cons.mpr ⟨lw_p18, List.forall_mem_cons.mpr ⟨lw_p19, List.forall_mem_cons.mpr ⟨lw_p20, List.forall_mem_cons.mpr ⟨lw_p21, List.forall_mem_cons.mpr ⟨lw_p22, List.forall_mem_cons.mpr ⟨lw_p23, fun _ h => absurd h List.not_mem_nil⟩⟩⟩⟩⟩⟩⟩⟩
def lw_privs : List (MethodName × Nat) := lw_privs_1 ++ (lw_privs_2)
def lw_tbl : List Cond := k2_sels lw_privs ++ tables_1
theorem lw_privs_ok : ∀ q ∈ lw_privs, lw_okq q := by
  show ∀ q ∈ lw_privs_1 ++ (lw_privs_2), lw_okq q
  exact List.forall_mem_append.mpr ⟨lw_r1, lw_r2⟩

/-! NAMES, by program out of the Statement -/
def pw_all : List Cond := lw_tbl.filter goodWord
theorem pw_good : GoodIn lw_tbl pw_all := fun w h => ⟨(List.mem_filter.mp h).1, good_of_word (List.mem_filter.mp h).2⟩
theorem pw_in {w : Cond} (h : w ∈ lw_tbl) (g : goodWord w = true) : w ∈ pw_all := List.mem_filter.mpr ⟨h, g⟩
def R_CN : String := "PathFinder$Counts"
def T_CN : u_T := fun k => match k with
  | 0 => ("PathFinder$Counts", "graph", "LPathFinder$Graph;", true)
  | 1 => ("PathFinder$Counts", "path", "LPathFinder$Path;", true)
  | 2 => ("PathFinder$Counts", "relations", "LPathFinder$Relations;", true)
  | 3 => ("PathFinder$Counts", "before", "[J", true)
  | 4 => ("PathFinder$Counts", "after", "[J", true)
  | 5 => ("PathFinder$Counts", "between", "[[J", true)
  | _ => ("PathFinder$Counts", "start", "I", false)
def t_CN : Nat → FieldType := fun k => match k with
  | 0 => (.object "PathFinder$Graph")
  | 1 => (.object "PathFinder$Path")
  | 2 => (.object "PathFinder$Relations")
  | 3 => (.array .long)
  | 4 => (.array .long)
  | 5 => (.array (.array .long))
  | _ => .int
theorem n_CN : ∀ a, a < 7 → ∀ b, b < 7 → a ≠ b → (T_CN a).2.1 ≠ (T_CN b).2.1 := by decide +kernel
theorem tk_CN : ∀ k, k < 7 → parseFieldDescriptor (T_CN k).2.2.1 = some (t_CN k) := by decide +kernel
def R_GR : String := "PathFinder$Graph"
def T_GR : u_T := fun k => match k with
  | 0 => ("PathFinder$Graph", "targets", "[[J", true)
  | _ => ("PathFinder$Graph", "size", "I", false)
def t_GR : Nat → FieldType := fun k => match k with
  | 0 => (.array (.array .long))
  | _ => .int
theorem n_GR : ∀ a, a < 2 → ∀ b, b < 2 → a ≠ b → (T_GR a).2.1 ≠ (T_GR b).2.1 := by decide +kernel
theorem tk_GR : ∀ k, k < 2 → parseFieldDescriptor (T_GR k).2.2.1 = some (t_GR k) := by decide +kernel
def R_PA : String := "PathFinder$Path"
def T_PA : u_T := fun k => match k with
  | 0 => ("PathFinder$Path", "words", "[I", true)
  | 1 => ("PathFinder$Path", "kinds", "[I", true)
  | 2 => ("PathFinder$Path", "labelSets", "[I", true)
  | 3 => ("PathFinder$Path", "seconds", "[I", true)
  | 4 => ("PathFinder$Path", "size", "I", false)
  | 5 => ("PathFinder$Path", "parts", "I", false)
  | _ => ("PathFinder$Path", "fault", "I", false)
def t_PA : Nat → FieldType := fun k => match k with
  | 0 => (.array .int)
  | 1 => (.array .int)
  | 2 => (.array .int)
  | 3 => (.array .int)
  | 4 => .int
  | 5 => .int
  | _ => .int
theorem n_PA : ∀ a, a < 7 → ∀ b, b < 7 → a ≠ b → (T_PA a).2.1 ≠ (T_PA b).2.1 := by decide +kernel
theorem tk_PA : ∀ k, k < 7 → parseFieldDescriptor (T_PA k).2.2.1 = some (t_PA k) := by decide +kernel
def R_RE : String := "PathFinder$Relations"
def T_RE : u_T := fun k => match k with
  | 0 => ("PathFinder$Relations", "graph", "LPathFinder$Graph;", true)
  | 1 => ("PathFinder$Relations", "path", "LPathFinder$Path;", true)
  | 2 => ("PathFinder$Relations", "partRows", "[[J", true)
  | _ => ("PathFinder$Relations", "ready", "Z", false)
def t_RE : Nat → FieldType := fun k => match k with
  | 0 => (.object "PathFinder$Graph")
  | 1 => (.object "PathFinder$Path")
  | 2 => (.array (.array .long))
  | _ => .boolean
theorem n_RE : ∀ a, a < 4 → ∀ b, b < 4 → a ≠ b → (T_RE a).2.1 ≠ (T_RE b).2.1 := by decide +kernel
theorem tk_RE : ∀ k, k < 4 → parseFieldDescriptor (T_RE k).2.2.1 = some (t_RE k) := by decide +kernel
def R_PF : String := "PathFinder"
def T_PF : u_T := fun k => match k with
  | 0 => ("PathFinder", "graph", "LPathFinder$Graph;", true)
  | 1 => ("PathFinder", "path", "LPathFinder$Path;", true)
  | 2 => ("PathFinder", "relations", "LPathFinder$Relations;", true)
  | _ => ("PathFinder", "counts", "LPathFinder$Counts;", true)
def t_PF : Nat → FieldType := fun k => match k with
  | 0 => (.object "PathFinder$Graph")
  | 1 => (.object "PathFinder$Path")
  | 2 => (.object "PathFinder$Relations")
  | _ => (.object "PathFinder$Counts")
theorem n_PF : ∀ a, a < 4 → ∀ b, b < 4 → a ≠ b → (T_PF a).2.1 ≠ (T_PF b).2.1 := by decide +kernel
theorem tk_PF : ∀ k, k < 4 → parseFieldDescriptor (T_PF k).2.2.1 = some (t_PF k) := by decide +kernel
def R_MO : String := "PathFinderModel"
def T_MO : u_T := fun k => match k with
  | 0 => ("PathFinderModel", "there", "[Z", true)
  | 1 => ("PathFinderModel", "count", "I", false)
  | 2 => ("PathFinderModel", "words", "[I", true)
  | 3 => ("PathFinderModel", "size", "I", false)
  | 4 => ("PathFinderModel", "starts", "[I", true)
  | 5 => ("PathFinderModel", "parts", "I", false)
  | 6 => ("PathFinderModel", "lacks", "[I", true)
  | 7 => ("PathFinderModel", "tables", "[J", true)
  | 8 => ("PathFinderModel", "reckoned", "Z", false)
  | _ => ("PathFinderModel", "spare", "[J", true)
def t_MO : Nat → FieldType := fun k => match k with
  | 0 => (.array .boolean)
  | 1 => .int
  | 2 => (.array .int)
  | 3 => .int
  | 4 => (.array .int)
  | 5 => .int
  | 6 => (.array .int)
  | 7 => (.array .long)
  | 8 => .boolean
  | _ => (.array .long)
theorem n_MO : ∀ a, a < 10 → ∀ b, b < 10 → a ≠ b → (T_MO a).2.1 ≠ (T_MO b).2.1 := by decide +kernel
theorem tk_MO : ∀ k, k < 10 → parseFieldDescriptor (T_MO k).2.2.1 = some (t_MO k) := by decide +kernel
abbrev vwCl : List vw_C := [(R_CN, T_CN, 7), (R_GR, T_GR, 2), (R_PA, T_PA, 7), (R_RE, T_RE, 4), (R_PF, T_PF, 4), (R_MO, T_MO, 10)]
abbrev c_PF_init : ByteArray := prog_1_method_1_code
def y_PF_init : MethodName := ⟨"PathFinder", "<init>", "()V"⟩
abbrev c_GR_init : ByteArray := prog_3_method_1_code
def y_GR_init : MethodName := ⟨"PathFinder$Graph", "<init>", "()V"⟩
abbrev c_PA_init : ByteArray := prog_4_method_1_code
def y_PA_init : MethodName := ⟨"PathFinder$Path", "<init>", "()V"⟩
abbrev c_RE_init : ByteArray := prog_5_method_1_code
def y_RE_init : MethodName := ⟨"PathFinder$Relations", "<init>", "(LPathFinder$Graph;LPathFinder$Path;)V"⟩
abbrev c_CN_init : ByteArray := prog_2_method_1_code
def y_CN_init : MethodName := ⟨"PathFinder$Counts", "<init>", "(LPathFinder$Graph;LPathFinder$Path;LPathFinder$Relations;)V"⟩
abbrev c_PF_edge : ByteArray := prog_1_method_2_code
def y_PF_edge : MethodName := ⟨"PathFinder", "edge", "(III)I"⟩
abbrev c_GR_put : ByteArray := prog_3_method_2_code
def y_GR_put : MethodName := ⟨"PathFinder$Graph", "put", "(III)I"⟩
abbrev c_GR_isEdge : ByteArray := prog_3_method_4_code
def y_GR_isEdge : MethodName := ⟨"PathFinder$Graph", "isEdge", "(III)Z"⟩
abbrev c_PF_isPoint : ByteArray := prog_1_method_15_code
def y_PF_isPoint : MethodName := ⟨"PathFinder", "isPoint", "(I)Z"⟩
abbrev c_PF_isLabel : ByteArray := prog_1_method_16_code
def y_PF_isLabel : MethodName := ⟨"PathFinder", "isLabel", "(I)Z"⟩
abbrev c_PF_holds : ByteArray := prog_1_method_18_code
def y_PF_holds : MethodName := ⟨"PathFinder", "holds", "(JI)Z"⟩
abbrev c_PF_bit : ByteArray := prog_1_method_17_code
def y_PF_bit : MethodName := ⟨"PathFinder", "bit", "(I)J"⟩
abbrev c_PF_forget : ByteArray := prog_1_method_14_code
def y_PF_forget : MethodName := ⟨"PathFinder", "forget", "()V"⟩
abbrev c_PF_drop : ByteArray := prog_1_method_3_code
def y_PF_drop : MethodName := ⟨"PathFinder", "drop", "(III)I"⟩
abbrev c_GR_remove : ByteArray := prog_3_method_3_code
def y_GR_remove : MethodName := ⟨"PathFinder$Graph", "remove", "(III)I"⟩
abbrev c_PF_edges : ByteArray := prog_1_method_4_code
def y_PF_edges : MethodName := ⟨"PathFinder", "edges", "()I"⟩
abbrev c_PF_word : ByteArray := prog_1_method_5_code
def y_PF_word : MethodName := ⟨"PathFinder", "word", "(I)I"⟩
abbrev c_PA_append : ByteArray := prog_4_method_2_code
def y_PA_append : MethodName := ⟨"PathFinder$Path", "append", "(I)I"⟩
abbrev c_PA_readWords : ByteArray := prog_4_method_5_code
def y_PA_readWords : MethodName := ⟨"PathFinder$Path", "readWords", "()V"⟩
abbrev c_PA_readPart : ByteArray := prog_4_method_6_code
def y_PA_readPart : MethodName := ⟨"PathFinder$Path", "readPart", "(II)I"⟩
abbrev c_PA_isWithin : ByteArray := prog_4_method_8_code
def y_PA_isWithin : MethodName := ⟨"PathFinder$Path", "isWithin", "(III)Z"⟩
abbrev c_PA_faultAt : ByteArray := prog_4_method_9_code
def y_PA_faultAt : MethodName := ⟨"PathFinder$Path", "faultAt", "(I)I"⟩
abbrev c_PA_readLabels : ByteArray := prog_4_method_7_code
def y_PA_readLabels : MethodName := ⟨"PathFinder$Path", "readLabels", "(II)I"⟩
abbrev c_PF_clear : ByteArray := prog_1_method_6_code
def y_PF_clear : MethodName := ⟨"PathFinder", "clear", "()I"⟩
abbrev c_PA_empty : ByteArray := prog_4_method_3_code
def y_PA_empty : MethodName := ⟨"PathFinder$Path", "empty", "()I"⟩
abbrev c_PF_look : ByteArray := prog_1_method_7_code
def y_PF_look : MethodName := ⟨"PathFinder", "look", "()I"⟩
abbrev c_PF_times : ByteArray := prog_1_method_8_code
def y_PF_times : MethodName := ⟨"PathFinder", "times", "(II)J"⟩
abbrev c_PA_isJust : ByteArray := prog_4_method_4_code
def y_PA_isJust : MethodName := ⟨"PathFinder$Path", "isJust", "()Z"⟩
abbrev c_CN_from : ByteArray := prog_2_method_2_code
def y_CN_from : MethodName := ⟨"PathFinder$Counts", "from", "(I)[J"⟩
abbrev c_RE_ofPath : ByteArray := prog_5_method_2_code
def y_RE_ofPath : MethodName := ⟨"PathFinder$Relations", "ofPath", "()[J"⟩
abbrev c_RE_fill : ByteArray := prog_5_method_3_code
def y_RE_fill : MethodName := ⟨"PathFinder$Relations", "fill", "(I)V"⟩
abbrev c_AR_fill : ByteArray := prog_10_method_101_code
def y_AR_fill : MethodName := ⟨"java/util/Arrays", "fill", "([JJ)V"⟩
abbrev c_RE_addEdges : ByteArray := prog_5_method_5_code
def y_RE_addEdges : MethodName := ⟨"PathFinder$Relations", "addEdges", "([JI)V"⟩
abbrev c_RE_add : ByteArray := prog_5_method_6_code
def y_RE_add : MethodName := ⟨"PathFinder$Relations", "add", "([J[J)V"⟩
abbrev c_RE_fillFrom : ByteArray := prog_5_method_4_code
def y_RE_fillFrom : MethodName := ⟨"PathFinder$Relations", "fillFrom", "([JI[J[J)V"⟩
abbrev c_RE_addTurned : ByteArray := prog_5_method_8_code
def y_RE_addTurned : MethodName := ⟨"PathFinder$Relations", "addTurned", "([J[J)V"⟩
abbrev c_LO_ntz : ByteArray := prog_9_method_49_code
def y_LO_ntz : MethodName := ⟨"java/lang/Long", "numberOfTrailingZeros", "(J)I"⟩
abbrev c_IN_ntz : ByteArray := prog_8_method_48_code
def y_IN_ntz : MethodName := ⟨"java/lang/Integer", "numberOfTrailingZeros", "(I)I"⟩
abbrev c_RE_addJoined : ByteArray := prog_5_method_9_code
def y_RE_addJoined : MethodName := ⟨"PathFinder$Relations", "addJoined", "([J[J[J)V"⟩
abbrev c_RE_addStaying : ByteArray := prog_5_method_7_code
def y_RE_addStaying : MethodName := ⟨"PathFinder$Relations", "addStaying", "([J)V"⟩
abbrev c_RE_close : ByteArray := prog_5_method_10_code
def y_RE_close : MethodName := ⟨"PathFinder$Relations", "close", "([J)V"⟩
abbrev c_CN_carry : ByteArray := prog_2_method_3_code
def y_CN_carry : MethodName := ⟨"PathFinder$Counts", "carry", "(IZI[J[J)V"⟩
abbrev c_CN_carryOverEdges : ByteArray := prog_2_method_5_code
def y_CN_carryOverEdges : MethodName := ⟨"PathFinder$Counts", "carryOverEdges", "(IZ[J[J)V"⟩
abbrev c_CN_carryOver : ByteArray := prog_2_method_6_code
def y_CN_carryOver : MethodName := ⟨"PathFinder$Counts", "carryOver", "([JZ[J[J)V"⟩
abbrev c_CN_gather : ByteArray := prog_2_method_7_code
def y_CN_gather : MethodName := ⟨"PathFinder$Counts", "gather", "(J[J)J"⟩
abbrev c_PF_sumOf : ByteArray := prog_1_method_19_code
def y_PF_sumOf : MethodName := ⟨"PathFinder", "sumOf", "(JJ)J"⟩
abbrev c_CN_spread : ByteArray := prog_2_method_8_code
def y_CN_spread : MethodName := ⟨"PathFinder$Counts", "spread", "(JJ[J)V"⟩
abbrev c_CN_carryOverBoth : ByteArray := prog_2_method_4_code
def y_CN_carryOverBoth : MethodName := ⟨"PathFinder$Counts", "carryOverBoth", "(IZI[J[J)V"⟩
abbrev c_PF_ends : ByteArray := prog_1_method_9_code
def y_PF_ends : MethodName := ⟨"PathFinder", "ends", "(I)I"⟩
abbrev c_LO_bc : ByteArray := prog_9_method_50_code
def y_LO_bc : MethodName := ⟨"java/lang/Long", "bitCount", "(J)I"⟩
abbrev c_PF_reached : ByteArray := prog_1_method_10_code
def y_PF_reached : MethodName := ⟨"PathFinder", "reached", "(I)J"⟩
abbrev c_PF_all : ByteArray := prog_1_method_11_code
def y_PF_all : MethodName := ⟨"PathFinder", "all", "(I)J"⟩
abbrev c_PF_reaching : ByteArray := prog_1_method_12_code
def y_PF_reaching : MethodName := ⟨"PathFinder", "reaching", "(I)J"⟩
abbrev c_PF_pairs : ByteArray := prog_1_method_13_code
def y_PF_pairs : MethodName := ⟨"PathFinder", "pairs", "()I"⟩
abbrev c_MO_init : ByteArray := prog_7_method_1_code
def y_MO_init : MethodName := ⟨"PathFinderModel", "<init>", "()V"⟩
abbrev c_MO_edge : ByteArray := prog_7_method_5_code
def y_MO_edge : MethodName := ⟨"PathFinderModel", "edge", "(III)I"⟩
abbrev c_MO_isEdge : ByteArray := prog_7_method_3_code
def y_MO_isEdge : MethodName := ⟨"PathFinderModel", "isEdge", "(III)Z"⟩
abbrev c_MO_isPoint : ByteArray := prog_7_method_2_code
def y_MO_isPoint : MethodName := ⟨"PathFinderModel", "isPoint", "(I)Z"⟩
abbrev c_MO_place : ByteArray := prog_7_method_4_code
def y_MO_place : MethodName := ⟨"PathFinderModel", "place", "(III)I"⟩
abbrev c_MO_drop : ByteArray := prog_7_method_6_code
def y_MO_drop : MethodName := ⟨"PathFinderModel", "drop", "(III)I"⟩
abbrev c_MO_edges : ByteArray := prog_7_method_7_code
def y_MO_edges : MethodName := ⟨"PathFinderModel", "edges", "()I"⟩
abbrev c_MO_word : ByteArray := prog_7_method_8_code
def y_MO_word : MethodName := ⟨"PathFinderModel", "word", "(I)I"⟩
abbrev c_MO_clear : ByteArray := prog_7_method_9_code
def y_MO_clear : MethodName := ⟨"PathFinderModel", "clear", "()I"⟩
abbrev c_MO_look : ByteArray := prog_7_method_11_code
def y_MO_look : MethodName := ⟨"PathFinderModel", "look", "()I"⟩
abbrev c_MO_children : ByteArray := prog_7_method_10_code
def y_MO_children : MethodName := ⟨"PathFinderModel", "children", "(I)I"⟩
abbrev c_MO_times : ByteArray := prog_7_method_21_code
def y_MO_times : MethodName := ⟨"PathFinderModel", "times", "(II)J"⟩
abbrev c_MO_reckon : ByteArray := prog_7_method_19_code
def y_MO_reckon : MethodName := ⟨"PathFinderModel", "reckon", "()Z"⟩
abbrev c_MO_edgesOf : ByteArray := prog_7_method_14_code
def y_MO_edgesOf : MethodName := ⟨"PathFinderModel", "edgesOf", "(II)V"⟩
abbrev c_MO_turn : ByteArray := prog_7_method_15_code
def y_MO_turn : MethodName := ⟨"PathFinderModel", "turn", "(I)V"⟩
abbrev c_MO_chain : ByteArray := prog_7_method_16_code
def y_MO_chain : MethodName := ⟨"PathFinderModel", "chain", "(II)V"⟩
abbrev c_MO_product : ByteArray := prog_7_method_13_code
def y_MO_product : MethodName := ⟨"PathFinderModel", "product", "(JJ)J"⟩
abbrev c_MO_least : ByteArray := prog_7_method_12_code
def y_MO_least : MethodName := ⟨"PathFinderModel", "least", "(J)J"⟩
abbrev c_MO_fall : ByteArray := prog_7_method_20_code
def y_MO_fall : MethodName := ⟨"PathFinderModel", "fall", "(I)V"⟩
abbrev c_MO_mark : ByteArray := prog_7_method_17_code
def y_MO_mark : MethodName := ⟨"PathFinderModel", "mark", "(IZ)V"⟩
abbrev c_MO_close : ByteArray := prog_7_method_18_code
def y_MO_close : MethodName := ⟨"PathFinderModel", "close", "(IZ)V"⟩
abbrev c_MO_ends : ByteArray := prog_7_method_22_code
def y_MO_ends : MethodName := ⟨"PathFinderModel", "ends", "(I)I"⟩
abbrev c_MO_reached : ByteArray := prog_7_method_23_code
def y_MO_reached : MethodName := ⟨"PathFinderModel", "reached", "(I)J"⟩
abbrev c_MO_all : ByteArray := prog_7_method_24_code
def y_MO_all : MethodName := ⟨"PathFinderModel", "all", "(I)J"⟩
abbrev c_MO_reaching : ByteArray := prog_7_method_25_code
def y_MO_reaching : MethodName := ⟨"PathFinderModel", "reaching", "(I)J"⟩
abbrev c_MO_pairs : ByteArray := prog_7_method_26_code
def y_MO_pairs : MethodName := ⟨"PathFinderModel", "pairs", "()I"⟩
abbrev c_LA_law : ByteArray := code
end
section
/-! WORDS of the tables, by their places -/
theorem W_0 : (Cond.initialized "PathFinderLaw") ∈ pw_all := pw_in (List.mem_of_getElem? (i := 24) (by decide +kernel)) (by decide +kernel)
theorem W_1 : (Cond.initialized "PathFinder") ∈ pw_all := pw_in (List.mem_of_getElem? (i := 25) (by decide +kernel)) (by decide +kernel)
theorem W_2 : (Cond.initialized "PathFinder$Graph") ∈ pw_all := pw_in (List.mem_of_getElem? (i := 26) (by decide +kernel)) (by decide +kernel)
theorem W_3 : (Cond.initialized "PathFinder$Path") ∈ pw_all := pw_in (List.mem_of_getElem? (i := 27) (by decide +kernel)) (by decide +kernel)
theorem W_4 : (Cond.initialized "PathFinder$Relations") ∈ pw_all := pw_in (List.mem_of_getElem? (i := 28) (by decide +kernel)) (by decide +kernel)
theorem W_5 : (Cond.initialized "PathFinder$Counts") ∈ pw_all := pw_in (List.mem_of_getElem? (i := 29) (by decide +kernel)) (by decide +kernel)
theorem W_6 : (Cond.initialized "PathFinderModel") ∈ pw_all := pw_in (List.mem_of_getElem? (i := 30) (by decide +kernel)) (by decide +kernel)
theorem W_7 : (Cond.initialized "java/util/Arrays") ∈ pw_all := pw_in (List.mem_of_getElem? (i := 31) (by decide +kernel)) (by decide +kernel)
theorem W_8 : (Cond.initialized "java/lang/Long") ∈ pw_all := pw_in (List.mem_of_getElem? (i := 32) (by decide +kernel)) (by decide +kernel)
theorem W_9 : (Cond.initialized "java/lang/Integer") ∈ pw_all := pw_in (List.mem_of_getElem? (i := 33) (by decide +kernel)) (by decide +kernel)
theorem W_10 : (Cond.classLink "PathFinderLaw" (7 : Nat) "PathFinder") ∈ pw_all := pw_in (List.mem_of_getElem? (i := 34) (by decide +kernel)) (by decide +kernel)
theorem W_11 : (Cond.instantiable "PathFinder" (4 : Nat)) ∈ pw_all := pw_in (List.mem_of_getElem? (i := 35) (by decide +kernel)) (by decide +kernel)
theorem W_12 : (Cond.methodLink "PathFinderLaw" (9 : Nat) ({ cls := "PathFinder", name := "<init>", desc := "()V" } : MethodName)) ∈ pw_all := pw_in (List.mem_of_getElem? (i := 36) (by decide +kernel)) (by decide +kernel)
theorem W_13 : (Cond.instanceMethod ({ cls := "PathFinder", name := "<init>", desc := "()V" } : MethodName)) ∈ pw_all := pw_in (List.mem_of_getElem? (i := 37) (by decide +kernel)) (by decide +kernel)
theorem W_14 : (Cond.code ({ cls := "PathFinder", name := "<init>", desc := "()V" } : MethodName) prog_1_method_1_code (1 : Nat) (Option.none : Option Jvm.ClassFile.FieldType)) ∈ pw_all := pw_in (List.mem_of_getElem? (i := 38) (by decide +kernel)) (by decide +kernel)
theorem W_15 : (Cond.methodLink "PathFinder" (1 : Nat) ({ cls := "java/lang/Object", name := "<init>", desc := "()V" } : MethodName)) ∈ pw_all := pw_in (List.mem_of_getElem? (i := 39) (by decide +kernel)) (by decide +kernel)
theorem W_16 : (Cond.instanceMethod ({ cls := "java/lang/Object", name := "<init>", desc := "()V" } : MethodName)) ∈ pw_all := pw_in (List.mem_of_getElem? (i := 40) (by decide +kernel)) (by decide +kernel)
theorem W_17 : (Cond.code ({ cls := "java/lang/Object", name := "<init>", desc := "()V" } : MethodName) object_method_1_code (1 : Nat) (Option.none : Option Jvm.ClassFile.FieldType)) ∈ pw_all := pw_in (List.mem_of_getElem? (i := 41) (by decide +kernel)) (by decide +kernel)
theorem W_18 : (Cond.classLink "PathFinder" (7 : Nat) "PathFinder$Graph") ∈ pw_all := pw_in (List.mem_of_getElem? (i := 42) (by decide +kernel)) (by decide +kernel)
theorem W_19 : (Cond.instantiable "PathFinder$Graph" (2 : Nat)) ∈ pw_all := pw_in (List.mem_of_getElem? (i := 43) (by decide +kernel)) (by decide +kernel)
theorem W_21 : (Cond.instanceMethod ({ cls := "PathFinder$Graph", name := "<init>", desc := "()V" } : MethodName)) ∈ pw_all := pw_in (List.mem_of_getElem? (i := 45) (by decide +kernel)) (by decide +kernel)
theorem W_22 : (Cond.code ({ cls := "PathFinder$Graph", name := "<init>", desc := "()V" } : MethodName) prog_3_method_1_code (1 : Nat) (Option.none : Option Jvm.ClassFile.FieldType)) ∈ pw_all := pw_in (List.mem_of_getElem? (i := 46) (by decide +kernel)) (by decide +kernel)
theorem W_23 : (Cond.methodLink "PathFinder$Graph" (3 : Nat) ({ cls := "java/lang/Object", name := "<init>", desc := "()V" } : MethodName)) ∈ pw_all := pw_in (List.mem_of_getElem? (i := 47) (by decide +kernel)) (by decide +kernel)
theorem W_24 : (Cond.classLink "PathFinder$Graph" (9 : Nat) "[[J") ∈ pw_all := pw_in (List.mem_of_getElem? (i := 48) (by decide +kernel)) (by decide +kernel)
theorem W_26 : (Cond.fieldLink "PathFinder$Graph" (11 : Nat) "PathFinder$Graph" "targets" "[[J") ∈ pw_all := pw_in (List.mem_of_getElem? (i := 50) (by decide +kernel)) (by decide +kernel)
theorem W_29 : (Cond.fieldLink "PathFinder$Graph" (28 : Nat) "PathFinder$Graph" "size" "I") ∈ pw_all := pw_in (List.mem_of_getElem? (i := 53) (by decide +kernel)) (by decide +kernel)
theorem W_31 : (Cond.laysFinal "PathFinder$Graph" "PathFinder$Graph" "targets" "[[J") ∈ pw_all := pw_in (List.mem_of_getElem? (i := 55) (by decide +kernel)) (by decide +kernel)
theorem W_33 : (Cond.lays "PathFinder$Graph" "PathFinder$Graph" "size" "I") ∈ pw_all := pw_in (List.mem_of_getElem? (i := 57) (by decide +kernel)) (by decide +kernel)
theorem W_36 : (Cond.arrayClass FieldType.long) ∈ pw_all := pw_in (List.mem_of_getElem? (i := 60) (by decide +kernel)) (by decide +kernel)
theorem W_37 : (Cond.classLink "PathFinder" (16 : Nat) "PathFinder$Path") ∈ pw_all := pw_in (List.mem_of_getElem? (i := 61) (by decide +kernel)) (by decide +kernel)
theorem W_38 : (Cond.instantiable "PathFinder$Path" (7 : Nat)) ∈ pw_all := pw_in (List.mem_of_getElem? (i := 62) (by decide +kernel)) (by decide +kernel)
theorem W_40 : (Cond.instanceMethod ({ cls := "PathFinder$Path", name := "<init>", desc := "()V" } : MethodName)) ∈ pw_all := pw_in (List.mem_of_getElem? (i := 64) (by decide +kernel)) (by decide +kernel)
theorem W_41 : (Cond.code ({ cls := "PathFinder$Path", name := "<init>", desc := "()V" } : MethodName) prog_4_method_1_code (1 : Nat) (Option.none : Option Jvm.ClassFile.FieldType)) ∈ pw_all := pw_in (List.mem_of_getElem? (i := 65) (by decide +kernel)) (by decide +kernel)
theorem W_42 : (Cond.methodLink "PathFinder$Path" (3 : Nat) ({ cls := "java/lang/Object", name := "<init>", desc := "()V" } : MethodName)) ∈ pw_all := pw_in (List.mem_of_getElem? (i := 66) (by decide +kernel)) (by decide +kernel)
theorem W_43 : (Cond.fieldLink "PathFinder$Path" (9 : Nat) "PathFinder$Path" "words" "[I") ∈ pw_all := pw_in (List.mem_of_getElem? (i := 67) (by decide +kernel)) (by decide +kernel)
theorem W_44 : (Cond.fieldLink "PathFinder$Path" (15 : Nat) "PathFinder$Path" "kinds" "[I") ∈ pw_all := pw_in (List.mem_of_getElem? (i := 68) (by decide +kernel)) (by decide +kernel)
theorem W_47 : (Cond.fieldLink "PathFinder$Path" (18 : Nat) "PathFinder$Path" "labelSets" "[I") ∈ pw_all := pw_in (List.mem_of_getElem? (i := 71) (by decide +kernel)) (by decide +kernel)
theorem W_50 : (Cond.fieldLink "PathFinder$Path" (21 : Nat) "PathFinder$Path" "seconds" "[I") ∈ pw_all := pw_in (List.mem_of_getElem? (i := 74) (by decide +kernel)) (by decide +kernel)
theorem W_53 : (Cond.fieldLink "PathFinder$Path" (28 : Nat) "PathFinder$Path" "size" "I") ∈ pw_all := pw_in (List.mem_of_getElem? (i := 77) (by decide +kernel)) (by decide +kernel)
theorem W_56 : (Cond.fieldLink "PathFinder$Path" (34 : Nat) "PathFinder$Path" "parts" "I") ∈ pw_all := pw_in (List.mem_of_getElem? (i := 80) (by decide +kernel)) (by decide +kernel)
theorem W_57 : (Cond.fieldLink "PathFinder$Path" (24 : Nat) "PathFinder$Path" "fault" "I") ∈ pw_all := pw_in (List.mem_of_getElem? (i := 81) (by decide +kernel)) (by decide +kernel)
theorem W_59 : (Cond.laysFinal "PathFinder$Path" "PathFinder$Path" "words" "[I") ∈ pw_all := pw_in (List.mem_of_getElem? (i := 83) (by decide +kernel)) (by decide +kernel)
theorem W_61 : (Cond.laysFinal "PathFinder$Path" "PathFinder$Path" "kinds" "[I") ∈ pw_all := pw_in (List.mem_of_getElem? (i := 85) (by decide +kernel)) (by decide +kernel)
theorem W_63 : (Cond.laysFinal "PathFinder$Path" "PathFinder$Path" "labelSets" "[I") ∈ pw_all := pw_in (List.mem_of_getElem? (i := 87) (by decide +kernel)) (by decide +kernel)
theorem W_65 : (Cond.laysFinal "PathFinder$Path" "PathFinder$Path" "seconds" "[I") ∈ pw_all := pw_in (List.mem_of_getElem? (i := 89) (by decide +kernel)) (by decide +kernel)
theorem W_67 : (Cond.lays "PathFinder$Path" "PathFinder$Path" "size" "I") ∈ pw_all := pw_in (List.mem_of_getElem? (i := 91) (by decide +kernel)) (by decide +kernel)
theorem W_69 : (Cond.lays "PathFinder$Path" "PathFinder$Path" "parts" "I") ∈ pw_all := pw_in (List.mem_of_getElem? (i := 93) (by decide +kernel)) (by decide +kernel)
theorem W_71 : (Cond.lays "PathFinder$Path" "PathFinder$Path" "fault" "I") ∈ pw_all := pw_in (List.mem_of_getElem? (i := 95) (by decide +kernel)) (by decide +kernel)
theorem W_74 : (Cond.arrayClass FieldType.int) ∈ pw_all := pw_in (List.mem_of_getElem? (i := 98) (by decide +kernel)) (by decide +kernel)
theorem W_75 : (Cond.classLink "PathFinder" (23 : Nat) "PathFinder$Relations") ∈ pw_all := pw_in (List.mem_of_getElem? (i := 99) (by decide +kernel)) (by decide +kernel)
theorem W_76 : (Cond.instantiable "PathFinder$Relations" (4 : Nat)) ∈ pw_all := pw_in (List.mem_of_getElem? (i := 100) (by decide +kernel)) (by decide +kernel)
theorem W_78 : (Cond.instanceMethod ({ cls := "PathFinder$Relations", name := "<init>", desc := "(LPathFinder$Graph;LPathFinder$Path;)V" } : MethodName)) ∈ pw_all := pw_in (List.mem_of_getElem? (i := 102) (by decide +kernel)) (by decide +kernel)
theorem W_79 : (Cond.code ({ cls := "PathFinder$Relations", name := "<init>", desc := "(LPathFinder$Graph;LPathFinder$Path;)V" } : MethodName) prog_5_method_1_code (3 : Nat) (Option.none : Option Jvm.ClassFile.FieldType)) ∈ pw_all := pw_in (List.mem_of_getElem? (i := 103) (by decide +kernel)) (by decide +kernel)
theorem W_80 : (Cond.methodLink "PathFinder$Relations" (3 : Nat) ({ cls := "java/lang/Object", name := "<init>", desc := "()V" } : MethodName)) ∈ pw_all := pw_in (List.mem_of_getElem? (i := 104) (by decide +kernel)) (by decide +kernel)
theorem W_81 : (Cond.classLink "PathFinder$Relations" (9 : Nat) "[[J") ∈ pw_all := pw_in (List.mem_of_getElem? (i := 105) (by decide +kernel)) (by decide +kernel)
theorem W_82 : (Cond.fieldLink "PathFinder$Relations" (16 : Nat) "PathFinder$Relations" "graph" "LPathFinder$Graph;") ∈ pw_all := pw_in (List.mem_of_getElem? (i := 106) (by decide +kernel)) (by decide +kernel)
theorem W_83 : (Cond.fieldLink "PathFinder$Relations" (20 : Nat) "PathFinder$Relations" "path" "LPathFinder$Path;") ∈ pw_all := pw_in (List.mem_of_getElem? (i := 107) (by decide +kernel)) (by decide +kernel)
theorem W_84 : (Cond.fieldLink "PathFinder$Relations" (11 : Nat) "PathFinder$Relations" "partRows" "[[J") ∈ pw_all := pw_in (List.mem_of_getElem? (i := 108) (by decide +kernel)) (by decide +kernel)
theorem W_86 : (Cond.fieldLink "PathFinder$Relations" (24 : Nat) "PathFinder$Relations" "ready" "Z") ∈ pw_all := pw_in (List.mem_of_getElem? (i := 110) (by decide +kernel)) (by decide +kernel)
theorem W_88 : (Cond.laysFinal "PathFinder$Relations" "PathFinder$Relations" "graph" "LPathFinder$Graph;") ∈ pw_all := pw_in (List.mem_of_getElem? (i := 112) (by decide +kernel)) (by decide +kernel)
theorem W_90 : (Cond.laysFinal "PathFinder$Relations" "PathFinder$Relations" "path" "LPathFinder$Path;") ∈ pw_all := pw_in (List.mem_of_getElem? (i := 114) (by decide +kernel)) (by decide +kernel)
theorem W_92 : (Cond.laysFinal "PathFinder$Relations" "PathFinder$Relations" "partRows" "[[J") ∈ pw_all := pw_in (List.mem_of_getElem? (i := 116) (by decide +kernel)) (by decide +kernel)
theorem W_94 : (Cond.lays "PathFinder$Relations" "PathFinder$Relations" "ready" "Z") ∈ pw_all := pw_in (List.mem_of_getElem? (i := 118) (by decide +kernel)) (by decide +kernel)
theorem W_97 : (Cond.classLink "PathFinder" (32 : Nat) "PathFinder$Counts") ∈ pw_all := pw_in (List.mem_of_getElem? (i := 121) (by decide +kernel)) (by decide +kernel)
theorem W_98 : (Cond.instantiable "PathFinder$Counts" (7 : Nat)) ∈ pw_all := pw_in (List.mem_of_getElem? (i := 122) (by decide +kernel)) (by decide +kernel)
theorem W_100 : (Cond.instanceMethod ({ cls := "PathFinder$Counts", name := "<init>", desc := "(LPathFinder$Graph;LPathFinder$Path;LPathFinder$Relations;)V" } : MethodName)) ∈ pw_all := pw_in (List.mem_of_getElem? (i := 124) (by decide +kernel)) (by decide +kernel)
theorem W_101 : (Cond.code ({ cls := "PathFinder$Counts", name := "<init>", desc := "(LPathFinder$Graph;LPathFinder$Path;LPathFinder$Relations;)V" } : MethodName) prog_2_method_1_code (4 : Nat) (Option.none : Option Jvm.ClassFile.FieldType)) ∈ pw_all := pw_in (List.mem_of_getElem? (i := 125) (by decide +kernel)) (by decide +kernel)
theorem W_102 : (Cond.methodLink "PathFinder$Counts" (3 : Nat) ({ cls := "java/lang/Object", name := "<init>", desc := "()V" } : MethodName)) ∈ pw_all := pw_in (List.mem_of_getElem? (i := 126) (by decide +kernel)) (by decide +kernel)
theorem W_103 : (Cond.classLink "PathFinder$Counts" (18 : Nat) "[[J") ∈ pw_all := pw_in (List.mem_of_getElem? (i := 127) (by decide +kernel)) (by decide +kernel)
theorem W_104 : (Cond.fieldLink "PathFinder$Counts" (27 : Nat) "PathFinder$Counts" "graph" "LPathFinder$Graph;") ∈ pw_all := pw_in (List.mem_of_getElem? (i := 128) (by decide +kernel)) (by decide +kernel)
theorem W_105 : (Cond.fieldLink "PathFinder$Counts" (31 : Nat) "PathFinder$Counts" "path" "LPathFinder$Path;") ∈ pw_all := pw_in (List.mem_of_getElem? (i := 129) (by decide +kernel)) (by decide +kernel)
theorem W_106 : (Cond.fieldLink "PathFinder$Counts" (35 : Nat) "PathFinder$Counts" "relations" "LPathFinder$Relations;") ∈ pw_all := pw_in (List.mem_of_getElem? (i := 130) (by decide +kernel)) (by decide +kernel)
theorem W_107 : (Cond.fieldLink "PathFinder$Counts" (9 : Nat) "PathFinder$Counts" "before" "[J") ∈ pw_all := pw_in (List.mem_of_getElem? (i := 131) (by decide +kernel)) (by decide +kernel)
theorem W_108 : (Cond.fieldLink "PathFinder$Counts" (15 : Nat) "PathFinder$Counts" "after" "[J") ∈ pw_all := pw_in (List.mem_of_getElem? (i := 132) (by decide +kernel)) (by decide +kernel)
theorem W_109 : (Cond.fieldLink "PathFinder$Counts" (20 : Nat) "PathFinder$Counts" "between" "[[J") ∈ pw_all := pw_in (List.mem_of_getElem? (i := 133) (by decide +kernel)) (by decide +kernel)
theorem W_110 : (Cond.fieldLink "PathFinder$Counts" (23 : Nat) "PathFinder$Counts" "start" "I") ∈ pw_all := pw_in (List.mem_of_getElem? (i := 134) (by decide +kernel)) (by decide +kernel)
theorem W_112 : (Cond.laysFinal "PathFinder$Counts" "PathFinder$Counts" "graph" "LPathFinder$Graph;") ∈ pw_all := pw_in (List.mem_of_getElem? (i := 136) (by decide +kernel)) (by decide +kernel)
theorem W_114 : (Cond.laysFinal "PathFinder$Counts" "PathFinder$Counts" "path" "LPathFinder$Path;") ∈ pw_all := pw_in (List.mem_of_getElem? (i := 138) (by decide +kernel)) (by decide +kernel)
theorem W_116 : (Cond.laysFinal "PathFinder$Counts" "PathFinder$Counts" "relations" "LPathFinder$Relations;") ∈ pw_all := pw_in (List.mem_of_getElem? (i := 140) (by decide +kernel)) (by decide +kernel)
theorem W_118 : (Cond.laysFinal "PathFinder$Counts" "PathFinder$Counts" "before" "[J") ∈ pw_all := pw_in (List.mem_of_getElem? (i := 142) (by decide +kernel)) (by decide +kernel)
theorem W_120 : (Cond.laysFinal "PathFinder$Counts" "PathFinder$Counts" "after" "[J") ∈ pw_all := pw_in (List.mem_of_getElem? (i := 144) (by decide +kernel)) (by decide +kernel)
theorem W_122 : (Cond.laysFinal "PathFinder$Counts" "PathFinder$Counts" "between" "[[J") ∈ pw_all := pw_in (List.mem_of_getElem? (i := 146) (by decide +kernel)) (by decide +kernel)
theorem W_124 : (Cond.lays "PathFinder$Counts" "PathFinder$Counts" "start" "I") ∈ pw_all := pw_in (List.mem_of_getElem? (i := 148) (by decide +kernel)) (by decide +kernel)
theorem W_127 : (Cond.fieldLink "PathFinder" (10 : Nat) "PathFinder" "graph" "LPathFinder$Graph;") ∈ pw_all := pw_in (List.mem_of_getElem? (i := 151) (by decide +kernel)) (by decide +kernel)
theorem W_128 : (Cond.fieldLink "PathFinder" (19 : Nat) "PathFinder" "path" "LPathFinder$Path;") ∈ pw_all := pw_in (List.mem_of_getElem? (i := 152) (by decide +kernel)) (by decide +kernel)
theorem W_129 : (Cond.fieldLink "PathFinder" (28 : Nat) "PathFinder" "relations" "LPathFinder$Relations;") ∈ pw_all := pw_in (List.mem_of_getElem? (i := 153) (by decide +kernel)) (by decide +kernel)
theorem W_130 : (Cond.fieldLink "PathFinder" (37 : Nat) "PathFinder" "counts" "LPathFinder$Counts;") ∈ pw_all := pw_in (List.mem_of_getElem? (i := 154) (by decide +kernel)) (by decide +kernel)
theorem W_131 : (Cond.laysFinal "PathFinder" "PathFinder" "graph" "LPathFinder$Graph;") ∈ pw_all := pw_in (List.mem_of_getElem? (i := 155) (by decide +kernel)) (by decide +kernel)
theorem W_133 : (Cond.laysFinal "PathFinder" "PathFinder" "path" "LPathFinder$Path;") ∈ pw_all := pw_in (List.mem_of_getElem? (i := 157) (by decide +kernel)) (by decide +kernel)
theorem W_135 : (Cond.laysFinal "PathFinder" "PathFinder" "relations" "LPathFinder$Relations;") ∈ pw_all := pw_in (List.mem_of_getElem? (i := 159) (by decide +kernel)) (by decide +kernel)
theorem W_137 : (Cond.laysFinal "PathFinder" "PathFinder" "counts" "LPathFinder$Counts;") ∈ pw_all := pw_in (List.mem_of_getElem? (i := 161) (by decide +kernel)) (by decide +kernel)
theorem W_140 : (Cond.methodLink "PathFinderLaw" (13 : Nat) ({ cls := "PathFinder", name := "edge", desc := "(III)I" } : MethodName)) ∈ pw_all := pw_in (List.mem_of_getElem? (i := 164) (by decide +kernel)) (by decide +kernel)
theorem W_141 : (Cond.instanceMethod ({ cls := "PathFinder", name := "edge", desc := "(III)I" } : MethodName)) ∈ pw_all := pw_in (List.mem_of_getElem? (i := 165) (by decide +kernel)) (by decide +kernel)
theorem W_142 : (Cond.selects "PathFinder" ({ cls := "PathFinder", name := "edge", desc := "(III)I" } : MethodName) ({ cls := "PathFinder", name := "edge", desc := "(III)I" } : MethodName)) ∈ pw_all := pw_in (List.mem_of_getElem? (i := 166) (by decide +kernel)) (by decide +kernel)
theorem W_143 : (Cond.code ({ cls := "PathFinder", name := "edge", desc := "(III)I" } : MethodName) prog_1_method_2_code (5 : Nat) (Option.some FieldType.int)) ∈ pw_all := pw_in (List.mem_of_getElem? (i := 167) (by decide +kernel)) (by decide +kernel)
theorem W_146 : (Cond.instanceMethod ({ cls := "PathFinder$Graph", name := "put", desc := "(III)I" } : MethodName)) ∈ pw_all := pw_in (List.mem_of_getElem? (i := 170) (by decide +kernel)) (by decide +kernel)
theorem W_147 : (Cond.code ({ cls := "PathFinder$Graph", name := "put", desc := "(III)I" } : MethodName) prog_3_method_2_code (4 : Nat) (Option.some FieldType.int)) ∈ pw_all := pw_in (List.mem_of_getElem? (i := 171) (by decide +kernel)) (by decide +kernel)
theorem W_148 : (Cond.methodLink "PathFinder$Graph" (16 : Nat) ({ cls := "PathFinder$Graph", name := "isEdge", desc := "(III)Z" } : MethodName)) ∈ pw_all := pw_in (List.mem_of_getElem? (i := 172) (by decide +kernel)) (by decide +kernel)
theorem W_149 : (Cond.static ({ cls := "PathFinder$Graph", name := "isEdge", desc := "(III)Z" } : MethodName)) ∈ pw_all := pw_in (List.mem_of_getElem? (i := 173) (by decide +kernel)) (by decide +kernel)
theorem W_150 : (Cond.code ({ cls := "PathFinder$Graph", name := "isEdge", desc := "(III)Z" } : MethodName) prog_3_method_4_code (3 : Nat) (Option.some FieldType.boolean)) ∈ pw_all := pw_in (List.mem_of_getElem? (i := 174) (by decide +kernel)) (by decide +kernel)
theorem W_152 : (Cond.static ({ cls := "PathFinder", name := "isPoint", desc := "(I)Z" } : MethodName)) ∈ pw_all := pw_in (List.mem_of_getElem? (i := 176) (by decide +kernel)) (by decide +kernel)
theorem W_153 : (Cond.code ({ cls := "PathFinder", name := "isPoint", desc := "(I)Z" } : MethodName) prog_1_method_15_code (1 : Nat) (Option.some FieldType.boolean)) ∈ pw_all := pw_in (List.mem_of_getElem? (i := 177) (by decide +kernel)) (by decide +kernel)
theorem W_155 : (Cond.static ({ cls := "PathFinder", name := "isLabel", desc := "(I)Z" } : MethodName)) ∈ pw_all := pw_in (List.mem_of_getElem? (i := 179) (by decide +kernel)) (by decide +kernel)
theorem W_156 : (Cond.code ({ cls := "PathFinder", name := "isLabel", desc := "(I)Z" } : MethodName) prog_1_method_16_code (1 : Nat) (Option.some FieldType.boolean)) ∈ pw_all := pw_in (List.mem_of_getElem? (i := 180) (by decide +kernel)) (by decide +kernel)
theorem W_158 : (Cond.static ({ cls := "PathFinder", name := "holds", desc := "(JI)Z" } : MethodName)) ∈ pw_all := pw_in (List.mem_of_getElem? (i := 182) (by decide +kernel)) (by decide +kernel)
theorem W_159 : (Cond.code ({ cls := "PathFinder", name := "holds", desc := "(JI)Z" } : MethodName) prog_1_method_18_code (3 : Nat) (Option.some FieldType.boolean)) ∈ pw_all := pw_in (List.mem_of_getElem? (i := 183) (by decide +kernel)) (by decide +kernel)
theorem W_161 : (Cond.static ({ cls := "PathFinder", name := "bit", desc := "(I)J" } : MethodName)) ∈ pw_all := pw_in (List.mem_of_getElem? (i := 185) (by decide +kernel)) (by decide +kernel)
theorem W_162 : (Cond.code ({ cls := "PathFinder", name := "bit", desc := "(I)J" } : MethodName) prog_1_method_17_code (1 : Nat) (Option.some FieldType.long)) ∈ pw_all := pw_in (List.mem_of_getElem? (i := 186) (by decide +kernel)) (by decide +kernel)
theorem W_163 : (Cond.methodLink "PathFinder" (45 : Nat) ({ cls := "PathFinder", name := "forget", desc := "()V" } : MethodName)) ∈ pw_all := pw_in (List.mem_of_getElem? (i := 187) (by decide +kernel)) (by decide +kernel)
theorem W_165 : (Cond.instanceMethod ({ cls := "PathFinder", name := "forget", desc := "()V" } : MethodName)) ∈ pw_all := pw_in (List.mem_of_getElem? (i := 189) (by decide +kernel)) (by decide +kernel)
theorem W_166 : (Cond.code ({ cls := "PathFinder", name := "forget", desc := "()V" } : MethodName) prog_1_method_14_code (1 : Nat) (Option.none : Option Jvm.ClassFile.FieldType)) ∈ pw_all := pw_in (List.mem_of_getElem? (i := 190) (by decide +kernel)) (by decide +kernel)
theorem W_167 : (Cond.methodLink "PathFinderLaw" (18 : Nat) ({ cls := "PathFinder", name := "drop", desc := "(III)I" } : MethodName)) ∈ pw_all := pw_in (List.mem_of_getElem? (i := 191) (by decide +kernel)) (by decide +kernel)
theorem W_168 : (Cond.instanceMethod ({ cls := "PathFinder", name := "drop", desc := "(III)I" } : MethodName)) ∈ pw_all := pw_in (List.mem_of_getElem? (i := 192) (by decide +kernel)) (by decide +kernel)
theorem W_169 : (Cond.selects "PathFinder" ({ cls := "PathFinder", name := "drop", desc := "(III)I" } : MethodName) ({ cls := "PathFinder", name := "drop", desc := "(III)I" } : MethodName)) ∈ pw_all := pw_in (List.mem_of_getElem? (i := 193) (by decide +kernel)) (by decide +kernel)
theorem W_170 : (Cond.code ({ cls := "PathFinder", name := "drop", desc := "(III)I" } : MethodName) prog_1_method_3_code (5 : Nat) (Option.some FieldType.int)) ∈ pw_all := pw_in (List.mem_of_getElem? (i := 194) (by decide +kernel)) (by decide +kernel)
theorem W_173 : (Cond.instanceMethod ({ cls := "PathFinder$Graph", name := "remove", desc := "(III)I" } : MethodName)) ∈ pw_all := pw_in (List.mem_of_getElem? (i := 197) (by decide +kernel)) (by decide +kernel)
theorem W_174 : (Cond.code ({ cls := "PathFinder$Graph", name := "remove", desc := "(III)I" } : MethodName) prog_3_method_3_code (4 : Nat) (Option.some FieldType.int)) ∈ pw_all := pw_in (List.mem_of_getElem? (i := 198) (by decide +kernel)) (by decide +kernel)
theorem W_175 : (Cond.constantLong "PathFinder$Graph" (32 : Nat) (-1 : Int64)) ∈ pw_all := pw_in (List.mem_of_getElem? (i := 199) (by decide +kernel)) (by decide +kernel)
theorem W_176 : (Cond.methodLink "PathFinderLaw" (22 : Nat) ({ cls := "PathFinder", name := "edges", desc := "()I" } : MethodName)) ∈ pw_all := pw_in (List.mem_of_getElem? (i := 200) (by decide +kernel)) (by decide +kernel)
theorem W_177 : (Cond.instanceMethod ({ cls := "PathFinder", name := "edges", desc := "()I" } : MethodName)) ∈ pw_all := pw_in (List.mem_of_getElem? (i := 201) (by decide +kernel)) (by decide +kernel)
theorem W_178 : (Cond.selects "PathFinder" ({ cls := "PathFinder", name := "edges", desc := "()I" } : MethodName) ({ cls := "PathFinder", name := "edges", desc := "()I" } : MethodName)) ∈ pw_all := pw_in (List.mem_of_getElem? (i := 202) (by decide +kernel)) (by decide +kernel)
theorem W_179 : (Cond.code ({ cls := "PathFinder", name := "edges", desc := "()I" } : MethodName) prog_1_method_4_code (1 : Nat) (Option.some FieldType.int)) ∈ pw_all := pw_in (List.mem_of_getElem? (i := 203) (by decide +kernel)) (by decide +kernel)
theorem W_180 : (Cond.methodLink "PathFinderLaw" (27 : Nat) ({ cls := "PathFinder", name := "word", desc := "(I)I" } : MethodName)) ∈ pw_all := pw_in (List.mem_of_getElem? (i := 204) (by decide +kernel)) (by decide +kernel)
theorem W_181 : (Cond.instanceMethod ({ cls := "PathFinder", name := "word", desc := "(I)I" } : MethodName)) ∈ pw_all := pw_in (List.mem_of_getElem? (i := 205) (by decide +kernel)) (by decide +kernel)
theorem W_182 : (Cond.selects "PathFinder" ({ cls := "PathFinder", name := "word", desc := "(I)I" } : MethodName) ({ cls := "PathFinder", name := "word", desc := "(I)I" } : MethodName)) ∈ pw_all := pw_in (List.mem_of_getElem? (i := 206) (by decide +kernel)) (by decide +kernel)
theorem W_183 : (Cond.code ({ cls := "PathFinder", name := "word", desc := "(I)I" } : MethodName) prog_1_method_5_code (3 : Nat) (Option.some FieldType.int)) ∈ pw_all := pw_in (List.mem_of_getElem? (i := 207) (by decide +kernel)) (by decide +kernel)
theorem W_186 : (Cond.instanceMethod ({ cls := "PathFinder$Path", name := "append", desc := "(I)I" } : MethodName)) ∈ pw_all := pw_in (List.mem_of_getElem? (i := 210) (by decide +kernel)) (by decide +kernel)
theorem W_187 : (Cond.code ({ cls := "PathFinder$Path", name := "append", desc := "(I)I" } : MethodName) prog_4_method_2_code (2 : Nat) (Option.some FieldType.int)) ∈ pw_all := pw_in (List.mem_of_getElem? (i := 211) (by decide +kernel)) (by decide +kernel)
theorem W_188 : (Cond.methodLink "PathFinder$Path" (31 : Nat) ({ cls := "PathFinder$Path", name := "readWords", desc := "()V" } : MethodName)) ∈ pw_all := pw_in (List.mem_of_getElem? (i := 212) (by decide +kernel)) (by decide +kernel)
theorem W_190 : (Cond.instanceMethod ({ cls := "PathFinder$Path", name := "readWords", desc := "()V" } : MethodName)) ∈ pw_all := pw_in (List.mem_of_getElem? (i := 214) (by decide +kernel)) (by decide +kernel)
theorem W_191 : (Cond.code ({ cls := "PathFinder$Path", name := "readWords", desc := "()V" } : MethodName) prog_4_method_5_code (2 : Nat) (Option.none : Option Jvm.ClassFile.FieldType)) ∈ pw_all := pw_in (List.mem_of_getElem? (i := 215) (by decide +kernel)) (by decide +kernel)
theorem W_192 : (Cond.methodLink "PathFinder$Path" (37 : Nat) ({ cls := "PathFinder$Path", name := "readPart", desc := "(II)I" } : MethodName)) ∈ pw_all := pw_in (List.mem_of_getElem? (i := 216) (by decide +kernel)) (by decide +kernel)
theorem W_194 : (Cond.instanceMethod ({ cls := "PathFinder$Path", name := "readPart", desc := "(II)I" } : MethodName)) ∈ pw_all := pw_in (List.mem_of_getElem? (i := 218) (by decide +kernel)) (by decide +kernel)
theorem W_195 : (Cond.code ({ cls := "PathFinder$Path", name := "readPart", desc := "(II)I" } : MethodName) prog_4_method_6_code (6 : Nat) (Option.some FieldType.int)) ∈ pw_all := pw_in (List.mem_of_getElem? (i := 219) (by decide +kernel)) (by decide +kernel)
theorem W_196 : (Cond.methodLink "PathFinder$Path" (45 : Nat) ({ cls := "PathFinder$Path", name := "isWithin", desc := "(III)Z" } : MethodName)) ∈ pw_all := pw_in (List.mem_of_getElem? (i := 220) (by decide +kernel)) (by decide +kernel)
theorem W_198 : (Cond.instanceMethod ({ cls := "PathFinder$Path", name := "isWithin", desc := "(III)Z" } : MethodName)) ∈ pw_all := pw_in (List.mem_of_getElem? (i := 222) (by decide +kernel)) (by decide +kernel)
theorem W_199 : (Cond.code ({ cls := "PathFinder$Path", name := "isWithin", desc := "(III)Z" } : MethodName) prog_4_method_8_code (4 : Nat) (Option.some FieldType.boolean)) ∈ pw_all := pw_in (List.mem_of_getElem? (i := 223) (by decide +kernel)) (by decide +kernel)
theorem W_200 : (Cond.methodLink "PathFinder$Path" (41 : Nat) ({ cls := "PathFinder$Path", name := "faultAt", desc := "(I)I" } : MethodName)) ∈ pw_all := pw_in (List.mem_of_getElem? (i := 224) (by decide +kernel)) (by decide +kernel)
theorem W_201 : (Cond.static ({ cls := "PathFinder$Path", name := "faultAt", desc := "(I)I" } : MethodName)) ∈ pw_all := pw_in (List.mem_of_getElem? (i := 225) (by decide +kernel)) (by decide +kernel)
theorem W_202 : (Cond.code ({ cls := "PathFinder$Path", name := "faultAt", desc := "(I)I" } : MethodName) prog_4_method_9_code (1 : Nat) (Option.some FieldType.int)) ∈ pw_all := pw_in (List.mem_of_getElem? (i := 226) (by decide +kernel)) (by decide +kernel)
theorem W_203 : (Cond.methodLink "PathFinder$Path" (49 : Nat) ({ cls := "PathFinder$Path", name := "readLabels", desc := "(II)I" } : MethodName)) ∈ pw_all := pw_in (List.mem_of_getElem? (i := 227) (by decide +kernel)) (by decide +kernel)
theorem W_205 : (Cond.instanceMethod ({ cls := "PathFinder$Path", name := "readLabels", desc := "(II)I" } : MethodName)) ∈ pw_all := pw_in (List.mem_of_getElem? (i := 229) (by decide +kernel)) (by decide +kernel)
theorem W_206 : (Cond.code ({ cls := "PathFinder$Path", name := "readLabels", desc := "(II)I" } : MethodName) prog_4_method_7_code (5 : Nat) (Option.some FieldType.int)) ∈ pw_all := pw_in (List.mem_of_getElem? (i := 230) (by decide +kernel)) (by decide +kernel)
theorem W_207 : (Cond.methodLink "PathFinderLaw" (32 : Nat) ({ cls := "PathFinder", name := "clear", desc := "()I" } : MethodName)) ∈ pw_all := pw_in (List.mem_of_getElem? (i := 231) (by decide +kernel)) (by decide +kernel)
theorem W_208 : (Cond.instanceMethod ({ cls := "PathFinder", name := "clear", desc := "()I" } : MethodName)) ∈ pw_all := pw_in (List.mem_of_getElem? (i := 232) (by decide +kernel)) (by decide +kernel)
theorem W_209 : (Cond.selects "PathFinder" ({ cls := "PathFinder", name := "clear", desc := "()I" } : MethodName) ({ cls := "PathFinder", name := "clear", desc := "()I" } : MethodName)) ∈ pw_all := pw_in (List.mem_of_getElem? (i := 233) (by decide +kernel)) (by decide +kernel)
theorem W_210 : (Cond.code ({ cls := "PathFinder", name := "clear", desc := "()I" } : MethodName) prog_1_method_6_code (2 : Nat) (Option.some FieldType.int)) ∈ pw_all := pw_in (List.mem_of_getElem? (i := 234) (by decide +kernel)) (by decide +kernel)
theorem W_213 : (Cond.instanceMethod ({ cls := "PathFinder$Path", name := "empty", desc := "()I" } : MethodName)) ∈ pw_all := pw_in (List.mem_of_getElem? (i := 237) (by decide +kernel)) (by decide +kernel)
theorem W_214 : (Cond.code ({ cls := "PathFinder$Path", name := "empty", desc := "()I" } : MethodName) prog_4_method_3_code (2 : Nat) (Option.some FieldType.int)) ∈ pw_all := pw_in (List.mem_of_getElem? (i := 238) (by decide +kernel)) (by decide +kernel)
theorem W_215 : (Cond.methodLink "PathFinderLaw" (36 : Nat) ({ cls := "PathFinder", name := "look", desc := "()I" } : MethodName)) ∈ pw_all := pw_in (List.mem_of_getElem? (i := 239) (by decide +kernel)) (by decide +kernel)
theorem W_216 : (Cond.instanceMethod ({ cls := "PathFinder", name := "look", desc := "()I" } : MethodName)) ∈ pw_all := pw_in (List.mem_of_getElem? (i := 240) (by decide +kernel)) (by decide +kernel)
theorem W_217 : (Cond.selects "PathFinder" ({ cls := "PathFinder", name := "look", desc := "()I" } : MethodName) ({ cls := "PathFinder", name := "look", desc := "()I" } : MethodName)) ∈ pw_all := pw_in (List.mem_of_getElem? (i := 241) (by decide +kernel)) (by decide +kernel)
theorem W_218 : (Cond.code ({ cls := "PathFinder", name := "look", desc := "()I" } : MethodName) prog_1_method_7_code (1 : Nat) (Option.some FieldType.int)) ∈ pw_all := pw_in (List.mem_of_getElem? (i := 242) (by decide +kernel)) (by decide +kernel)
theorem W_219 : (Cond.methodLink "PathFinderLaw" (40 : Nat) ({ cls := "PathFinder", name := "times", desc := "(II)J" } : MethodName)) ∈ pw_all := pw_in (List.mem_of_getElem? (i := 243) (by decide +kernel)) (by decide +kernel)
theorem W_220 : (Cond.instanceMethod ({ cls := "PathFinder", name := "times", desc := "(II)J" } : MethodName)) ∈ pw_all := pw_in (List.mem_of_getElem? (i := 244) (by decide +kernel)) (by decide +kernel)
theorem W_221 : (Cond.selects "PathFinder" ({ cls := "PathFinder", name := "times", desc := "(II)J" } : MethodName) ({ cls := "PathFinder", name := "times", desc := "(II)J" } : MethodName)) ∈ pw_all := pw_in (List.mem_of_getElem? (i := 245) (by decide +kernel)) (by decide +kernel)
theorem W_222 : (Cond.code ({ cls := "PathFinder", name := "times", desc := "(II)J" } : MethodName) prog_1_method_8_code (3 : Nat) (Option.some FieldType.long)) ∈ pw_all := pw_in (List.mem_of_getElem? (i := 246) (by decide +kernel)) (by decide +kernel)
theorem W_223 : (Cond.methodLink "PathFinder" (66 : Nat) ({ cls := "PathFinder", name := "isPoint", desc := "(I)Z" } : MethodName)) ∈ pw_all := pw_in (List.mem_of_getElem? (i := 247) (by decide +kernel)) (by decide +kernel)
theorem W_224 : (Cond.constantLong "PathFinder" (70 : Nat) (-1 : Int64)) ∈ pw_all := pw_in (List.mem_of_getElem? (i := 248) (by decide +kernel)) (by decide +kernel)
theorem W_227 : (Cond.instanceMethod ({ cls := "PathFinder$Path", name := "isJust", desc := "()Z" } : MethodName)) ∈ pw_all := pw_in (List.mem_of_getElem? (i := 251) (by decide +kernel)) (by decide +kernel)
theorem W_228 : (Cond.code ({ cls := "PathFinder$Path", name := "isJust", desc := "()Z" } : MethodName) prog_4_method_4_code (1 : Nat) (Option.some FieldType.boolean)) ∈ pw_all := pw_in (List.mem_of_getElem? (i := 252) (by decide +kernel)) (by decide +kernel)
theorem W_229 : (Cond.constantLong "PathFinder" (76 : Nat) (-2 : Int64)) ∈ pw_all := pw_in (List.mem_of_getElem? (i := 253) (by decide +kernel)) (by decide +kernel)
theorem W_232 : (Cond.instanceMethod ({ cls := "PathFinder$Counts", name := "from", desc := "(I)[J" } : MethodName)) ∈ pw_all := pw_in (List.mem_of_getElem? (i := 256) (by decide +kernel)) (by decide +kernel)
theorem W_233 : (Cond.code ({ cls := "PathFinder$Counts", name := "from", desc := "(I)[J" } : MethodName) prog_2_method_2_code (2 : Nat) (Option.some (FieldType.array FieldType.long))) ∈ pw_all := pw_in (List.mem_of_getElem? (i := 257) (by decide +kernel)) (by decide +kernel)
theorem W_237 : (Cond.instanceMethod ({ cls := "PathFinder$Relations", name := "ofPath", desc := "()[J" } : MethodName)) ∈ pw_all := pw_in (List.mem_of_getElem? (i := 261) (by decide +kernel)) (by decide +kernel)
theorem W_238 : (Cond.code ({ cls := "PathFinder$Relations", name := "ofPath", desc := "()[J" } : MethodName) prog_5_method_2_code (2 : Nat) (Option.some (FieldType.array FieldType.long))) ∈ pw_all := pw_in (List.mem_of_getElem? (i := 262) (by decide +kernel)) (by decide +kernel)
theorem W_239 : (Cond.methodLink "PathFinder$Relations" (34 : Nat) ({ cls := "PathFinder$Relations", name := "fill", desc := "(I)V" } : MethodName)) ∈ pw_all := pw_in (List.mem_of_getElem? (i := 263) (by decide +kernel)) (by decide +kernel)
theorem W_241 : (Cond.instanceMethod ({ cls := "PathFinder$Relations", name := "fill", desc := "(I)V" } : MethodName)) ∈ pw_all := pw_in (List.mem_of_getElem? (i := 265) (by decide +kernel)) (by decide +kernel)
theorem W_242 : (Cond.code ({ cls := "PathFinder$Relations", name := "fill", desc := "(I)V" } : MethodName) prog_5_method_3_code (6 : Nat) (Option.none : Option Jvm.ClassFile.FieldType)) ∈ pw_all := pw_in (List.mem_of_getElem? (i := 266) (by decide +kernel)) (by decide +kernel)
theorem W_243 : (Cond.methodLink "PathFinder$Relations" (38 : Nat) ({ cls := "java/util/Arrays", name := "fill", desc := "([JJ)V" } : MethodName)) ∈ pw_all := pw_in (List.mem_of_getElem? (i := 267) (by decide +kernel)) (by decide +kernel)
theorem W_244 : (Cond.static ({ cls := "java/util/Arrays", name := "fill", desc := "([JJ)V" } : MethodName)) ∈ pw_all := pw_in (List.mem_of_getElem? (i := 268) (by decide +kernel)) (by decide +kernel)
theorem W_245 : (Cond.code ({ cls := "java/util/Arrays", name := "fill", desc := "([JJ)V" } : MethodName) prog_10_method_101_code (5 : Nat) (Option.none : Option Jvm.ClassFile.FieldType)) ∈ pw_all := pw_in (List.mem_of_getElem? (i := 269) (by decide +kernel)) (by decide +kernel)
theorem W_246 : (Cond.methodLink "PathFinder$Relations" (53 : Nat) ({ cls := "PathFinder$Relations", name := "addEdges", desc := "([JI)V" } : MethodName)) ∈ pw_all := pw_in (List.mem_of_getElem? (i := 270) (by decide +kernel)) (by decide +kernel)
theorem W_248 : (Cond.instanceMethod ({ cls := "PathFinder$Relations", name := "addEdges", desc := "([JI)V" } : MethodName)) ∈ pw_all := pw_in (List.mem_of_getElem? (i := 272) (by decide +kernel)) (by decide +kernel)
theorem W_249 : (Cond.code ({ cls := "PathFinder$Relations", name := "addEdges", desc := "([JI)V" } : MethodName) prog_5_method_5_code (4 : Nat) (Option.none : Option Jvm.ClassFile.FieldType)) ∈ pw_all := pw_in (List.mem_of_getElem? (i := 273) (by decide +kernel)) (by decide +kernel)
theorem W_251 : (Cond.methodLink "PathFinder$Relations" (69 : Nat) ({ cls := "PathFinder$Relations", name := "add", desc := "([J[J)V" } : MethodName)) ∈ pw_all := pw_in (List.mem_of_getElem? (i := 275) (by decide +kernel)) (by decide +kernel)
theorem W_252 : (Cond.static ({ cls := "PathFinder$Relations", name := "add", desc := "([J[J)V" } : MethodName)) ∈ pw_all := pw_in (List.mem_of_getElem? (i := 276) (by decide +kernel)) (by decide +kernel)
theorem W_253 : (Cond.code ({ cls := "PathFinder$Relations", name := "add", desc := "([J[J)V" } : MethodName) prog_5_method_6_code (3 : Nat) (Option.none : Option Jvm.ClassFile.FieldType)) ∈ pw_all := pw_in (List.mem_of_getElem? (i := 277) (by decide +kernel)) (by decide +kernel)
theorem W_254 : (Cond.methodLink "PathFinder$Relations" (57 : Nat) ({ cls := "PathFinder$Relations", name := "fillFrom", desc := "([JI[J[J)V" } : MethodName)) ∈ pw_all := pw_in (List.mem_of_getElem? (i := 278) (by decide +kernel)) (by decide +kernel)
theorem W_255 : (Cond.static ({ cls := "PathFinder$Relations", name := "fillFrom", desc := "([JI[J[J)V" } : MethodName)) ∈ pw_all := pw_in (List.mem_of_getElem? (i := 279) (by decide +kernel)) (by decide +kernel)
theorem W_256 : (Cond.code ({ cls := "PathFinder$Relations", name := "fillFrom", desc := "([JI[J[J)V" } : MethodName) prog_5_method_4_code (4 : Nat) (Option.none : Option Jvm.ClassFile.FieldType)) ∈ pw_all := pw_in (List.mem_of_getElem? (i := 280) (by decide +kernel)) (by decide +kernel)
theorem W_257 : (Cond.methodLink "PathFinder$Relations" (61 : Nat) ({ cls := "PathFinder$Relations", name := "addTurned", desc := "([J[J)V" } : MethodName)) ∈ pw_all := pw_in (List.mem_of_getElem? (i := 281) (by decide +kernel)) (by decide +kernel)
theorem W_258 : (Cond.static ({ cls := "PathFinder$Relations", name := "addTurned", desc := "([J[J)V" } : MethodName)) ∈ pw_all := pw_in (List.mem_of_getElem? (i := 282) (by decide +kernel)) (by decide +kernel)
theorem W_259 : (Cond.code ({ cls := "PathFinder$Relations", name := "addTurned", desc := "([J[J)V" } : MethodName) prog_5_method_8_code (6 : Nat) (Option.none : Option Jvm.ClassFile.FieldType)) ∈ pw_all := pw_in (List.mem_of_getElem? (i := 283) (by decide +kernel)) (by decide +kernel)
theorem W_260 : (Cond.methodLink "PathFinder$Relations" (92 : Nat) ({ cls := "java/lang/Long", name := "numberOfTrailingZeros", desc := "(J)I" } : MethodName)) ∈ pw_all := pw_in (List.mem_of_getElem? (i := 284) (by decide +kernel)) (by decide +kernel)
theorem W_261 : (Cond.static ({ cls := "java/lang/Long", name := "numberOfTrailingZeros", desc := "(J)I" } : MethodName)) ∈ pw_all := pw_in (List.mem_of_getElem? (i := 285) (by decide +kernel)) (by decide +kernel)
theorem W_262 : (Cond.code ({ cls := "java/lang/Long", name := "numberOfTrailingZeros", desc := "(J)I" } : MethodName) prog_9_method_49_code (3 : Nat) (Option.some FieldType.int)) ∈ pw_all := pw_in (List.mem_of_getElem? (i := 286) (by decide +kernel)) (by decide +kernel)
theorem W_263 : (Cond.methodLink "java/lang/Long" (311 : Nat) ({ cls := "java/lang/Integer", name := "numberOfTrailingZeros", desc := "(I)I" } : MethodName)) ∈ pw_all := pw_in (List.mem_of_getElem? (i := 287) (by decide +kernel)) (by decide +kernel)
theorem W_264 : (Cond.static ({ cls := "java/lang/Integer", name := "numberOfTrailingZeros", desc := "(I)I" } : MethodName)) ∈ pw_all := pw_in (List.mem_of_getElem? (i := 288) (by decide +kernel)) (by decide +kernel)
theorem W_265 : (Cond.code ({ cls := "java/lang/Integer", name := "numberOfTrailingZeros", desc := "(I)I" } : MethodName) prog_8_method_48_code (2 : Nat) (Option.some FieldType.int)) ∈ pw_all := pw_in (List.mem_of_getElem? (i := 289) (by decide +kernel)) (by decide +kernel)
theorem W_266 : (Cond.constant "java/lang/Integer" (264 : Nat) (65536 : Int32)) ∈ pw_all := pw_in (List.mem_of_getElem? (i := 290) (by decide +kernel)) (by decide +kernel)
theorem W_268 : (Cond.methodLink "PathFinder$Relations" (65 : Nat) ({ cls := "PathFinder$Relations", name := "addJoined", desc := "([J[J[J)V" } : MethodName)) ∈ pw_all := pw_in (List.mem_of_getElem? (i := 292) (by decide +kernel)) (by decide +kernel)
theorem W_269 : (Cond.static ({ cls := "PathFinder$Relations", name := "addJoined", desc := "([J[J[J)V" } : MethodName)) ∈ pw_all := pw_in (List.mem_of_getElem? (i := 293) (by decide +kernel)) (by decide +kernel)
theorem W_270 : (Cond.code ({ cls := "PathFinder$Relations", name := "addJoined", desc := "([J[J[J)V" } : MethodName) prog_5_method_9_code (7 : Nat) (Option.none : Option Jvm.ClassFile.FieldType)) ∈ pw_all := pw_in (List.mem_of_getElem? (i := 294) (by decide +kernel)) (by decide +kernel)
theorem W_271 : (Cond.methodLink "PathFinder$Relations" (72 : Nat) ({ cls := "PathFinder$Relations", name := "addStaying", desc := "([J)V" } : MethodName)) ∈ pw_all := pw_in (List.mem_of_getElem? (i := 295) (by decide +kernel)) (by decide +kernel)
theorem W_272 : (Cond.static ({ cls := "PathFinder$Relations", name := "addStaying", desc := "([J)V" } : MethodName)) ∈ pw_all := pw_in (List.mem_of_getElem? (i := 296) (by decide +kernel)) (by decide +kernel)
theorem W_273 : (Cond.code ({ cls := "PathFinder$Relations", name := "addStaying", desc := "([J)V" } : MethodName) prog_5_method_7_code (2 : Nat) (Option.none : Option Jvm.ClassFile.FieldType)) ∈ pw_all := pw_in (List.mem_of_getElem? (i := 297) (by decide +kernel)) (by decide +kernel)
theorem W_274 : (Cond.methodLink "PathFinder$Relations" (76 : Nat) ({ cls := "PathFinder$Relations", name := "close", desc := "([J)V" } : MethodName)) ∈ pw_all := pw_in (List.mem_of_getElem? (i := 298) (by decide +kernel)) (by decide +kernel)
theorem W_275 : (Cond.static ({ cls := "PathFinder$Relations", name := "close", desc := "([J)V" } : MethodName)) ∈ pw_all := pw_in (List.mem_of_getElem? (i := 299) (by decide +kernel)) (by decide +kernel)
theorem W_276 : (Cond.code ({ cls := "PathFinder$Relations", name := "close", desc := "([J)V" } : MethodName) prog_5_method_10_code (3 : Nat) (Option.none : Option Jvm.ClassFile.FieldType)) ∈ pw_all := pw_in (List.mem_of_getElem? (i := 300) (by decide +kernel)) (by decide +kernel)
theorem W_277 : (Cond.methodLink "PathFinder$Counts" (49 : Nat) ({ cls := "java/util/Arrays", name := "fill", desc := "([JJ)V" } : MethodName)) ∈ pw_all := pw_in (List.mem_of_getElem? (i := 301) (by decide +kernel)) (by decide +kernel)
theorem W_278 : (Cond.methodLink "PathFinder$Counts" (55 : Nat) ({ cls := "PathFinder$Counts", name := "carry", desc := "(IZI[J[J)V" } : MethodName)) ∈ pw_all := pw_in (List.mem_of_getElem? (i := 302) (by decide +kernel)) (by decide +kernel)
theorem W_280 : (Cond.instanceMethod ({ cls := "PathFinder$Counts", name := "carry", desc := "(IZI[J[J)V" } : MethodName)) ∈ pw_all := pw_in (List.mem_of_getElem? (i := 304) (by decide +kernel)) (by decide +kernel)
theorem W_281 : (Cond.code ({ cls := "PathFinder$Counts", name := "carry", desc := "(IZI[J[J)V" } : MethodName) prog_2_method_3_code (6 : Nat) (Option.none : Option Jvm.ClassFile.FieldType)) ∈ pw_all := pw_in (List.mem_of_getElem? (i := 305) (by decide +kernel)) (by decide +kernel)
theorem W_282 : (Cond.methodLink "PathFinder$Counts" (71 : Nat) ({ cls := "PathFinder$Counts", name := "carryOverEdges", desc := "(IZ[J[J)V" } : MethodName)) ∈ pw_all := pw_in (List.mem_of_getElem? (i := 306) (by decide +kernel)) (by decide +kernel)
theorem W_284 : (Cond.instanceMethod ({ cls := "PathFinder$Counts", name := "carryOverEdges", desc := "(IZ[J[J)V" } : MethodName)) ∈ pw_all := pw_in (List.mem_of_getElem? (i := 308) (by decide +kernel)) (by decide +kernel)
theorem W_285 : (Cond.code ({ cls := "PathFinder$Counts", name := "carryOverEdges", desc := "(IZ[J[J)V" } : MethodName) prog_2_method_5_code (6 : Nat) (Option.none : Option Jvm.ClassFile.FieldType)) ∈ pw_all := pw_in (List.mem_of_getElem? (i := 309) (by decide +kernel)) (by decide +kernel)
theorem W_287 : (Cond.methodLink "PathFinder$Counts" (84 : Nat) ({ cls := "PathFinder$Counts", name := "carryOver", desc := "([JZ[J[J)V" } : MethodName)) ∈ pw_all := pw_in (List.mem_of_getElem? (i := 311) (by decide +kernel)) (by decide +kernel)
theorem W_288 : (Cond.static ({ cls := "PathFinder$Counts", name := "carryOver", desc := "([JZ[J[J)V" } : MethodName)) ∈ pw_all := pw_in (List.mem_of_getElem? (i := 312) (by decide +kernel)) (by decide +kernel)
theorem W_289 : (Cond.code ({ cls := "PathFinder$Counts", name := "carryOver", desc := "([JZ[J[J)V" } : MethodName) prog_2_method_6_code (5 : Nat) (Option.none : Option Jvm.ClassFile.FieldType)) ∈ pw_all := pw_in (List.mem_of_getElem? (i := 313) (by decide +kernel)) (by decide +kernel)
theorem W_290 : (Cond.methodLink "PathFinder$Counts" (97 : Nat) ({ cls := "PathFinder$Counts", name := "gather", desc := "(J[J)J" } : MethodName)) ∈ pw_all := pw_in (List.mem_of_getElem? (i := 314) (by decide +kernel)) (by decide +kernel)
theorem W_291 : (Cond.static ({ cls := "PathFinder$Counts", name := "gather", desc := "(J[J)J" } : MethodName)) ∈ pw_all := pw_in (List.mem_of_getElem? (i := 315) (by decide +kernel)) (by decide +kernel)
theorem W_292 : (Cond.code ({ cls := "PathFinder$Counts", name := "gather", desc := "(J[J)J" } : MethodName) prog_2_method_7_code (8 : Nat) (Option.some FieldType.long)) ∈ pw_all := pw_in (List.mem_of_getElem? (i := 316) (by decide +kernel)) (by decide +kernel)
theorem W_293 : (Cond.methodLink "PathFinder$Counts" (109 : Nat) ({ cls := "java/lang/Long", name := "numberOfTrailingZeros", desc := "(J)I" } : MethodName)) ∈ pw_all := pw_in (List.mem_of_getElem? (i := 317) (by decide +kernel)) (by decide +kernel)
theorem W_295 : (Cond.static ({ cls := "PathFinder", name := "sumOf", desc := "(JJ)J" } : MethodName)) ∈ pw_all := pw_in (List.mem_of_getElem? (i := 319) (by decide +kernel)) (by decide +kernel)
theorem W_296 : (Cond.code ({ cls := "PathFinder", name := "sumOf", desc := "(JJ)J" } : MethodName) prog_1_method_19_code (6 : Nat) (Option.some FieldType.long)) ∈ pw_all := pw_in (List.mem_of_getElem? (i := 320) (by decide +kernel)) (by decide +kernel)
theorem W_297 : (Cond.constantLong "PathFinder" (111 : Nat) (1000000000000000 : Int64)) ∈ pw_all := pw_in (List.mem_of_getElem? (i := 321) (by decide +kernel)) (by decide +kernel)
theorem W_298 : (Cond.methodLink "PathFinder$Counts" (105 : Nat) ({ cls := "PathFinder$Counts", name := "spread", desc := "(JJ[J)V" } : MethodName)) ∈ pw_all := pw_in (List.mem_of_getElem? (i := 322) (by decide +kernel)) (by decide +kernel)
theorem W_299 : (Cond.static ({ cls := "PathFinder$Counts", name := "spread", desc := "(JJ[J)V" } : MethodName)) ∈ pw_all := pw_in (List.mem_of_getElem? (i := 323) (by decide +kernel)) (by decide +kernel)
theorem W_300 : (Cond.code ({ cls := "PathFinder$Counts", name := "spread", desc := "(JJ[J)V" } : MethodName) prog_2_method_8_code (9 : Nat) (Option.none : Option Jvm.ClassFile.FieldType)) ∈ pw_all := pw_in (List.mem_of_getElem? (i := 324) (by decide +kernel)) (by decide +kernel)
theorem W_301 : (Cond.methodLink "PathFinder$Counts" (75 : Nat) ({ cls := "PathFinder$Counts", name := "carryOverBoth", desc := "(IZI[J[J)V" } : MethodName)) ∈ pw_all := pw_in (List.mem_of_getElem? (i := 325) (by decide +kernel)) (by decide +kernel)
theorem W_303 : (Cond.instanceMethod ({ cls := "PathFinder$Counts", name := "carryOverBoth", desc := "(IZI[J[J)V" } : MethodName)) ∈ pw_all := pw_in (List.mem_of_getElem? (i := 327) (by decide +kernel)) (by decide +kernel)
theorem W_304 : (Cond.code ({ cls := "PathFinder$Counts", name := "carryOverBoth", desc := "(IZI[J[J)V" } : MethodName) prog_2_method_4_code (9 : Nat) (Option.none : Option Jvm.ClassFile.FieldType)) ∈ pw_all := pw_in (List.mem_of_getElem? (i := 328) (by decide +kernel)) (by decide +kernel)
theorem W_305 : (Cond.methodLink "PathFinderLaw" (45 : Nat) ({ cls := "PathFinder", name := "ends", desc := "(I)I" } : MethodName)) ∈ pw_all := pw_in (List.mem_of_getElem? (i := 329) (by decide +kernel)) (by decide +kernel)
theorem W_306 : (Cond.instanceMethod ({ cls := "PathFinder", name := "ends", desc := "(I)I" } : MethodName)) ∈ pw_all := pw_in (List.mem_of_getElem? (i := 330) (by decide +kernel)) (by decide +kernel)
theorem W_307 : (Cond.selects "PathFinder" ({ cls := "PathFinder", name := "ends", desc := "(I)I" } : MethodName) ({ cls := "PathFinder", name := "ends", desc := "(I)I" } : MethodName)) ∈ pw_all := pw_in (List.mem_of_getElem? (i := 331) (by decide +kernel)) (by decide +kernel)
theorem W_308 : (Cond.code ({ cls := "PathFinder", name := "ends", desc := "(I)I" } : MethodName) prog_1_method_9_code (2 : Nat) (Option.some FieldType.int)) ∈ pw_all := pw_in (List.mem_of_getElem? (i := 332) (by decide +kernel)) (by decide +kernel)
theorem W_310 : (Cond.methodLink "PathFinder" (86 : Nat) ({ cls := "java/lang/Long", name := "bitCount", desc := "(J)I" } : MethodName)) ∈ pw_all := pw_in (List.mem_of_getElem? (i := 334) (by decide +kernel)) (by decide +kernel)
theorem W_311 : (Cond.static ({ cls := "java/lang/Long", name := "bitCount", desc := "(J)I" } : MethodName)) ∈ pw_all := pw_in (List.mem_of_getElem? (i := 335) (by decide +kernel)) (by decide +kernel)
theorem W_312 : (Cond.code ({ cls := "java/lang/Long", name := "bitCount", desc := "(J)I" } : MethodName) prog_9_method_50_code (2 : Nat) (Option.some FieldType.int)) ∈ pw_all := pw_in (List.mem_of_getElem? (i := 336) (by decide +kernel)) (by decide +kernel)
theorem W_313 : (Cond.constantLong "java/lang/Long" (314 : Nat) (6148914691236517205 : Int64)) ∈ pw_all := pw_in (List.mem_of_getElem? (i := 337) (by decide +kernel)) (by decide +kernel)
theorem W_314 : (Cond.constantLong "java/lang/Long" (316 : Nat) (3689348814741910323 : Int64)) ∈ pw_all := pw_in (List.mem_of_getElem? (i := 338) (by decide +kernel)) (by decide +kernel)
theorem W_315 : (Cond.constantLong "java/lang/Long" (318 : Nat) (1085102592571150095 : Int64)) ∈ pw_all := pw_in (List.mem_of_getElem? (i := 339) (by decide +kernel)) (by decide +kernel)
theorem W_316 : (Cond.methodLink "PathFinderLaw" (49 : Nat) ({ cls := "PathFinder", name := "reached", desc := "(I)J" } : MethodName)) ∈ pw_all := pw_in (List.mem_of_getElem? (i := 340) (by decide +kernel)) (by decide +kernel)
theorem W_317 : (Cond.instanceMethod ({ cls := "PathFinder", name := "reached", desc := "(I)J" } : MethodName)) ∈ pw_all := pw_in (List.mem_of_getElem? (i := 341) (by decide +kernel)) (by decide +kernel)
theorem W_318 : (Cond.selects "PathFinder" ({ cls := "PathFinder", name := "reached", desc := "(I)J" } : MethodName) ({ cls := "PathFinder", name := "reached", desc := "(I)J" } : MethodName)) ∈ pw_all := pw_in (List.mem_of_getElem? (i := 342) (by decide +kernel)) (by decide +kernel)
theorem W_319 : (Cond.code ({ cls := "PathFinder", name := "reached", desc := "(I)J" } : MethodName) prog_1_method_10_code (2 : Nat) (Option.some FieldType.long)) ∈ pw_all := pw_in (List.mem_of_getElem? (i := 343) (by decide +kernel)) (by decide +kernel)
theorem W_320 : (Cond.methodLink "PathFinderLaw" (54 : Nat) ({ cls := "PathFinder", name := "all", desc := "(I)J" } : MethodName)) ∈ pw_all := pw_in (List.mem_of_getElem? (i := 344) (by decide +kernel)) (by decide +kernel)
theorem W_321 : (Cond.instanceMethod ({ cls := "PathFinder", name := "all", desc := "(I)J" } : MethodName)) ∈ pw_all := pw_in (List.mem_of_getElem? (i := 345) (by decide +kernel)) (by decide +kernel)
theorem W_322 : (Cond.selects "PathFinder" ({ cls := "PathFinder", name := "all", desc := "(I)J" } : MethodName) ({ cls := "PathFinder", name := "all", desc := "(I)J" } : MethodName)) ∈ pw_all := pw_in (List.mem_of_getElem? (i := 346) (by decide +kernel)) (by decide +kernel)
theorem W_323 : (Cond.code ({ cls := "PathFinder", name := "all", desc := "(I)J" } : MethodName) prog_1_method_11_code (6 : Nat) (Option.some FieldType.long)) ∈ pw_all := pw_in (List.mem_of_getElem? (i := 347) (by decide +kernel)) (by decide +kernel)
theorem W_324 : (Cond.methodLink "PathFinder" (92 : Nat) ({ cls := "PathFinder", name := "sumOf", desc := "(JJ)J" } : MethodName)) ∈ pw_all := pw_in (List.mem_of_getElem? (i := 348) (by decide +kernel)) (by decide +kernel)
theorem W_325 : (Cond.methodLink "PathFinderLaw" (58 : Nat) ({ cls := "PathFinder", name := "reaching", desc := "(I)J" } : MethodName)) ∈ pw_all := pw_in (List.mem_of_getElem? (i := 349) (by decide +kernel)) (by decide +kernel)
theorem W_326 : (Cond.instanceMethod ({ cls := "PathFinder", name := "reaching", desc := "(I)J" } : MethodName)) ∈ pw_all := pw_in (List.mem_of_getElem? (i := 350) (by decide +kernel)) (by decide +kernel)
theorem W_327 : (Cond.selects "PathFinder" ({ cls := "PathFinder", name := "reaching", desc := "(I)J" } : MethodName) ({ cls := "PathFinder", name := "reaching", desc := "(I)J" } : MethodName)) ∈ pw_all := pw_in (List.mem_of_getElem? (i := 351) (by decide +kernel)) (by decide +kernel)
theorem W_328 : (Cond.code ({ cls := "PathFinder", name := "reaching", desc := "(I)J" } : MethodName) prog_1_method_12_code (6 : Nat) (Option.some FieldType.long)) ∈ pw_all := pw_in (List.mem_of_getElem? (i := 352) (by decide +kernel)) (by decide +kernel)
theorem W_329 : (Cond.methodLink "PathFinder" (96 : Nat) ({ cls := "PathFinder", name := "holds", desc := "(JI)Z" } : MethodName)) ∈ pw_all := pw_in (List.mem_of_getElem? (i := 353) (by decide +kernel)) (by decide +kernel)
theorem W_330 : (Cond.methodLink "PathFinder" (100 : Nat) ({ cls := "PathFinder", name := "bit", desc := "(I)J" } : MethodName)) ∈ pw_all := pw_in (List.mem_of_getElem? (i := 354) (by decide +kernel)) (by decide +kernel)
theorem W_331 : (Cond.methodLink "PathFinderLaw" (62 : Nat) ({ cls := "PathFinder", name := "pairs", desc := "()I" } : MethodName)) ∈ pw_all := pw_in (List.mem_of_getElem? (i := 355) (by decide +kernel)) (by decide +kernel)
theorem W_332 : (Cond.instanceMethod ({ cls := "PathFinder", name := "pairs", desc := "()I" } : MethodName)) ∈ pw_all := pw_in (List.mem_of_getElem? (i := 356) (by decide +kernel)) (by decide +kernel)
theorem W_333 : (Cond.selects "PathFinder" ({ cls := "PathFinder", name := "pairs", desc := "()I" } : MethodName) ({ cls := "PathFinder", name := "pairs", desc := "()I" } : MethodName)) ∈ pw_all := pw_in (List.mem_of_getElem? (i := 357) (by decide +kernel)) (by decide +kernel)
theorem W_334 : (Cond.code ({ cls := "PathFinder", name := "pairs", desc := "()I" } : MethodName) prog_1_method_13_code (4 : Nat) (Option.some FieldType.int)) ∈ pw_all := pw_in (List.mem_of_getElem? (i := 358) (by decide +kernel)) (by decide +kernel)
theorem W_335 : (Cond.classLink "PathFinderLaw" (10 : Nat) "PathFinderModel") ∈ pw_all := pw_in (List.mem_of_getElem? (i := 359) (by decide +kernel)) (by decide +kernel)
theorem W_336 : (Cond.instantiable "PathFinderModel" (10 : Nat)) ∈ pw_all := pw_in (List.mem_of_getElem? (i := 360) (by decide +kernel)) (by decide +kernel)
theorem W_337 : (Cond.methodLink "PathFinderLaw" (12 : Nat) ({ cls := "PathFinderModel", name := "<init>", desc := "()V" } : MethodName)) ∈ pw_all := pw_in (List.mem_of_getElem? (i := 361) (by decide +kernel)) (by decide +kernel)
theorem W_338 : (Cond.instanceMethod ({ cls := "PathFinderModel", name := "<init>", desc := "()V" } : MethodName)) ∈ pw_all := pw_in (List.mem_of_getElem? (i := 362) (by decide +kernel)) (by decide +kernel)
theorem W_339 : (Cond.code ({ cls := "PathFinderModel", name := "<init>", desc := "()V" } : MethodName) prog_7_method_1_code (1 : Nat) (Option.none : Option Jvm.ClassFile.FieldType)) ∈ pw_all := pw_in (List.mem_of_getElem? (i := 363) (by decide +kernel)) (by decide +kernel)
theorem W_340 : (Cond.methodLink "PathFinderModel" (1 : Nat) ({ cls := "java/lang/Object", name := "<init>", desc := "()V" } : MethodName)) ∈ pw_all := pw_in (List.mem_of_getElem? (i := 364) (by decide +kernel)) (by decide +kernel)
theorem W_341 : (Cond.constant "PathFinderModel" (7 : Nat) (32768 : Int32)) ∈ pw_all := pw_in (List.mem_of_getElem? (i := 365) (by decide +kernel)) (by decide +kernel)
theorem W_342 : (Cond.constant "PathFinderModel" (24 : Nat) (61440 : Int32)) ∈ pw_all := pw_in (List.mem_of_getElem? (i := 366) (by decide +kernel)) (by decide +kernel)
theorem W_343 : (Cond.fieldLink "PathFinderModel" (8 : Nat) "PathFinderModel" "there" "[Z") ∈ pw_all := pw_in (List.mem_of_getElem? (i := 367) (by decide +kernel)) (by decide +kernel)
theorem W_344 : (Cond.fieldLink "PathFinderModel" (44 : Nat) "PathFinderModel" "count" "I") ∈ pw_all := pw_in (List.mem_of_getElem? (i := 368) (by decide +kernel)) (by decide +kernel)
theorem W_345 : (Cond.fieldLink "PathFinderModel" (14 : Nat) "PathFinderModel" "words" "[I") ∈ pw_all := pw_in (List.mem_of_getElem? (i := 369) (by decide +kernel)) (by decide +kernel)
theorem W_346 : (Cond.fieldLink "PathFinderModel" (52 : Nat) "PathFinderModel" "size" "I") ∈ pw_all := pw_in (List.mem_of_getElem? (i := 370) (by decide +kernel)) (by decide +kernel)
theorem W_347 : (Cond.fieldLink "PathFinderModel" (18 : Nat) "PathFinderModel" "starts" "[I") ∈ pw_all := pw_in (List.mem_of_getElem? (i := 371) (by decide +kernel)) (by decide +kernel)
theorem W_348 : (Cond.fieldLink "PathFinderModel" (55 : Nat) "PathFinderModel" "parts" "I") ∈ pw_all := pw_in (List.mem_of_getElem? (i := 372) (by decide +kernel)) (by decide +kernel)
theorem W_349 : (Cond.fieldLink "PathFinderModel" (21 : Nat) "PathFinderModel" "lacks" "[I") ∈ pw_all := pw_in (List.mem_of_getElem? (i := 373) (by decide +kernel)) (by decide +kernel)
theorem W_350 : (Cond.fieldLink "PathFinderModel" (25 : Nat) "PathFinderModel" "tables" "[J") ∈ pw_all := pw_in (List.mem_of_getElem? (i := 374) (by decide +kernel)) (by decide +kernel)
theorem W_351 : (Cond.fieldLink "PathFinderModel" (48 : Nat) "PathFinderModel" "reckoned" "Z") ∈ pw_all := pw_in (List.mem_of_getElem? (i := 375) (by decide +kernel)) (by decide +kernel)
theorem W_352 : (Cond.fieldLink "PathFinderModel" (29 : Nat) "PathFinderModel" "spare" "[J") ∈ pw_all := pw_in (List.mem_of_getElem? (i := 376) (by decide +kernel)) (by decide +kernel)
theorem W_353 : (Cond.laysFinal "PathFinderModel" "PathFinderModel" "there" "[Z") ∈ pw_all := pw_in (List.mem_of_getElem? (i := 377) (by decide +kernel)) (by decide +kernel)
theorem W_355 : (Cond.lays "PathFinderModel" "PathFinderModel" "count" "I") ∈ pw_all := pw_in (List.mem_of_getElem? (i := 379) (by decide +kernel)) (by decide +kernel)
theorem W_357 : (Cond.laysFinal "PathFinderModel" "PathFinderModel" "words" "[I") ∈ pw_all := pw_in (List.mem_of_getElem? (i := 381) (by decide +kernel)) (by decide +kernel)
theorem W_359 : (Cond.lays "PathFinderModel" "PathFinderModel" "size" "I") ∈ pw_all := pw_in (List.mem_of_getElem? (i := 383) (by decide +kernel)) (by decide +kernel)
theorem W_361 : (Cond.laysFinal "PathFinderModel" "PathFinderModel" "starts" "[I") ∈ pw_all := pw_in (List.mem_of_getElem? (i := 385) (by decide +kernel)) (by decide +kernel)
theorem W_363 : (Cond.lays "PathFinderModel" "PathFinderModel" "parts" "I") ∈ pw_all := pw_in (List.mem_of_getElem? (i := 387) (by decide +kernel)) (by decide +kernel)
theorem W_365 : (Cond.laysFinal "PathFinderModel" "PathFinderModel" "lacks" "[I") ∈ pw_all := pw_in (List.mem_of_getElem? (i := 389) (by decide +kernel)) (by decide +kernel)
theorem W_367 : (Cond.laysFinal "PathFinderModel" "PathFinderModel" "tables" "[J") ∈ pw_all := pw_in (List.mem_of_getElem? (i := 391) (by decide +kernel)) (by decide +kernel)
theorem W_369 : (Cond.lays "PathFinderModel" "PathFinderModel" "reckoned" "Z") ∈ pw_all := pw_in (List.mem_of_getElem? (i := 393) (by decide +kernel)) (by decide +kernel)
theorem W_371 : (Cond.laysFinal "PathFinderModel" "PathFinderModel" "spare" "[J") ∈ pw_all := pw_in (List.mem_of_getElem? (i := 395) (by decide +kernel)) (by decide +kernel)
theorem W_374 : (Cond.arrayClass FieldType.boolean) ∈ pw_all := pw_in (List.mem_of_getElem? (i := 398) (by decide +kernel)) (by decide +kernel)
theorem W_375 : (Cond.methodLink "PathFinderLaw" (17 : Nat) ({ cls := "PathFinderModel", name := "edge", desc := "(III)I" } : MethodName)) ∈ pw_all := pw_in (List.mem_of_getElem? (i := 399) (by decide +kernel)) (by decide +kernel)
theorem W_376 : (Cond.instanceMethod ({ cls := "PathFinderModel", name := "edge", desc := "(III)I" } : MethodName)) ∈ pw_all := pw_in (List.mem_of_getElem? (i := 400) (by decide +kernel)) (by decide +kernel)
theorem W_377 : (Cond.selects "PathFinderModel" ({ cls := "PathFinderModel", name := "edge", desc := "(III)I" } : MethodName) ({ cls := "PathFinderModel", name := "edge", desc := "(III)I" } : MethodName)) ∈ pw_all := pw_in (List.mem_of_getElem? (i := 401) (by decide +kernel)) (by decide +kernel)
theorem W_378 : (Cond.code ({ cls := "PathFinderModel", name := "edge", desc := "(III)I" } : MethodName) prog_7_method_5_code (4 : Nat) (Option.some FieldType.int)) ∈ pw_all := pw_in (List.mem_of_getElem? (i := 402) (by decide +kernel)) (by decide +kernel)
theorem W_379 : (Cond.methodLink "PathFinderModel" (36 : Nat) ({ cls := "PathFinderModel", name := "isEdge", desc := "(III)Z" } : MethodName)) ∈ pw_all := pw_in (List.mem_of_getElem? (i := 403) (by decide +kernel)) (by decide +kernel)
theorem W_380 : (Cond.static ({ cls := "PathFinderModel", name := "isEdge", desc := "(III)Z" } : MethodName)) ∈ pw_all := pw_in (List.mem_of_getElem? (i := 404) (by decide +kernel)) (by decide +kernel)
theorem W_381 : (Cond.code ({ cls := "PathFinderModel", name := "isEdge", desc := "(III)Z" } : MethodName) prog_7_method_3_code (3 : Nat) (Option.some FieldType.boolean)) ∈ pw_all := pw_in (List.mem_of_getElem? (i := 405) (by decide +kernel)) (by decide +kernel)
theorem W_382 : (Cond.methodLink "PathFinderModel" (32 : Nat) ({ cls := "PathFinderModel", name := "isPoint", desc := "(I)Z" } : MethodName)) ∈ pw_all := pw_in (List.mem_of_getElem? (i := 406) (by decide +kernel)) (by decide +kernel)
theorem W_383 : (Cond.static ({ cls := "PathFinderModel", name := "isPoint", desc := "(I)Z" } : MethodName)) ∈ pw_all := pw_in (List.mem_of_getElem? (i := 407) (by decide +kernel)) (by decide +kernel)
theorem W_384 : (Cond.code ({ cls := "PathFinderModel", name := "isPoint", desc := "(I)Z" } : MethodName) prog_7_method_2_code (1 : Nat) (Option.some FieldType.boolean)) ∈ pw_all := pw_in (List.mem_of_getElem? (i := 408) (by decide +kernel)) (by decide +kernel)
theorem W_385 : (Cond.methodLink "PathFinderModel" (40 : Nat) ({ cls := "PathFinderModel", name := "place", desc := "(III)I" } : MethodName)) ∈ pw_all := pw_in (List.mem_of_getElem? (i := 409) (by decide +kernel)) (by decide +kernel)
theorem W_386 : (Cond.static ({ cls := "PathFinderModel", name := "place", desc := "(III)I" } : MethodName)) ∈ pw_all := pw_in (List.mem_of_getElem? (i := 410) (by decide +kernel)) (by decide +kernel)
theorem W_387 : (Cond.code ({ cls := "PathFinderModel", name := "place", desc := "(III)I" } : MethodName) prog_7_method_4_code (3 : Nat) (Option.some FieldType.int)) ∈ pw_all := pw_in (List.mem_of_getElem? (i := 411) (by decide +kernel)) (by decide +kernel)
theorem W_388 : (Cond.methodLink "PathFinderLaw" (21 : Nat) ({ cls := "PathFinderModel", name := "drop", desc := "(III)I" } : MethodName)) ∈ pw_all := pw_in (List.mem_of_getElem? (i := 412) (by decide +kernel)) (by decide +kernel)
theorem W_389 : (Cond.instanceMethod ({ cls := "PathFinderModel", name := "drop", desc := "(III)I" } : MethodName)) ∈ pw_all := pw_in (List.mem_of_getElem? (i := 413) (by decide +kernel)) (by decide +kernel)
theorem W_390 : (Cond.selects "PathFinderModel" ({ cls := "PathFinderModel", name := "drop", desc := "(III)I" } : MethodName) ({ cls := "PathFinderModel", name := "drop", desc := "(III)I" } : MethodName)) ∈ pw_all := pw_in (List.mem_of_getElem? (i := 414) (by decide +kernel)) (by decide +kernel)
theorem W_391 : (Cond.code ({ cls := "PathFinderModel", name := "drop", desc := "(III)I" } : MethodName) prog_7_method_6_code (4 : Nat) (Option.some FieldType.int)) ∈ pw_all := pw_in (List.mem_of_getElem? (i := 415) (by decide +kernel)) (by decide +kernel)
theorem W_392 : (Cond.methodLink "PathFinderLaw" (26 : Nat) ({ cls := "PathFinderModel", name := "edges", desc := "()I" } : MethodName)) ∈ pw_all := pw_in (List.mem_of_getElem? (i := 416) (by decide +kernel)) (by decide +kernel)
theorem W_393 : (Cond.instanceMethod ({ cls := "PathFinderModel", name := "edges", desc := "()I" } : MethodName)) ∈ pw_all := pw_in (List.mem_of_getElem? (i := 417) (by decide +kernel)) (by decide +kernel)
theorem W_394 : (Cond.selects "PathFinderModel" ({ cls := "PathFinderModel", name := "edges", desc := "()I" } : MethodName) ({ cls := "PathFinderModel", name := "edges", desc := "()I" } : MethodName)) ∈ pw_all := pw_in (List.mem_of_getElem? (i := 418) (by decide +kernel)) (by decide +kernel)
theorem W_395 : (Cond.code ({ cls := "PathFinderModel", name := "edges", desc := "()I" } : MethodName) prog_7_method_7_code (1 : Nat) (Option.some FieldType.int)) ∈ pw_all := pw_in (List.mem_of_getElem? (i := 419) (by decide +kernel)) (by decide +kernel)
theorem W_396 : (Cond.methodLink "PathFinderLaw" (31 : Nat) ({ cls := "PathFinderModel", name := "word", desc := "(I)I" } : MethodName)) ∈ pw_all := pw_in (List.mem_of_getElem? (i := 420) (by decide +kernel)) (by decide +kernel)
theorem W_397 : (Cond.instanceMethod ({ cls := "PathFinderModel", name := "word", desc := "(I)I" } : MethodName)) ∈ pw_all := pw_in (List.mem_of_getElem? (i := 421) (by decide +kernel)) (by decide +kernel)
theorem W_398 : (Cond.selects "PathFinderModel" ({ cls := "PathFinderModel", name := "word", desc := "(I)I" } : MethodName) ({ cls := "PathFinderModel", name := "word", desc := "(I)I" } : MethodName)) ∈ pw_all := pw_in (List.mem_of_getElem? (i := 422) (by decide +kernel)) (by decide +kernel)
theorem W_399 : (Cond.code ({ cls := "PathFinderModel", name := "word", desc := "(I)I" } : MethodName) prog_7_method_8_code (2 : Nat) (Option.some FieldType.int)) ∈ pw_all := pw_in (List.mem_of_getElem? (i := 423) (by decide +kernel)) (by decide +kernel)
theorem W_400 : (Cond.methodLink "PathFinderLaw" (35 : Nat) ({ cls := "PathFinderModel", name := "clear", desc := "()I" } : MethodName)) ∈ pw_all := pw_in (List.mem_of_getElem? (i := 424) (by decide +kernel)) (by decide +kernel)
theorem W_401 : (Cond.instanceMethod ({ cls := "PathFinderModel", name := "clear", desc := "()I" } : MethodName)) ∈ pw_all := pw_in (List.mem_of_getElem? (i := 425) (by decide +kernel)) (by decide +kernel)
theorem W_402 : (Cond.selects "PathFinderModel" ({ cls := "PathFinderModel", name := "clear", desc := "()I" } : MethodName) ({ cls := "PathFinderModel", name := "clear", desc := "()I" } : MethodName)) ∈ pw_all := pw_in (List.mem_of_getElem? (i := 426) (by decide +kernel)) (by decide +kernel)
theorem W_403 : (Cond.code ({ cls := "PathFinderModel", name := "clear", desc := "()I" } : MethodName) prog_7_method_9_code (2 : Nat) (Option.some FieldType.int)) ∈ pw_all := pw_in (List.mem_of_getElem? (i := 427) (by decide +kernel)) (by decide +kernel)
theorem W_404 : (Cond.methodLink "PathFinderLaw" (39 : Nat) ({ cls := "PathFinderModel", name := "look", desc := "()I" } : MethodName)) ∈ pw_all := pw_in (List.mem_of_getElem? (i := 428) (by decide +kernel)) (by decide +kernel)
theorem W_405 : (Cond.instanceMethod ({ cls := "PathFinderModel", name := "look", desc := "()I" } : MethodName)) ∈ pw_all := pw_in (List.mem_of_getElem? (i := 429) (by decide +kernel)) (by decide +kernel)
theorem W_406 : (Cond.selects "PathFinderModel" ({ cls := "PathFinderModel", name := "look", desc := "()I" } : MethodName) ({ cls := "PathFinderModel", name := "look", desc := "()I" } : MethodName)) ∈ pw_all := pw_in (List.mem_of_getElem? (i := 430) (by decide +kernel)) (by decide +kernel)
theorem W_407 : (Cond.code ({ cls := "PathFinderModel", name := "look", desc := "()I" } : MethodName) prog_7_method_11_code (4 : Nat) (Option.some FieldType.int)) ∈ pw_all := pw_in (List.mem_of_getElem? (i := 431) (by decide +kernel)) (by decide +kernel)
theorem W_408 : (Cond.methodLink "PathFinderModel" (58 : Nat) ({ cls := "PathFinderModel", name := "children", desc := "(I)I" } : MethodName)) ∈ pw_all := pw_in (List.mem_of_getElem? (i := 432) (by decide +kernel)) (by decide +kernel)
theorem W_409 : (Cond.static ({ cls := "PathFinderModel", name := "children", desc := "(I)I" } : MethodName)) ∈ pw_all := pw_in (List.mem_of_getElem? (i := 433) (by decide +kernel)) (by decide +kernel)
theorem W_410 : (Cond.code ({ cls := "PathFinderModel", name := "children", desc := "(I)I" } : MethodName) prog_7_method_10_code (1 : Nat) (Option.some FieldType.int)) ∈ pw_all := pw_in (List.mem_of_getElem? (i := 434) (by decide +kernel)) (by decide +kernel)
theorem W_411 : (Cond.methodLink "PathFinderLaw" (44 : Nat) ({ cls := "PathFinderModel", name := "times", desc := "(II)J" } : MethodName)) ∈ pw_all := pw_in (List.mem_of_getElem? (i := 435) (by decide +kernel)) (by decide +kernel)
theorem W_412 : (Cond.instanceMethod ({ cls := "PathFinderModel", name := "times", desc := "(II)J" } : MethodName)) ∈ pw_all := pw_in (List.mem_of_getElem? (i := 436) (by decide +kernel)) (by decide +kernel)
theorem W_413 : (Cond.selects "PathFinderModel" ({ cls := "PathFinderModel", name := "times", desc := "(II)J" } : MethodName) ({ cls := "PathFinderModel", name := "times", desc := "(II)J" } : MethodName)) ∈ pw_all := pw_in (List.mem_of_getElem? (i := 437) (by decide +kernel)) (by decide +kernel)
theorem W_414 : (Cond.code ({ cls := "PathFinderModel", name := "times", desc := "(II)J" } : MethodName) prog_7_method_21_code (3 : Nat) (Option.some FieldType.long)) ∈ pw_all := pw_in (List.mem_of_getElem? (i := 438) (by decide +kernel)) (by decide +kernel)
theorem W_415 : (Cond.constantLong "PathFinderModel" (97 : Nat) (-1 : Int64)) ∈ pw_all := pw_in (List.mem_of_getElem? (i := 439) (by decide +kernel)) (by decide +kernel)
theorem W_416 : (Cond.methodLink "PathFinderModel" (99 : Nat) ({ cls := "PathFinderModel", name := "reckon", desc := "()Z" } : MethodName)) ∈ pw_all := pw_in (List.mem_of_getElem? (i := 440) (by decide +kernel)) (by decide +kernel)
theorem W_418 : (Cond.instanceMethod ({ cls := "PathFinderModel", name := "reckon", desc := "()Z" } : MethodName)) ∈ pw_all := pw_in (List.mem_of_getElem? (i := 442) (by decide +kernel)) (by decide +kernel)
theorem W_419 : (Cond.code ({ cls := "PathFinderModel", name := "reckon", desc := "()Z" } : MethodName) prog_7_method_19_code (6 : Nat) (Option.some FieldType.boolean)) ∈ pw_all := pw_in (List.mem_of_getElem? (i := 443) (by decide +kernel)) (by decide +kernel)
theorem W_420 : (Cond.methodLink "PathFinderModel" (76 : Nat) ({ cls := "PathFinderModel", name := "look", desc := "()I" } : MethodName)) ∈ pw_all := pw_in (List.mem_of_getElem? (i := 444) (by decide +kernel)) (by decide +kernel)
theorem W_421 : (Cond.methodLink "PathFinderModel" (80 : Nat) ({ cls := "PathFinderModel", name := "edgesOf", desc := "(II)V" } : MethodName)) ∈ pw_all := pw_in (List.mem_of_getElem? (i := 445) (by decide +kernel)) (by decide +kernel)
theorem W_423 : (Cond.instanceMethod ({ cls := "PathFinderModel", name := "edgesOf", desc := "(II)V" } : MethodName)) ∈ pw_all := pw_in (List.mem_of_getElem? (i := 447) (by decide +kernel)) (by decide +kernel)
theorem W_424 : (Cond.code ({ cls := "PathFinderModel", name := "edgesOf", desc := "(II)V" } : MethodName) prog_7_method_14_code (7 : Nat) (Option.none : Option Jvm.ClassFile.FieldType)) ∈ pw_all := pw_in (List.mem_of_getElem? (i := 448) (by decide +kernel)) (by decide +kernel)
theorem W_425 : (Cond.methodLink "PathFinderModel" (84 : Nat) ({ cls := "PathFinderModel", name := "turn", desc := "(I)V" } : MethodName)) ∈ pw_all := pw_in (List.mem_of_getElem? (i := 449) (by decide +kernel)) (by decide +kernel)
theorem W_427 : (Cond.instanceMethod ({ cls := "PathFinderModel", name := "turn", desc := "(I)V" } : MethodName)) ∈ pw_all := pw_in (List.mem_of_getElem? (i := 451) (by decide +kernel)) (by decide +kernel)
theorem W_428 : (Cond.code ({ cls := "PathFinderModel", name := "turn", desc := "(I)V" } : MethodName) prog_7_method_15_code (6 : Nat) (Option.none : Option Jvm.ClassFile.FieldType)) ∈ pw_all := pw_in (List.mem_of_getElem? (i := 452) (by decide +kernel)) (by decide +kernel)
theorem W_429 : (Cond.methodLink "PathFinderModel" (88 : Nat) ({ cls := "PathFinderModel", name := "chain", desc := "(II)V" } : MethodName)) ∈ pw_all := pw_in (List.mem_of_getElem? (i := 453) (by decide +kernel)) (by decide +kernel)
theorem W_431 : (Cond.instanceMethod ({ cls := "PathFinderModel", name := "chain", desc := "(II)V" } : MethodName)) ∈ pw_all := pw_in (List.mem_of_getElem? (i := 455) (by decide +kernel)) (by decide +kernel)
theorem W_432 : (Cond.code ({ cls := "PathFinderModel", name := "chain", desc := "(II)V" } : MethodName) prog_7_method_16_code (9 : Nat) (Option.none : Option Jvm.ClassFile.FieldType)) ∈ pw_all := pw_in (List.mem_of_getElem? (i := 456) (by decide +kernel)) (by decide +kernel)
theorem W_433 : (Cond.methodLink "PathFinderModel" (64 : Nat) ({ cls := "PathFinderModel", name := "product", desc := "(JJ)J" } : MethodName)) ∈ pw_all := pw_in (List.mem_of_getElem? (i := 457) (by decide +kernel)) (by decide +kernel)
theorem W_434 : (Cond.static ({ cls := "PathFinderModel", name := "product", desc := "(JJ)J" } : MethodName)) ∈ pw_all := pw_in (List.mem_of_getElem? (i := 458) (by decide +kernel)) (by decide +kernel)
theorem W_435 : (Cond.code ({ cls := "PathFinderModel", name := "product", desc := "(JJ)J" } : MethodName) prog_7_method_13_code (4 : Nat) (Option.some FieldType.long)) ∈ pw_all := pw_in (List.mem_of_getElem? (i := 459) (by decide +kernel)) (by decide +kernel)
theorem W_436 : (Cond.constantLong "PathFinderModel" (62 : Nat) (1000000000000000 : Int64)) ∈ pw_all := pw_in (List.mem_of_getElem? (i := 460) (by decide +kernel)) (by decide +kernel)
theorem W_437 : (Cond.methodLink "PathFinderModel" (68 : Nat) ({ cls := "PathFinderModel", name := "least", desc := "(J)J" } : MethodName)) ∈ pw_all := pw_in (List.mem_of_getElem? (i := 461) (by decide +kernel)) (by decide +kernel)
theorem W_438 : (Cond.static ({ cls := "PathFinderModel", name := "least", desc := "(J)J" } : MethodName)) ∈ pw_all := pw_in (List.mem_of_getElem? (i := 462) (by decide +kernel)) (by decide +kernel)
theorem W_439 : (Cond.code ({ cls := "PathFinderModel", name := "least", desc := "(J)J" } : MethodName) prog_7_method_12_code (2 : Nat) (Option.some FieldType.long)) ∈ pw_all := pw_in (List.mem_of_getElem? (i := 463) (by decide +kernel)) (by decide +kernel)
theorem W_440 : (Cond.methodLink "PathFinderModel" (91 : Nat) ({ cls := "PathFinderModel", name := "fall", desc := "(I)V" } : MethodName)) ∈ pw_all := pw_in (List.mem_of_getElem? (i := 464) (by decide +kernel)) (by decide +kernel)
theorem W_442 : (Cond.instanceMethod ({ cls := "PathFinderModel", name := "fall", desc := "(I)V" } : MethodName)) ∈ pw_all := pw_in (List.mem_of_getElem? (i := 466) (by decide +kernel)) (by decide +kernel)
theorem W_443 : (Cond.code ({ cls := "PathFinderModel", name := "fall", desc := "(I)V" } : MethodName) prog_7_method_20_code (3 : Nat) (Option.none : Option Jvm.ClassFile.FieldType)) ∈ pw_all := pw_in (List.mem_of_getElem? (i := 467) (by decide +kernel)) (by decide +kernel)
theorem W_444 : (Cond.methodLink "PathFinderModel" (72 : Nat) ({ cls := "PathFinderModel", name := "mark", desc := "(IZ)V" } : MethodName)) ∈ pw_all := pw_in (List.mem_of_getElem? (i := 468) (by decide +kernel)) (by decide +kernel)
theorem W_446 : (Cond.instanceMethod ({ cls := "PathFinderModel", name := "mark", desc := "(IZ)V" } : MethodName)) ∈ pw_all := pw_in (List.mem_of_getElem? (i := 470) (by decide +kernel)) (by decide +kernel)
theorem W_447 : (Cond.code ({ cls := "PathFinderModel", name := "mark", desc := "(IZ)V" } : MethodName) prog_7_method_17_code (5 : Nat) (Option.none : Option Jvm.ClassFile.FieldType)) ∈ pw_all := pw_in (List.mem_of_getElem? (i := 471) (by decide +kernel)) (by decide +kernel)
theorem W_448 : (Cond.methodLink "PathFinderModel" (94 : Nat) ({ cls := "PathFinderModel", name := "close", desc := "(IZ)V" } : MethodName)) ∈ pw_all := pw_in (List.mem_of_getElem? (i := 472) (by decide +kernel)) (by decide +kernel)
theorem W_450 : (Cond.instanceMethod ({ cls := "PathFinderModel", name := "close", desc := "(IZ)V" } : MethodName)) ∈ pw_all := pw_in (List.mem_of_getElem? (i := 474) (by decide +kernel)) (by decide +kernel)
theorem W_451 : (Cond.code ({ cls := "PathFinderModel", name := "close", desc := "(IZ)V" } : MethodName) prog_7_method_18_code (6 : Nat) (Option.none : Option Jvm.ClassFile.FieldType)) ∈ pw_all := pw_in (List.mem_of_getElem? (i := 475) (by decide +kernel)) (by decide +kernel)
theorem W_452 : (Cond.constantLong "PathFinderModel" (103 : Nat) (-2 : Int64)) ∈ pw_all := pw_in (List.mem_of_getElem? (i := 476) (by decide +kernel)) (by decide +kernel)
theorem W_453 : (Cond.methodLink "PathFinderLaw" (48 : Nat) ({ cls := "PathFinderModel", name := "ends", desc := "(I)I" } : MethodName)) ∈ pw_all := pw_in (List.mem_of_getElem? (i := 477) (by decide +kernel)) (by decide +kernel)
theorem W_454 : (Cond.instanceMethod ({ cls := "PathFinderModel", name := "ends", desc := "(I)I" } : MethodName)) ∈ pw_all := pw_in (List.mem_of_getElem? (i := 478) (by decide +kernel)) (by decide +kernel)
theorem W_455 : (Cond.selects "PathFinderModel" ({ cls := "PathFinderModel", name := "ends", desc := "(I)I" } : MethodName) ({ cls := "PathFinderModel", name := "ends", desc := "(I)I" } : MethodName)) ∈ pw_all := pw_in (List.mem_of_getElem? (i := 479) (by decide +kernel)) (by decide +kernel)
theorem W_456 : (Cond.code ({ cls := "PathFinderModel", name := "ends", desc := "(I)I" } : MethodName) prog_7_method_22_code (4 : Nat) (Option.some FieldType.int)) ∈ pw_all := pw_in (List.mem_of_getElem? (i := 480) (by decide +kernel)) (by decide +kernel)
theorem W_457 : (Cond.methodLink "PathFinderLaw" (53 : Nat) ({ cls := "PathFinderModel", name := "reached", desc := "(I)J" } : MethodName)) ∈ pw_all := pw_in (List.mem_of_getElem? (i := 481) (by decide +kernel)) (by decide +kernel)
theorem W_458 : (Cond.instanceMethod ({ cls := "PathFinderModel", name := "reached", desc := "(I)J" } : MethodName)) ∈ pw_all := pw_in (List.mem_of_getElem? (i := 482) (by decide +kernel)) (by decide +kernel)
theorem W_459 : (Cond.selects "PathFinderModel" ({ cls := "PathFinderModel", name := "reached", desc := "(I)J" } : MethodName) ({ cls := "PathFinderModel", name := "reached", desc := "(I)J" } : MethodName)) ∈ pw_all := pw_in (List.mem_of_getElem? (i := 483) (by decide +kernel)) (by decide +kernel)
theorem W_460 : (Cond.code ({ cls := "PathFinderModel", name := "reached", desc := "(I)J" } : MethodName) prog_7_method_23_code (5 : Nat) (Option.some FieldType.long)) ∈ pw_all := pw_in (List.mem_of_getElem? (i := 484) (by decide +kernel)) (by decide +kernel)
theorem W_461 : (Cond.methodLink "PathFinderLaw" (57 : Nat) ({ cls := "PathFinderModel", name := "all", desc := "(I)J" } : MethodName)) ∈ pw_all := pw_in (List.mem_of_getElem? (i := 485) (by decide +kernel)) (by decide +kernel)
theorem W_462 : (Cond.instanceMethod ({ cls := "PathFinderModel", name := "all", desc := "(I)J" } : MethodName)) ∈ pw_all := pw_in (List.mem_of_getElem? (i := 486) (by decide +kernel)) (by decide +kernel)
theorem W_463 : (Cond.selects "PathFinderModel" ({ cls := "PathFinderModel", name := "all", desc := "(I)J" } : MethodName) ({ cls := "PathFinderModel", name := "all", desc := "(I)J" } : MethodName)) ∈ pw_all := pw_in (List.mem_of_getElem? (i := 487) (by decide +kernel)) (by decide +kernel)
theorem W_464 : (Cond.code ({ cls := "PathFinderModel", name := "all", desc := "(I)J" } : MethodName) prog_7_method_24_code (5 : Nat) (Option.some FieldType.long)) ∈ pw_all := pw_in (List.mem_of_getElem? (i := 488) (by decide +kernel)) (by decide +kernel)
theorem W_465 : (Cond.methodLink "PathFinderLaw" (61 : Nat) ({ cls := "PathFinderModel", name := "reaching", desc := "(I)J" } : MethodName)) ∈ pw_all := pw_in (List.mem_of_getElem? (i := 489) (by decide +kernel)) (by decide +kernel)
theorem W_466 : (Cond.instanceMethod ({ cls := "PathFinderModel", name := "reaching", desc := "(I)J" } : MethodName)) ∈ pw_all := pw_in (List.mem_of_getElem? (i := 490) (by decide +kernel)) (by decide +kernel)
theorem W_467 : (Cond.selects "PathFinderModel" ({ cls := "PathFinderModel", name := "reaching", desc := "(I)J" } : MethodName) ({ cls := "PathFinderModel", name := "reaching", desc := "(I)J" } : MethodName)) ∈ pw_all := pw_in (List.mem_of_getElem? (i := 491) (by decide +kernel)) (by decide +kernel)
theorem W_468 : (Cond.code ({ cls := "PathFinderModel", name := "reaching", desc := "(I)J" } : MethodName) prog_7_method_25_code (5 : Nat) (Option.some FieldType.long)) ∈ pw_all := pw_in (List.mem_of_getElem? (i := 492) (by decide +kernel)) (by decide +kernel)
theorem W_469 : (Cond.methodLink "PathFinderLaw" (65 : Nat) ({ cls := "PathFinderModel", name := "pairs", desc := "()I" } : MethodName)) ∈ pw_all := pw_in (List.mem_of_getElem? (i := 493) (by decide +kernel)) (by decide +kernel)
theorem W_470 : (Cond.instanceMethod ({ cls := "PathFinderModel", name := "pairs", desc := "()I" } : MethodName)) ∈ pw_all := pw_in (List.mem_of_getElem? (i := 494) (by decide +kernel)) (by decide +kernel)
theorem W_471 : (Cond.selects "PathFinderModel" ({ cls := "PathFinderModel", name := "pairs", desc := "()I" } : MethodName) ({ cls := "PathFinderModel", name := "pairs", desc := "()I" } : MethodName)) ∈ pw_all := pw_in (List.mem_of_getElem? (i := 495) (by decide +kernel)) (by decide +kernel)
theorem W_472 : (Cond.code ({ cls := "PathFinderModel", name := "pairs", desc := "()I" } : MethodName) prog_7_method_26_code (3 : Nat) (Option.some FieldType.int)) ∈ pw_all := pw_in (List.mem_of_getElem? (i := 496) (by decide +kernel)) (by decide +kernel)
theorem V_0 : Cond.selects (⟨"PathFinder$Graph", "put", "(III)I"⟩ : MethodName).cls ⟨"PathFinder$Graph", "put", "(III)I"⟩ ⟨"PathFinder$Graph", "put", "(III)I"⟩ ∈ pw_all := pw_in (List.mem_of_getElem? (i := 0) (by decide +kernel)) (by decide +kernel)
theorem V_1 : Cond.selects (⟨"PathFinder", "forget", "()V"⟩ : MethodName).cls ⟨"PathFinder", "forget", "()V"⟩ ⟨"PathFinder", "forget", "()V"⟩ ∈ pw_all := pw_in (List.mem_of_getElem? (i := 1) (by decide +kernel)) (by decide +kernel)
theorem V_2 : Cond.selects (⟨"PathFinder$Graph", "remove", "(III)I"⟩ : MethodName).cls ⟨"PathFinder$Graph", "remove", "(III)I"⟩ ⟨"PathFinder$Graph", "remove", "(III)I"⟩ ∈ pw_all := pw_in (List.mem_of_getElem? (i := 2) (by decide +kernel)) (by decide +kernel)
theorem V_3 : Cond.selects (⟨"PathFinder$Path", "append", "(I)I"⟩ : MethodName).cls ⟨"PathFinder$Path", "append", "(I)I"⟩ ⟨"PathFinder$Path", "append", "(I)I"⟩ ∈ pw_all := pw_in (List.mem_of_getElem? (i := 3) (by decide +kernel)) (by decide +kernel)
theorem V_4 : Cond.selects (⟨"PathFinder$Path", "readWords", "()V"⟩ : MethodName).cls ⟨"PathFinder$Path", "readWords", "()V"⟩ ⟨"PathFinder$Path", "readWords", "()V"⟩ ∈ pw_all := pw_in (List.mem_of_getElem? (i := 4) (by decide +kernel)) (by decide +kernel)
theorem V_5 : Cond.selects (⟨"PathFinder$Path", "readPart", "(II)I"⟩ : MethodName).cls ⟨"PathFinder$Path", "readPart", "(II)I"⟩ ⟨"PathFinder$Path", "readPart", "(II)I"⟩ ∈ pw_all := pw_in (List.mem_of_getElem? (i := 5) (by decide +kernel)) (by decide +kernel)
theorem V_6 : Cond.selects (⟨"PathFinder$Path", "isWithin", "(III)Z"⟩ : MethodName).cls ⟨"PathFinder$Path", "isWithin", "(III)Z"⟩ ⟨"PathFinder$Path", "isWithin", "(III)Z"⟩ ∈ pw_all := pw_in (List.mem_of_getElem? (i := 6) (by decide +kernel)) (by decide +kernel)
theorem V_7 : Cond.selects (⟨"PathFinder$Path", "readLabels", "(II)I"⟩ : MethodName).cls ⟨"PathFinder$Path", "readLabels", "(II)I"⟩ ⟨"PathFinder$Path", "readLabels", "(II)I"⟩ ∈ pw_all := pw_in (List.mem_of_getElem? (i := 7) (by decide +kernel)) (by decide +kernel)
theorem V_8 : Cond.selects (⟨"PathFinder$Path", "empty", "()I"⟩ : MethodName).cls ⟨"PathFinder$Path", "empty", "()I"⟩ ⟨"PathFinder$Path", "empty", "()I"⟩ ∈ pw_all := pw_in (List.mem_of_getElem? (i := 8) (by decide +kernel)) (by decide +kernel)
theorem V_9 : Cond.selects (⟨"PathFinder$Path", "isJust", "()Z"⟩ : MethodName).cls ⟨"PathFinder$Path", "isJust", "()Z"⟩ ⟨"PathFinder$Path", "isJust", "()Z"⟩ ∈ pw_all := pw_in (List.mem_of_getElem? (i := 9) (by decide +kernel)) (by decide +kernel)
theorem V_10 : Cond.selects (⟨"PathFinder$Counts", "from", "(I)[J"⟩ : MethodName).cls ⟨"PathFinder$Counts", "from", "(I)[J"⟩ ⟨"PathFinder$Counts", "from", "(I)[J"⟩ ∈ pw_all := pw_in (List.mem_of_getElem? (i := 10) (by decide +kernel)) (by decide +kernel)
theorem V_11 : Cond.selects (⟨"PathFinder$Relations", "ofPath", "()[J"⟩ : MethodName).cls ⟨"PathFinder$Relations", "ofPath", "()[J"⟩ ⟨"PathFinder$Relations", "ofPath", "()[J"⟩ ∈ pw_all := pw_in (List.mem_of_getElem? (i := 11) (by decide +kernel)) (by decide +kernel)
theorem V_12 : Cond.selects (⟨"PathFinder$Relations", "fill", "(I)V"⟩ : MethodName).cls ⟨"PathFinder$Relations", "fill", "(I)V"⟩ ⟨"PathFinder$Relations", "fill", "(I)V"⟩ ∈ pw_all := pw_in (List.mem_of_getElem? (i := 12) (by decide +kernel)) (by decide +kernel)
theorem V_13 : Cond.selects (⟨"PathFinder$Relations", "addEdges", "([JI)V"⟩ : MethodName).cls ⟨"PathFinder$Relations", "addEdges", "([JI)V"⟩ ⟨"PathFinder$Relations", "addEdges", "([JI)V"⟩ ∈ pw_all := pw_in (List.mem_of_getElem? (i := 13) (by decide +kernel)) (by decide +kernel)
theorem V_14 : Cond.selects (⟨"PathFinder$Counts", "carry", "(IZI[J[J)V"⟩ : MethodName).cls ⟨"PathFinder$Counts", "carry", "(IZI[J[J)V"⟩ ⟨"PathFinder$Counts", "carry", "(IZI[J[J)V"⟩ ∈ pw_all := pw_in (List.mem_of_getElem? (i := 14) (by decide +kernel)) (by decide +kernel)
theorem V_15 : Cond.selects (⟨"PathFinder$Counts", "carryOverEdges", "(IZ[J[J)V"⟩ : MethodName).cls ⟨"PathFinder$Counts", "carryOverEdges", "(IZ[J[J)V"⟩ ⟨"PathFinder$Counts", "carryOverEdges", "(IZ[J[J)V"⟩ ∈ pw_all := pw_in (List.mem_of_getElem? (i := 15) (by decide +kernel)) (by decide +kernel)
theorem V_16 : Cond.selects (⟨"PathFinder$Counts", "carryOverBoth", "(IZI[J[J)V"⟩ : MethodName).cls ⟨"PathFinder$Counts", "carryOverBoth", "(IZI[J[J)V"⟩ ⟨"PathFinder$Counts", "carryOverBoth", "(IZI[J[J)V"⟩ ∈ pw_all := pw_in (List.mem_of_getElem? (i := 16) (by decide +kernel)) (by decide +kernel)
theorem V_17 : Cond.selects (⟨"PathFinderModel", "reckon", "()Z"⟩ : MethodName).cls ⟨"PathFinderModel", "reckon", "()Z"⟩ ⟨"PathFinderModel", "reckon", "()Z"⟩ ∈ pw_all := pw_in (List.mem_of_getElem? (i := 17) (by decide +kernel)) (by decide +kernel)
theorem V_18 : Cond.selects (⟨"PathFinderModel", "edgesOf", "(II)V"⟩ : MethodName).cls ⟨"PathFinderModel", "edgesOf", "(II)V"⟩ ⟨"PathFinderModel", "edgesOf", "(II)V"⟩ ∈ pw_all := pw_in (List.mem_of_getElem? (i := 18) (by decide +kernel)) (by decide +kernel)
theorem V_19 : Cond.selects (⟨"PathFinderModel", "turn", "(I)V"⟩ : MethodName).cls ⟨"PathFinderModel", "turn", "(I)V"⟩ ⟨"PathFinderModel", "turn", "(I)V"⟩ ∈ pw_all := pw_in (List.mem_of_getElem? (i := 19) (by decide +kernel)) (by decide +kernel)
theorem V_20 : Cond.selects (⟨"PathFinderModel", "chain", "(II)V"⟩ : MethodName).cls ⟨"PathFinderModel", "chain", "(II)V"⟩ ⟨"PathFinderModel", "chain", "(II)V"⟩ ∈ pw_all := pw_in (List.mem_of_getElem? (i := 20) (by decide +kernel)) (by decide +kernel)
theorem V_21 : Cond.selects (⟨"PathFinderModel", "fall", "(I)V"⟩ : MethodName).cls ⟨"PathFinderModel", "fall", "(I)V"⟩ ⟨"PathFinderModel", "fall", "(I)V"⟩ ∈ pw_all := pw_in (List.mem_of_getElem? (i := 21) (by decide +kernel)) (by decide +kernel)
theorem V_22 : Cond.selects (⟨"PathFinderModel", "mark", "(IZ)V"⟩ : MethodName).cls ⟨"PathFinderModel", "mark", "(IZ)V"⟩ ⟨"PathFinderModel", "mark", "(IZ)V"⟩ ∈ pw_all := pw_in (List.mem_of_getElem? (i := 22) (by decide +kernel)) (by decide +kernel)
theorem V_23 : Cond.selects (⟨"PathFinderModel", "close", "(IZ)V"⟩ : MethodName).cls ⟨"PathFinderModel", "close", "(IZ)V"⟩ ⟨"PathFinderModel", "close", "(IZ)V"⟩ ∈ pw_all := pw_in (List.mem_of_getElem? (i := 23) (by decide +kernel)) (by decide +kernel)
def pw_nw : List Cond := [(Cond.methodLinkNest "PathFinder" (9 : Nat) ({ cls := "PathFinder$Graph", name := "<init>", desc := "()V" } : MethodName) "PathFinder"), (Cond.fieldLinkNest "PathFinder$Relations" (83 : Nat) "PathFinder$Graph" "targets" "[[J" "PathFinder"), (Cond.fieldLinkNest "PathFinder$Counts" (92 : Nat) "PathFinder$Graph" "targets" "[[J" "PathFinder"), (Cond.fieldLinkNest "PathFinder" (51 : Nat) "PathFinder$Graph" "size" "I" "PathFinder"), (Cond.methodLinkNest "PathFinder" (18 : Nat) ({ cls := "PathFinder$Path", name := "<init>", desc := "()V" } : MethodName) "PathFinder"), (Cond.fieldLinkNest "PathFinder$Relations" (43 : Nat) "PathFinder$Path" "kinds" "[I" "PathFinder"), (Cond.fieldLinkNest "PathFinder$Counts" (64 : Nat) "PathFinder$Path" "kinds" "[I" "PathFinder"), (Cond.fieldLinkNest "PathFinder$Relations" (50 : Nat) "PathFinder$Path" "labelSets" "[I" "PathFinder"), (Cond.fieldLinkNest "PathFinder$Counts" (68 : Nat) "PathFinder$Path" "labelSets" "[I" "PathFinder"), (Cond.fieldLinkNest "PathFinder$Relations" (47 : Nat) "PathFinder$Path" "seconds" "[I" "PathFinder"), (Cond.fieldLinkNest "PathFinder$Counts" (78 : Nat) "PathFinder$Path" "seconds" "[I" "PathFinder"), (Cond.fieldLinkNest "PathFinder$Relations" (28 : Nat) "PathFinder$Path" "parts" "I" "PathFinder"), (Cond.fieldLinkNest "PathFinder$Counts" (59 : Nat) "PathFinder$Path" "parts" "I" "PathFinder"), (Cond.fieldLinkNest "PathFinder" (63 : Nat) "PathFinder$Path" "fault" "I" "PathFinder"), (Cond.methodLinkNest "PathFinder" (25 : Nat) ({ cls := "PathFinder$Relations", name := "<init>", desc := "(LPathFinder$Graph;LPathFinder$Path;)V" } : MethodName) "PathFinder"), (Cond.fieldLinkNest "PathFinder$Counts" (81 : Nat) "PathFinder$Relations" "partRows" "[[J" "PathFinder"), (Cond.fieldLinkNest "PathFinder" (104 : Nat) "PathFinder$Relations" "ready" "Z" "PathFinder"), (Cond.methodLinkNest "PathFinder" (34 : Nat) ({ cls := "PathFinder$Counts", name := "<init>", desc := "(LPathFinder$Graph;LPathFinder$Path;LPathFinder$Relations;)V" } : MethodName) "PathFinder"), (Cond.fieldLinkNest "PathFinder" (108 : Nat) "PathFinder$Counts" "start" "I" "PathFinder"), (Cond.methodLinkNest "PathFinder" (41 : Nat) ({ cls := "PathFinder$Graph", name := "put", desc := "(III)I" } : MethodName) "PathFinder"), (Cond.methodLinkNest "PathFinder$Graph" (34 : Nat) ({ cls := "PathFinder", name := "isPoint", desc := "(I)Z" } : MethodName) "PathFinder"), (Cond.methodLinkNest "PathFinder$Graph" (38 : Nat) ({ cls := "PathFinder", name := "isLabel", desc := "(I)Z" } : MethodName) "PathFinder"), (Cond.methodLinkNest "PathFinder$Graph" (20 : Nat) ({ cls := "PathFinder", name := "holds", desc := "(JI)Z" } : MethodName) "PathFinder"), (Cond.methodLinkNest "PathFinder$Graph" (24 : Nat) ({ cls := "PathFinder", name := "bit", desc := "(I)J" } : MethodName) "PathFinder"), (Cond.methodLinkNest "PathFinder" (48 : Nat) ({ cls := "PathFinder$Graph", name := "remove", desc := "(III)I" } : MethodName) "PathFinder"), (Cond.methodLinkNest "PathFinder" (55 : Nat) ({ cls := "PathFinder$Path", name := "append", desc := "(I)I" } : MethodName) "PathFinder"), (Cond.methodLinkNest "PathFinder" (59 : Nat) ({ cls := "PathFinder$Path", name := "empty", desc := "()I" } : MethodName) "PathFinder"), (Cond.methodLinkNest "PathFinder" (72 : Nat) ({ cls := "PathFinder$Path", name := "isJust", desc := "()Z" } : MethodName) "PathFinder"), (Cond.methodLinkNest "PathFinder" (78 : Nat) ({ cls := "PathFinder$Counts", name := "from", desc := "(I)[J" } : MethodName) "PathFinder"), (Cond.methodLinkNest "PathFinder$Counts" (39 : Nat) ({ cls := "PathFinder", name := "isPoint", desc := "(I)Z" } : MethodName) "PathFinder"), (Cond.methodLinkNest "PathFinder$Counts" (43 : Nat) ({ cls := "PathFinder$Relations", name := "ofPath", desc := "()[J" } : MethodName) "PathFinder"), (Cond.methodLinkNest "PathFinder$Relations" (79 : Nat) ({ cls := "PathFinder", name := "holds", desc := "(JI)Z" } : MethodName) "PathFinder"), (Cond.methodLinkNest "PathFinder$Relations" (88 : Nat) ({ cls := "PathFinder", name := "bit", desc := "(I)J" } : MethodName) "PathFinder"), (Cond.methodLinkNest "PathFinder$Counts" (88 : Nat) ({ cls := "PathFinder", name := "holds", desc := "(JI)Z" } : MethodName) "PathFinder"), (Cond.methodLinkNest "PathFinder$Counts" (101 : Nat) ({ cls := "PathFinder", name := "sumOf", desc := "(JJ)J" } : MethodName) "PathFinder"), (Cond.methodLinkNest "PathFinder" (82 : Nat) ({ cls := "PathFinder$Relations", name := "ofPath", desc := "()[J" } : MethodName) "PathFinder")]
theorem pw_nw_tb : ∀ w ∈ pw_nw, w ∈ lw_tbl := by decide +kernel
theorem N_0 : (Cond.methodLinkNest "PathFinder" (9 : Nat) ({ cls := "PathFinder$Graph", name := "<init>", desc := "()V" } : MethodName) "PathFinder") ∈ pw_nw := List.mem_of_getElem? (i := 0) (by decide +kernel)
theorem N_1 : (Cond.fieldLinkNest "PathFinder$Relations" (83 : Nat) "PathFinder$Graph" "targets" "[[J" "PathFinder") ∈ pw_nw := List.mem_of_getElem? (i := 1) (by decide +kernel)
theorem N_2 : (Cond.fieldLinkNest "PathFinder$Counts" (92 : Nat) "PathFinder$Graph" "targets" "[[J" "PathFinder") ∈ pw_nw := List.mem_of_getElem? (i := 2) (by decide +kernel)
theorem N_3 : (Cond.fieldLinkNest "PathFinder" (51 : Nat) "PathFinder$Graph" "size" "I" "PathFinder") ∈ pw_nw := List.mem_of_getElem? (i := 3) (by decide +kernel)
theorem N_4 : (Cond.methodLinkNest "PathFinder" (18 : Nat) ({ cls := "PathFinder$Path", name := "<init>", desc := "()V" } : MethodName) "PathFinder") ∈ pw_nw := List.mem_of_getElem? (i := 4) (by decide +kernel)
theorem N_5 : (Cond.fieldLinkNest "PathFinder$Relations" (43 : Nat) "PathFinder$Path" "kinds" "[I" "PathFinder") ∈ pw_nw := List.mem_of_getElem? (i := 5) (by decide +kernel)
theorem N_6 : (Cond.fieldLinkNest "PathFinder$Counts" (64 : Nat) "PathFinder$Path" "kinds" "[I" "PathFinder") ∈ pw_nw := List.mem_of_getElem? (i := 6) (by decide +kernel)
theorem N_7 : (Cond.fieldLinkNest "PathFinder$Relations" (50 : Nat) "PathFinder$Path" "labelSets" "[I" "PathFinder") ∈ pw_nw := List.mem_of_getElem? (i := 7) (by decide +kernel)
theorem N_8 : (Cond.fieldLinkNest "PathFinder$Counts" (68 : Nat) "PathFinder$Path" "labelSets" "[I" "PathFinder") ∈ pw_nw := List.mem_of_getElem? (i := 8) (by decide +kernel)
theorem N_9 : (Cond.fieldLinkNest "PathFinder$Relations" (47 : Nat) "PathFinder$Path" "seconds" "[I" "PathFinder") ∈ pw_nw := List.mem_of_getElem? (i := 9) (by decide +kernel)
theorem N_10 : (Cond.fieldLinkNest "PathFinder$Counts" (78 : Nat) "PathFinder$Path" "seconds" "[I" "PathFinder") ∈ pw_nw := List.mem_of_getElem? (i := 10) (by decide +kernel)
theorem N_11 : (Cond.fieldLinkNest "PathFinder$Relations" (28 : Nat) "PathFinder$Path" "parts" "I" "PathFinder") ∈ pw_nw := List.mem_of_getElem? (i := 11) (by decide +kernel)
theorem N_12 : (Cond.fieldLinkNest "PathFinder$Counts" (59 : Nat) "PathFinder$Path" "parts" "I" "PathFinder") ∈ pw_nw := List.mem_of_getElem? (i := 12) (by decide +kernel)
theorem N_13 : (Cond.fieldLinkNest "PathFinder" (63 : Nat) "PathFinder$Path" "fault" "I" "PathFinder") ∈ pw_nw := List.mem_of_getElem? (i := 13) (by decide +kernel)
theorem N_14 : (Cond.methodLinkNest "PathFinder" (25 : Nat) ({ cls := "PathFinder$Relations", name := "<init>", desc := "(LPathFinder$Graph;LPathFinder$Path;)V" } : MethodName) "PathFinder") ∈ pw_nw := List.mem_of_getElem? (i := 14) (by decide +kernel)
theorem N_15 : (Cond.fieldLinkNest "PathFinder$Counts" (81 : Nat) "PathFinder$Relations" "partRows" "[[J" "PathFinder") ∈ pw_nw := List.mem_of_getElem? (i := 15) (by decide +kernel)
theorem N_16 : (Cond.fieldLinkNest "PathFinder" (104 : Nat) "PathFinder$Relations" "ready" "Z" "PathFinder") ∈ pw_nw := List.mem_of_getElem? (i := 16) (by decide +kernel)
theorem N_17 : (Cond.methodLinkNest "PathFinder" (34 : Nat) ({ cls := "PathFinder$Counts", name := "<init>", desc := "(LPathFinder$Graph;LPathFinder$Path;LPathFinder$Relations;)V" } : MethodName) "PathFinder") ∈ pw_nw := List.mem_of_getElem? (i := 17) (by decide +kernel)
theorem N_18 : (Cond.fieldLinkNest "PathFinder" (108 : Nat) "PathFinder$Counts" "start" "I" "PathFinder") ∈ pw_nw := List.mem_of_getElem? (i := 18) (by decide +kernel)
theorem N_19 : (Cond.methodLinkNest "PathFinder" (41 : Nat) ({ cls := "PathFinder$Graph", name := "put", desc := "(III)I" } : MethodName) "PathFinder") ∈ pw_nw := List.mem_of_getElem? (i := 19) (by decide +kernel)
theorem N_20 : (Cond.methodLinkNest "PathFinder$Graph" (34 : Nat) ({ cls := "PathFinder", name := "isPoint", desc := "(I)Z" } : MethodName) "PathFinder") ∈ pw_nw := List.mem_of_getElem? (i := 20) (by decide +kernel)
theorem N_21 : (Cond.methodLinkNest "PathFinder$Graph" (38 : Nat) ({ cls := "PathFinder", name := "isLabel", desc := "(I)Z" } : MethodName) "PathFinder") ∈ pw_nw := List.mem_of_getElem? (i := 21) (by decide +kernel)
theorem N_22 : (Cond.methodLinkNest "PathFinder$Graph" (20 : Nat) ({ cls := "PathFinder", name := "holds", desc := "(JI)Z" } : MethodName) "PathFinder") ∈ pw_nw := List.mem_of_getElem? (i := 22) (by decide +kernel)
theorem N_23 : (Cond.methodLinkNest "PathFinder$Graph" (24 : Nat) ({ cls := "PathFinder", name := "bit", desc := "(I)J" } : MethodName) "PathFinder") ∈ pw_nw := List.mem_of_getElem? (i := 23) (by decide +kernel)
theorem N_24 : (Cond.methodLinkNest "PathFinder" (48 : Nat) ({ cls := "PathFinder$Graph", name := "remove", desc := "(III)I" } : MethodName) "PathFinder") ∈ pw_nw := List.mem_of_getElem? (i := 24) (by decide +kernel)
theorem N_25 : (Cond.methodLinkNest "PathFinder" (55 : Nat) ({ cls := "PathFinder$Path", name := "append", desc := "(I)I" } : MethodName) "PathFinder") ∈ pw_nw := List.mem_of_getElem? (i := 25) (by decide +kernel)
theorem N_26 : (Cond.methodLinkNest "PathFinder" (59 : Nat) ({ cls := "PathFinder$Path", name := "empty", desc := "()I" } : MethodName) "PathFinder") ∈ pw_nw := List.mem_of_getElem? (i := 26) (by decide +kernel)
theorem N_27 : (Cond.methodLinkNest "PathFinder" (72 : Nat) ({ cls := "PathFinder$Path", name := "isJust", desc := "()Z" } : MethodName) "PathFinder") ∈ pw_nw := List.mem_of_getElem? (i := 27) (by decide +kernel)
theorem N_28 : (Cond.methodLinkNest "PathFinder" (78 : Nat) ({ cls := "PathFinder$Counts", name := "from", desc := "(I)[J" } : MethodName) "PathFinder") ∈ pw_nw := List.mem_of_getElem? (i := 28) (by decide +kernel)
theorem N_29 : (Cond.methodLinkNest "PathFinder$Counts" (39 : Nat) ({ cls := "PathFinder", name := "isPoint", desc := "(I)Z" } : MethodName) "PathFinder") ∈ pw_nw := List.mem_of_getElem? (i := 29) (by decide +kernel)
theorem N_30 : (Cond.methodLinkNest "PathFinder$Counts" (43 : Nat) ({ cls := "PathFinder$Relations", name := "ofPath", desc := "()[J" } : MethodName) "PathFinder") ∈ pw_nw := List.mem_of_getElem? (i := 30) (by decide +kernel)
theorem N_31 : (Cond.methodLinkNest "PathFinder$Relations" (79 : Nat) ({ cls := "PathFinder", name := "holds", desc := "(JI)Z" } : MethodName) "PathFinder") ∈ pw_nw := List.mem_of_getElem? (i := 31) (by decide +kernel)
theorem N_32 : (Cond.methodLinkNest "PathFinder$Relations" (88 : Nat) ({ cls := "PathFinder", name := "bit", desc := "(I)J" } : MethodName) "PathFinder") ∈ pw_nw := List.mem_of_getElem? (i := 32) (by decide +kernel)
theorem N_33 : (Cond.methodLinkNest "PathFinder$Counts" (88 : Nat) ({ cls := "PathFinder", name := "holds", desc := "(JI)Z" } : MethodName) "PathFinder") ∈ pw_nw := List.mem_of_getElem? (i := 33) (by decide +kernel)
theorem N_34 : (Cond.methodLinkNest "PathFinder$Counts" (101 : Nat) ({ cls := "PathFinder", name := "sumOf", desc := "(JJ)J" } : MethodName) "PathFinder") ∈ pw_nw := List.mem_of_getElem? (i := 34) (by decide +kernel)
theorem N_35 : (Cond.methodLinkNest "PathFinder" (82 : Nat) ({ cls := "PathFinder$Relations", name := "ofPath", desc := "()[J" } : MethodName) "PathFinder") ∈ pw_nw := List.mem_of_getElem? (i := 35) (by decide +kernel)
def pw_isN : Cond → Bool
  | .fieldLinkNest .. => true
  | .methodLinkNest .. => true
  | _ => false
theorem pw_nw_ok : ∀ w ∈ pw_nw, pw_isN w = true := by decide +kernel
theorem in_CN : ∀ q ∈ u_ws R_CN T_CN 7, q ∈ pw_all := fun q h => pw_in ((show ∀ q ∈ u_ws R_CN T_CN 7, q ∈ lw_tbl by decide +kernel) q h) ((show ∀ q ∈ u_ws R_CN T_CN 7, goodWord q = true by decide +kernel) q h)
theorem in_GR : ∀ q ∈ u_ws R_GR T_GR 2, q ∈ pw_all := fun q h => pw_in ((show ∀ q ∈ u_ws R_GR T_GR 2, q ∈ lw_tbl by decide +kernel) q h) ((show ∀ q ∈ u_ws R_GR T_GR 2, goodWord q = true by decide +kernel) q h)
theorem in_PA : ∀ q ∈ u_ws R_PA T_PA 7, q ∈ pw_all := fun q h => pw_in ((show ∀ q ∈ u_ws R_PA T_PA 7, q ∈ lw_tbl by decide +kernel) q h) ((show ∀ q ∈ u_ws R_PA T_PA 7, goodWord q = true by decide +kernel) q h)
theorem in_RE : ∀ q ∈ u_ws R_RE T_RE 4, q ∈ pw_all := fun q h => pw_in ((show ∀ q ∈ u_ws R_RE T_RE 4, q ∈ lw_tbl by decide +kernel) q h) ((show ∀ q ∈ u_ws R_RE T_RE 4, goodWord q = true by decide +kernel) q h)
theorem in_PF : ∀ q ∈ u_ws R_PF T_PF 4, q ∈ pw_all := fun q h => pw_in ((show ∀ q ∈ u_ws R_PF T_PF 4, q ∈ lw_tbl by decide +kernel) q h) ((show ∀ q ∈ u_ws R_PF T_PF 4, goodWord q = true by decide +kernel) q h)
theorem in_MO : ∀ q ∈ u_ws R_MO T_MO 10, q ∈ pw_all := fun q h => pw_in ((show ∀ q ∈ u_ws R_MO T_MO 10, q ∈ lw_tbl by decide +kernel) q h) ((show ∀ q ∈ u_ws R_MO T_MO 10, goodWord q = true by decide +kernel) q h)
end
section
/-! THE LAYER. A world is a function from keys (g, i) to cells; a layout X says where a key lies. MW: the machine at pc, with locals lv, stack st and world w, comes to Q, whatever the heap is that holds w. -/
abbrev Wd : Type := Nat → Nat → va_E
abbrev Lay : Type := va_G × (Nat → ClassId) × (Nat → Nat → Nat) × Nat × (Nat → Nat → Prop)
def pw_D (X : Lay) : va_G := X.1
def pw_c (X : Lay) : Nat → ClassId := X.2.1
def pw_a (X : Lay) : Nat → Nat → Nat := X.2.2.1
def pw_z (X : Lay) : Nat := X.2.2.2.1
def pw_d (X : Lay) : Nat → Nat → Prop := X.2.2.2.2
def pw_tys (X : Lay) : List (ClassId × FieldType) := [(pw_c X 0, .int), (pw_c X 1, .long), (pw_c X 2, .array .long), (pw_c X 3, .boolean)]
/-- cells: an int array, a long array, an array of rows, an object -/
abbrev aI (X : Lay) (n : Nat) (f : Nat → Int32) : va_E := .inl (pw_c X 0, n, .inl f)
abbrev aL (X : Lay) (n : Nat) (f : Nat → Int64) : va_E := .inl (pw_c X 1, n, .inr (.inl f))
abbrev aQ (X : Lay) (n : Nat) (f : Nat → Option Nat) : va_E := .inl (pw_c X 2, n, .inr (.inr (.inr (.inr f))))
abbrev aZ (X : Lay) (n : Nat) (f : Nat → Int32) : va_E := .inl (pw_c X 3, n, .inl f)
abbrev oB (ci : Nat) (fs : List Value) : va_E := .inr (ci, fs)
def pw_H (X : Lay) (w : Wd) (H : Heap) : Prop := ∀ g i, pw_d X g i → va_at (pw_D X) vwCl (pw_a X g i, w g i) H
def pw_I (X : Lay) : Prop := (∀ g i g' i', pw_d X g i → pw_d X g' i' → pw_a X g i = pw_a X g' i' → g = g' ∧ i = i') ∧ ∀ g i, pw_d X g i → pw_z X ≤ pw_a X g i
def pw_up (w : Wd) (g i : Nat) (e : va_E) : Wd := fun g' i' => if g' = g ∧ i' = i then e else w g' i'
theorem pw_up_self (w : Wd) (g i : Nat) (e : va_E) : pw_up w g i e g i = e := by simp [pw_up]
theorem pw_up_ne (w : Wd) {g i g' i' : Nat} (e : va_E) (h : ¬ (g' = g ∧ i' = i)) : pw_up w g i e g' i' = w g' i' := by simp only [pw_up, if_neg h]
theorem pw_up_g (w : Wd) {g i g' i' : Nat} (e : va_E) (h : g' ≠ g) : pw_up w g i e g' i' = w g' i' := pw_up_ne w e (fun q => h q.1)
theorem pw_up_i (w : Wd) {g i i' : Nat} (e : va_E) (h : i' ≠ i) : pw_up w g i e g i' = w g i' := pw_up_ne w e (fun q => h q.2)
theorem pw_up_up (w : Wd) (g i : Nat) (e e' : va_E) : pw_up (pw_up w g i e) g i e' = pw_up w g i e' := by
  funext g' i'
  by_cases h : g' = g ∧ i' = i
  · simp only [pw_up, if_pos h]
  · simp only [pw_up, if_neg h]
theorem pw_up_id (w : Wd) {g i : Nat} {e : va_E} (h : w g i = e) : pw_up w g i e = w := by
  funext g' i'
  by_cases hq : g' = g ∧ i' = i
  · obtain ⟨rfl, rfl⟩ := hq
    rw [pw_up_self, h]
  · rw [pw_up_ne w e hq]
theorem pw_H.set {X : Lay} {w : Wd} {H H1 : Heap} {g i : Nat} {e : va_E} (hI : pw_I X) (h : pw_H X w H) (hd : pw_d X g i) (he : va_at (pw_D X) vwCl (pw_a X g i, e) H1) (oq : ∀ q : Nat, q ≠ pw_a X g i → H1[q]? = H[q]?) : pw_H X (pw_up w g i e) H1 := by
  intro g' i' hd'
  by_cases hq : g' = g ∧ i' = i
  · obtain ⟨rfl, rfl⟩ := hq
    rw [pw_up_self]
    exact he
  · rw [pw_up_ne w e hq]
    exact (h g' i' hd').kept (oq _ (fun z => hq (hI.1 _ _ _ _ hd' hd z)))
/-- the locals, by their numbers -/
def pw_L (ls : Array Slot) (nL : Nat) (lv : List (Option Value)) : Prop := ls.size = nL ∧ lv_wf ls ∧ ∀ (i : Nat) (v : Value), lv[i]? = some (some v) → ls[i]? = some (.val v)
def pw_al (lv : List (Option Value)) : List (Nat × Value) := (List.range lv.length).filterMap (fun k => match lv[k]? with | some (some v) => some (k, v) | _ => none)
theorem pw_al_mem {lv : List (Option Value)} {k : Nat} {u : Value} (h : lv[k]? = some (some u)) : (k, u) ∈ pw_al lv := by
  unfold pw_al
  rw [List.mem_filterMap]
  exact ⟨k, List.mem_range.mpr (List.getElem?_eq_some_iff.mp h).1, by rw [h]⟩
theorem pw_al_get {lv : List (Option Value)} {q : Nat × Value} (h : q ∈ pw_al lv) : lv[q.1]? = some (some q.2) := by
  unfold pw_al at h
  obtain ⟨k, -, hk⟩ := List.mem_filterMap.mp h
  split at hk
  · rename_i v hv
    cases hk
    exact hv
  · cases hk
theorem pw_L.has {ls : Array Slot} {nL : Nat} {lv : List (Option Value)} (h : pw_L ls nL lv) : lv_has ls nL (pw_al lv) := ⟨h.1, h.2.1, fun q hq => h.2.2 q.1 q.2 (pw_al_get hq)⟩
def pw_k1 (lv : List (Option Value)) (j : Nat) : List (Option Value) := match lv[j]? with
  | some (some (.long _)) => lv.set j none
  | some (some (.double _)) => lv.set j none
  | _ => lv
def pw_p1 (lv : List (Option Value)) (i : Nat) (v : Value) : List (Option Value) := match i with
  | 0 => lv.set 0 (some v)
  | j + 1 => (pw_k1 lv j).set (j + 1) (some v)
def pw_p2 (lv : List (Option Value)) (i : Nat) (v : Value) : List (Option Value) := (pw_p1 lv i v).set (i + 1) none
theorem pw_set_get {lv : List (Option Value)} {j k : Nat} {x : Option Value} {u : Value} (h : (lv.set j x)[k]? = some (some u)) : (k = j ∧ x = some u) ∨ (k ≠ j ∧ lv[k]? = some (some u)) := by
  by_cases hk : k = j
  · subst hk
    refine Or.inl ⟨rfl, ?_⟩
    rw [List.getElem?_set] at h
    split at h
    · split at h
      · exact Option.some.inj h
      · cases h
    · rename_i h2; exact absurd rfl h2
  · refine Or.inr ⟨hk, ?_⟩
    rw [List.getElem?_set_ne (Ne.symm hk)] at h
    exact h
theorem pw_k1_get {lv : List (Option Value)} {j k : Nat} {u : Value} (h : (pw_k1 lv j)[k]? = some (some u)) : lv[k]? = some (some u) ∧ (k = j → ¬ u.category = 2) := by
  unfold pw_k1 at h
  split at h
  · rcases pw_set_get h with ⟨-, h2⟩ | ⟨h1, h2⟩
    · cases h2
    · exact ⟨h2, fun q => absurd q h1⟩
  · rcases pw_set_get h with ⟨-, h2⟩ | ⟨h1, h2⟩
    · cases h2
    · exact ⟨h2, fun q => absurd q h1⟩
  · rename_i n1 n2
    refine ⟨h, fun q => ?_⟩
    subst q
    cases u with
    | long x => exact absurd h (n1 x)
    | double x => exact absurd h (n2 x)
    | _ => simp [Value.category]
theorem pw_p1_get {lv : List (Option Value)} {i k : Nat} {v u : Value} (h : (pw_p1 lv i v)[k]? = some (some u)) : (k = i ∧ u = v) ∨ (k ≠ i ∧ lv[k]? = some (some u) ∧ (k + 1 = i → ¬ u.category = 2)) := by
  cases i with
  | zero =>
    rcases pw_set_get h with ⟨h1, h2⟩ | ⟨h1, h2⟩
    · exact Or.inl ⟨h1, (Option.some.inj h2).symm⟩
    · exact Or.inr ⟨h1, h2, fun q => by omega⟩
  | succ j =>
    rcases pw_set_get h with ⟨h1, h2⟩ | ⟨h1, h2⟩
    · exact Or.inl ⟨h1, (Option.some.inj h2).symm⟩
    · obtain ⟨h3, h4⟩ := pw_k1_get h2
      exact Or.inr ⟨h1, h3, fun q => h4 (by omega)⟩
theorem pw_L.put1 {ls' : Array Slot} {nL i : Nat} {v : Value} {lv : List (Option Value)} (h : lv_has ls' nL ((i, v) :: (pw_al lv).filter (fun q => !(q.1 == i) && !(q.1 + 1 == i && q.2.category == 2)))) : pw_L ls' nL (pw_p1 lv i v) := by
  refine ⟨h.1, h.2.1, fun k u hk => h.2.2 (k, u) ?_⟩
  rcases pw_p1_get hk with ⟨rfl, rfl⟩ | ⟨h1, h2, h3⟩
  · exact List.mem_cons_self
  · refine List.mem_cons_of_mem _ (List.mem_filter.mpr ⟨pw_al_mem h2, ?_⟩)
    by_cases hq : k + 1 = i
    · simp [h1, h3 hq]
    · simp [h1, hq]
theorem pw_L.put2 {ls' : Array Slot} {nL i : Nat} {v : Value} {lv : List (Option Value)} (h : lv_has ls' nL ((i, v) :: (pw_al lv).filter (fun q => !(q.1 == i) && (!(q.1 == i + 1) && !(q.1 + 1 == i && q.2.category == 2))))) : pw_L ls' nL (pw_p2 lv i v) := by
  refine ⟨h.1, h.2.1, fun k u hk => h.2.2 (k, u) ?_⟩
  rcases pw_set_get hk with ⟨-, h9⟩ | ⟨h8, h9⟩
  · cases h9
  rcases pw_p1_get h9 with ⟨rfl, rfl⟩ | ⟨h1, h2, h3⟩
  · exact List.mem_cons_self
  · refine List.mem_cons_of_mem _ (List.mem_filter.mpr ⟨pw_al_mem h2, ?_⟩)
    by_cases hq : k + 1 = i
    · simp [h1, h8, h3 hq]
    · simp [h1, h8, hq]
def pw_so (x : Slot) : Option Value := match x with
  | .val v => some v
  | _ => none
def pw_ent (vs : List Value) (n : Nat) : List (Option Value) := (lg_sl vs ++ List.replicate (n - (lg_sl vs).length) Slot.unset).map pw_so
theorem pw_entry (vs : List Value) {n : Nat} (h : (lg_sl vs).length ≤ n) : pw_L ((lg_sl vs ++ List.replicate (n - (lg_sl vs).length) Slot.unset).toArray) n (pw_ent vs n) := by
  have h0 := lv_entry vs h
  refine ⟨h0.1, h0.2.1, fun i v hv => ?_⟩
  unfold pw_ent at hv
  rw [List.getElem?_map] at hv
  rw [List.getElem?_toArray]
  cases hx : (lg_sl vs ++ List.replicate (n - (lg_sl vs).length) Slot.unset)[i]? with
  | none => rw [hx] at hv; cases hv
  | some x =>
    rw [hx] at hv
    cases x with
    | val u => cases hv; rfl
    | unset => cases hv
    | second => cases hv
theorem pw_isN_on {w : Cond} (h : pw_isN w = true) : w.onTables = true := by
  cases w <;> first | rfl | cases h
theorem pw_isN_warm {w : Cond} (h : pw_isN w = true) {s U : State} (hW : s.WarmedH U.vm) (hZ : va_Nw w s) : va_Nw w U := by
  cases w <;> first | exact va_Nw.warmF hW hZ | exact va_Nw.warmM hW hZ | cases h
def pw_K (X : Lay) (U : State) : Prop := va_K (pw_D X) vwCl (pw_tys X) U ∧ ∀ w ∈ pw_nw, va_Nw w U
theorem pw_K.warm {X : Lay} {s U : State} (hW : s.WarmedH U.vm) (h : pw_K X s) : pw_K X U := ⟨va_K.moved hW.alike h.1, fun w hw => pw_isN_warm (pw_nw_ok w hw) hW (h.2 w hw)⟩
theorem pw_K.same {X : Lay} {s U : State} (hv : s.vm = U.vm) (h : pw_K X s) : pw_K X U := ⟨va_K.moved (by rw [hv]; exact Vm.Alike.refl U.vm) h.1, fun w hw => va_Nw.same (pw_isN_on (pw_nw_ok w hw)) hv (h.2 w hw)⟩
def MW (p : Program) (l : Launch) (e : Env) (R : Room) (s : State) (m : MethodId) (args : Array Value) (below : List Frame) (meth : Method) (c : Code) (X : Lay) (nL cells slots : Nat) (Q : State → Prop) (w : Wd) (pc : Nat) (lv : List (Option Value)) (st : List Value) : Prop :=
  ∀ (H : Heap) (locs : List Loc) (ls : Array Slot), pw_H X w H → va_S (fun q => pw_z X ≤ q) s.heap H locs → pw_L ls nL lv → W p l e R s m args below meth c H locs cells slots Q (F0 m pc ls st)
/-- what holds of the method's start, all through its walk -/
def Cx (p : Program) (s : State) (m : MethodId) (args : Array Value) (c : Code) (cc : ByteArray) (nL : Nat) (own : String) (X : Lay) : Prop :=
  CallFix p m c cc nL s args pw_all own ∧ pw_K X s ∧ pw_I X ∧ pw_z X ≤ s.heap.size
def pw_Pc (X : Lay) (w : Wd) (av : List Value) : Array Value → State → Prop := va_Pc av (fun U => pw_z X ≤ U.heap.size ∧ pw_H X w U.heap ∧ pw_K X U)
def pw_B (X : Lay) : Wd → State → Prop := fun w t => pw_H X w t.heap
def pw_F (X : Lay) : Nat → Prop := fun q => pw_z X ≤ q
theorem pw_Pc.blind {X : Lay} {w : Wd} {av : List Value} : FrameBlind (pw_Pc X w av) := fun a U g mk q => by
  obtain ⟨q0, q1, q2, q3⟩ := q
  exact ⟨q0, q1, q2, pw_K.same (s := U) (U := U.calling g mk a) rfl q3⟩
/-- contracts: a method that makes nothing; its answer an int (a boolean, too), a long, nothing, a cell -/
abbrev CtI (l : Launch) (y : MethodName) (ws : List Cond) (rm : Room) (X : Lay) (w : Wd) (av : List Value) (post : Int32 → Wd → Prop) : Prop := Met l y ws rm (pw_Pc X w av) (va_Qi post (pw_B X) (pw_F X)) 0 0 (pw_F X)
abbrev CtL (l : Launch) (y : MethodName) (ws : List Cond) (rm : Room) (X : Lay) (w : Wd) (av : List Value) (post : Int64 → Wd → Prop) : Prop := Met l y ws rm (pw_Pc X w av) (va_Ql post (pw_B X) (pw_F X)) 0 0 (pw_F X)
abbrev CtV (l : Launch) (y : MethodName) (ws : List Cond) (rm : Room) (X : Lay) (w : Wd) (av : List Value) (post : Wd → Prop) : Prop := Met l y ws rm (pw_Pc X w av) (va_Qv post (pw_B X) (pw_F X)) 0 0 (pw_F X)
abbrev CtR (l : Launch) (y : MethodName) (ws : List Cond) (rm : Room) (X : Lay) (w : Wd) (av : List Value) (g i : Nat) (post : Wd → Prop) : Prop := Met l y ws rm (pw_Pc X w av) (va_Qr post (fun w a t => a = pw_a X g i ∧ pw_H X w t.heap) (pw_F X)) 0 0 (pw_F X)
/-- the words of a method: its own code, and all words of the tables -/
def pw_ws (y : MethodName) (cc : ByteArray) (maxL : Nat) (ret : Option FieldType) : List Cond := Cond.code y cc maxL ret :: pw_all
theorem pw_gws {y : MethodName} {cc : ByteArray} {maxL : Nat} {ret : Option FieldType} (h : Cond.code y cc maxL ret ∈ pw_all) : GoodIn pw_all (pw_ws y cc maxL ret) := by
  intro w hw
  rcases List.mem_cons.mp hw with rfl | hw
  · exact ⟨h, (pw_good _ h).2⟩
  · exact ⟨hw, (pw_good _ hw).2⟩
/-- a contract from the walk of the body -/
theorem pw_open {l : Launch} {y : MethodName} {rm : Room} {X : Lay} {w : Wd} {av : List Value} {Qc : Array Value → State → Outcome → State → Prop} {mc ms : Nat} {cc : ByteArray} {maxL : Nat} {ret : Option FieldType}
    (hy : plainName y.cls = true) (hI : pw_I X) (lv : List (Option Value)) (hlv : pw_ent av maxL = lv) (hle : (lg_sl av).length ≤ maxL)
    (body : ∀ (p : Program) (e : Env) (s : State) (m : MethodId) (args : Array Value) (below : List Frame) (meth : Method) (c : Code), args = av.toArray → Cx p s m args c cc maxL y.cls X → meth.sig.returnType = ret → meth.locks = false → meth.name = y.name → MW p l e rm s m args below meth c X maxL 0 0 (MQ below Qc args s mc ms (pw_F X)) w 0 lv []) : Met l y (pw_ws y cc maxL ret) rm (pw_Pc X w av) Qc mc ms (pw_F X) := by
  refine Met.ofW (cc := cc) (maxL := maxL) (ret := ret) hy rfl ?_
  intro p e s m args below meth c s₁ B hml hv
  obtain ⟨rfl, hz, hH, hK⟩ := hv
  have hb := body p e s m av.toArray below meth c rfl ⟨⟨B.exec, B.bytes, hml, findClass_of_methodNamed B.named, fun w hw => atoms_spec (ws := pw_ws y cc maxL ret) B.pre w (List.mem_cons_of_mem _ hw)⟩, hK, hI, hz⟩ B.returns B.notSynchronized (name_of_methodNamed B.named B.method).1
  rw [lg_entry_eq]
  exact hb s.heap [] _ hH va_S.rf (by rw [← hlv]; exact pw_entry av hle)
section PW
variable {p : Program} {l : Launch} {e : Env} {R : Room} {s : State} {m : MethodId} {args : Array Value} {below : List Frame} {meth : Method} {c : Code} {X : Lay} {cc : ByteArray} {nL cells slots : Nat} {Q : State → Prop} {own : String} {w : Wd} {pc : Nat} {lv : List (Option Value)} {st : List Value}
theorem MW.lveq {lv' : List (Option Value)} (h : lv = lv') (k : MW p l e R s m args below meth c X nL cells slots Q w pc lv' st) : MW p l e R s m args below meth c X nL cells slots Q w pc lv st := h ▸ k
/-- fewer locals are known -/
theorem MW.less {lv' : List (Option Value)} (h : ∀ (i : Nat) (v : Value), lv'[i]? = some (some v) → lv[i]? = some (some v)) (k : MW p l e R s m args below meth c X nL cells slots Q w pc lv' st) : MW p l e R s m args below meth c X nL cells slots Q w pc lv st := fun H locs ls h1 h2 h3 => k H locs ls h1 h2 ⟨h3.1, h3.2.1, fun i v hv => h3.2.2 i v (h i v hv)⟩
theorem MW.world {w' : Wd} (h : w = w') (k : MW p l e R s m args below meth c X nL cells slots Q w' pc lv st) : MW p l e R s m args below meth c X nL cells slots Q w pc lv st := h ▸ k
theorem pw_iconst (C : Cx p s m args c cc nL own X) {n : Int} (hdg : decode cc pc = .ok (.iconst n, 1)) {v : Int32} (hv : Int32.ofInt n = v) (k : MW p l e R s m args below meth c X nL cells slots Q w (pc + 1) lv (.int v :: st)) : MW p l e R s m args below meth c X nL cells slots Q w pc lv st := fun H locs ls h1 h2 h3 => lv_iconst C.1.1 C.1.2.1 hdg hv (k H locs ls h1 h2 h3)
theorem pw_bipush (C : Cx p s m args c cc nL own X) {n : Int} (hdg : decode cc pc = .ok (.bipush n, 2)) {v : Int32} (hv : (Int8.ofInt n).toInt32 = v) (k : MW p l e R s m args below meth c X nL cells slots Q w (pc + 2) lv (.int v :: st)) : MW p l e R s m args below meth c X nL cells slots Q w pc lv st := fun H locs ls h1 h2 h3 => lv_bipush C.1.1 C.1.2.1 hdg hv (k H locs ls h1 h2 h3)
theorem pw_sipush (C : Cx p s m args c cc nL own X) {n : Int} (hdg : decode cc pc = .ok (.sipush n, 3)) {v : Int32} (hv : (Int16.ofInt n).toInt32 = v) (k : MW p l e R s m args below meth c X nL cells slots Q w (pc + 3) lv (.int v :: st)) : MW p l e R s m args below meth c X nL cells slots Q w pc lv st := fun H locs ls h1 h2 h3 => lv_sipush C.1.1 C.1.2.1 hdg hv (k H locs ls h1 h2 h3)
theorem pw_lconst (C : Cx p s m args c cc nL own X) {n : Fin 2} (hdg : decode cc pc = .ok (.lconst n, 1)) {v : Int64} (hv : Int64.ofNat (n : Nat) = v) (k : MW p l e R s m args below meth c X nL cells slots Q w (pc + 1) lv (.long v :: st)) : MW p l e R s m args below meth c X nL cells slots Q w pc lv st := fun H locs ls h1 h2 h3 => lv_lconst C.1.1 C.1.2.1 hdg hv (k H locs ls h1 h2 h3)
theorem pw_ldc (C : Cx p s m args c cc nL own X) {index : Nat} (hdg : decode cc pc = .ok (.ldc index, 2)) {v : Int32} (hc : Cond.constant own index v ∈ pw_all) (k : MW p l e R s m args below meth c X nL cells slots Q w (pc + 2) lv (.int v :: st)) : MW p l e R s m args below meth c X nL cells slots Q w pc lv st := fun H locs ls h1 h2 h3 => lv_ldc C.1.1 C.1.2.1 C.1.2.2.2.1 (C.1.2.2.2.2 _ hc) hdg (k H locs ls h1 h2 h3)
theorem pw_ldc2_w (C : Cx p s m args c cc nL own X) {index : Nat} (hdg : decode cc pc = .ok (.ldc2_w index, 3)) {v : Int64} (hc : Cond.constantLong own index v ∈ pw_all) (k : MW p l e R s m args below meth c X nL cells slots Q w (pc + 3) lv (.long v :: st)) : MW p l e R s m args below meth c X nL cells slots Q w pc lv st := fun H locs ls h1 h2 h3 => lv_ldc2 C.1.1 C.1.2.1 C.1.2.2.2.1 (C.1.2.2.2.2 _ hc) hdg (k H locs ls h1 h2 h3)
theorem pw_iload_n (C : Cx p s m args c cc nL own X) {k0 : Fin 4} (hdg : decode cc pc = .ok (.iload_n k0, 1)) {x : Int32} (hv : lv[(k0 : Nat)]? = some (some (.int x))) (k : MW p l e R s m args below meth c X nL cells slots Q w (pc + 1) lv (.int x :: st)) : MW p l e R s m args below meth c X nL cells slots Q w pc lv st := fun H locs ls h1 h2 h3 => lv_iload_n C.1.1 C.1.2.1 hdg rfl (h3.2.2 _ _ hv) (k H locs ls h1 h2 h3)
theorem pw_iload (C : Cx p s m args c cc nL own X) {i : Nat} (hdg : decode cc pc = .ok (.iload i, 2)) {x : Int32} (hv : lv[i]? = some (some (.int x))) (k : MW p l e R s m args below meth c X nL cells slots Q w (pc + 2) lv (.int x :: st)) : MW p l e R s m args below meth c X nL cells slots Q w pc lv st := fun H locs ls h1 h2 h3 => lv_iload C.1.1 C.1.2.1 hdg (h3.2.2 _ _ hv) (k H locs ls h1 h2 h3)
theorem pw_istore_n (C : Cx p s m args c cc nL own X) {k0 : Fin 4} {x : Int32} (hdg : decode cc pc = .ok (.istore_n k0, 1)) (hn : (k0 : Nat) < nL) (k : MW p l e R s m args below meth c X nL cells slots Q w (pc + 1) (pw_p1 lv k0 (.int x)) st) : MW p l e R s m args below meth c X nL cells slots Q w pc lv (.int x :: st) := fun H locs ls h1 h2 h3 => lv_istore_n C.1.1 C.1.2.1 hdg rfl h3.has hn rfl (fun ls9 h9 => k H locs ls9 h1 h2 (pw_L.put1 h9))
theorem pw_istore (C : Cx p s m args c cc nL own X) {i : Nat} {x : Int32} (hdg : decode cc pc = .ok (.istore i, 2)) (hn : i < nL) (k : MW p l e R s m args below meth c X nL cells slots Q w (pc + 2) (pw_p1 lv i (.int x)) st) : MW p l e R s m args below meth c X nL cells slots Q w pc lv (.int x :: st) := fun H locs ls h1 h2 h3 => lv_istore C.1.1 C.1.2.1 hdg h3.has hn rfl (fun ls9 h9 => k H locs ls9 h1 h2 (pw_L.put1 h9))
theorem pw_lload_n (C : Cx p s m args c cc nL own X) {k0 : Fin 4} (hdg : decode cc pc = .ok (.lload_n k0, 1)) {x : Int64} (hv : lv[(k0 : Nat)]? = some (some (.long x))) (k : MW p l e R s m args below meth c X nL cells slots Q w (pc + 1) lv (.long x :: st)) : MW p l e R s m args below meth c X nL cells slots Q w pc lv st := fun H locs ls h1 h2 h3 => lv_lload_n C.1.1 C.1.2.1 hdg rfl (h3.2.2 _ _ hv) (k H locs ls h1 h2 h3)
theorem pw_lload (C : Cx p s m args c cc nL own X) {i : Nat} (hdg : decode cc pc = .ok (.lload i, 2)) {x : Int64} (hv : lv[i]? = some (some (.long x))) (k : MW p l e R s m args below meth c X nL cells slots Q w (pc + 2) lv (.long x :: st)) : MW p l e R s m args below meth c X nL cells slots Q w pc lv st := fun H locs ls h1 h2 h3 => lv_lload C.1.1 C.1.2.1 hdg (h3.2.2 _ _ hv) (k H locs ls h1 h2 h3)
theorem pw_lstore_n (C : Cx p s m args c cc nL own X) {k0 : Fin 4} {x : Int64} (hdg : decode cc pc = .ok (.lstore_n k0, 1)) (hn : (k0 : Nat) + 1 < nL) (k : MW p l e R s m args below meth c X nL cells slots Q w (pc + 1) (pw_p2 lv k0 (.long x)) st) : MW p l e R s m args below meth c X nL cells slots Q w pc lv (.long x :: st) := fun H locs ls h1 h2 h3 => lv_lstore_n C.1.1 C.1.2.1 hdg rfl h3.has hn rfl (fun ls9 h9 => k H locs ls9 h1 h2 (pw_L.put2 h9))
theorem pw_lstore (C : Cx p s m args c cc nL own X) {i : Nat} {x : Int64} (hdg : decode cc pc = .ok (.lstore i, 2)) (hn : i + 1 < nL) (k : MW p l e R s m args below meth c X nL cells slots Q w (pc + 2) (pw_p2 lv i (.long x)) st) : MW p l e R s m args below meth c X nL cells slots Q w pc lv (.long x :: st) := fun H locs ls h1 h2 h3 => lv_lstore C.1.1 C.1.2.1 hdg h3.has hn rfl (fun ls9 h9 => k H locs ls9 h1 h2 (pw_L.put2 h9))
theorem pw_aload_n (C : Cx p s m args c cc nL own X) {k0 : Fin 4} (hdg : decode cc pc = .ok (.aload_n k0, 1)) {x : Nat} (hv : lv[(k0 : Nat)]? = some (some (.ref x))) (k : MW p l e R s m args below meth c X nL cells slots Q w (pc + 1) lv (.ref x :: st)) : MW p l e R s m args below meth c X nL cells slots Q w pc lv st := fun H locs ls h1 h2 h3 => lv_aload_n C.1.1 C.1.2.1 hdg rfl (h3.2.2 _ _ hv) (k H locs ls h1 h2 h3)
theorem pw_aload (C : Cx p s m args c cc nL own X) {i : Nat} (hdg : decode cc pc = .ok (.aload i, 2)) {x : Nat} (hv : lv[i]? = some (some (.ref x))) (k : MW p l e R s m args below meth c X nL cells slots Q w (pc + 2) lv (.ref x :: st)) : MW p l e R s m args below meth c X nL cells slots Q w pc lv st := fun H locs ls h1 h2 h3 => lv_aload C.1.1 C.1.2.1 hdg (h3.2.2 _ _ hv) (k H locs ls h1 h2 h3)
theorem pw_astore_n (C : Cx p s m args c cc nL own X) {k0 : Fin 4} {x : Nat} (hdg : decode cc pc = .ok (.astore_n k0, 1)) (hn : (k0 : Nat) < nL) (k : MW p l e R s m args below meth c X nL cells slots Q w (pc + 1) (pw_p1 lv k0 (.ref x)) st) : MW p l e R s m args below meth c X nL cells slots Q w pc lv (.ref x :: st) := fun H locs ls h1 h2 h3 => lv_astore_n C.1.1 C.1.2.1 hdg rfl h3.has hn rfl (fun ls9 h9 => k H locs ls9 h1 h2 (pw_L.put1 h9))
theorem pw_astore (C : Cx p s m args c cc nL own X) {i : Nat} {x : Nat} (hdg : decode cc pc = .ok (.astore i, 2)) (hn : i < nL) (k : MW p l e R s m args below meth c X nL cells slots Q w (pc + 2) (pw_p1 lv i (.ref x)) st) : MW p l e R s m args below meth c X nL cells slots Q w pc lv (.ref x :: st) := fun H locs ls h1 h2 h3 => lv_astore C.1.1 C.1.2.1 hdg h3.has hn rfl (fun ls9 h9 => k H locs ls9 h1 h2 (pw_L.put1 h9))
theorem pw_iinc (C : Cx p s m args c cc nL own X) {i : Nat} {n : Int} {x : Int32} (hdg : decode cc pc = .ok (.iinc i n, 3)) (hv : lv[i]? = some (some (.int x))) (hn : i < nL) (k : MW p l e R s m args below meth c X nL cells slots Q w (pc + 3) (pw_p1 lv i (.int (x + Int32.ofInt n))) st) : MW p l e R s m args below meth c X nL cells slots Q w pc lv st := fun H locs ls h1 h2 h3 => by
  obtain ⟨k0, hk0⟩ := List.getElem?_of_mem (pw_al_mem hv)
  exact lv_iinc C.1.1 C.1.2.1 hdg h3.has hk0 rfl hn rfl (fun ls9 h9 => k H locs ls9 h1 h2 (pw_L.put1 h9))
theorem pw_iadd (C : Cx p s m args c cc nL own X) {x y : Int32} (hdg : decode cc pc = .ok (.iadd, 1)) (k : MW p l e R s m args below meth c X nL cells slots Q w (pc + 1) lv (.int (x + y) :: st)) : MW p l e R s m args below meth c X nL cells slots Q w pc lv (.int y :: .int x :: st) := fun H locs ls h1 h2 h3 => lv_iadd C.1.1 C.1.2.1 hdg (k H locs ls h1 h2 h3)
theorem pw_isub (C : Cx p s m args c cc nL own X) {x y : Int32} (hdg : decode cc pc = .ok (.isub, 1)) (k : MW p l e R s m args below meth c X nL cells slots Q w (pc + 1) lv (.int (x - y) :: st)) : MW p l e R s m args below meth c X nL cells slots Q w pc lv (.int y :: .int x :: st) := fun H locs ls h1 h2 h3 => lv_isub C.1.1 C.1.2.1 hdg (k H locs ls h1 h2 h3)
theorem pw_imul (C : Cx p s m args c cc nL own X) {x y : Int32} (hdg : decode cc pc = .ok (.imul, 1)) (k : MW p l e R s m args below meth c X nL cells slots Q w (pc + 1) lv (.int (x * y) :: st)) : MW p l e R s m args below meth c X nL cells slots Q w pc lv (.int y :: .int x :: st) := fun H locs ls h1 h2 h3 => lv_imul C.1.1 C.1.2.1 hdg (k H locs ls h1 h2 h3)
theorem pw_iand (C : Cx p s m args c cc nL own X) {x y : Int32} (hdg : decode cc pc = .ok (.iand, 1)) (k : MW p l e R s m args below meth c X nL cells slots Q w (pc + 1) lv (.int (x &&& y) :: st)) : MW p l e R s m args below meth c X nL cells slots Q w pc lv (.int y :: .int x :: st) := fun H locs ls h1 h2 h3 => lv_iand C.1.1 C.1.2.1 hdg (k H locs ls h1 h2 h3)
theorem pw_ior (C : Cx p s m args c cc nL own X) {x y : Int32} (hdg : decode cc pc = .ok (.ior, 1)) (k : MW p l e R s m args below meth c X nL cells slots Q w (pc + 1) lv (.int (x ||| y) :: st)) : MW p l e R s m args below meth c X nL cells slots Q w pc lv (.int y :: .int x :: st) := fun H locs ls h1 h2 h3 => lv_ior C.1.1 C.1.2.1 hdg (k H locs ls h1 h2 h3)
theorem pw_ixor (C : Cx p s m args c cc nL own X) {x y : Int32} (hdg : decode cc pc = .ok (.ixor, 1)) (k : MW p l e R s m args below meth c X nL cells slots Q w (pc + 1) lv (.int (x ^^^ y) :: st)) : MW p l e R s m args below meth c X nL cells slots Q w pc lv (.int y :: .int x :: st) := fun H locs ls h1 h2 h3 => lv_ixor C.1.1 C.1.2.1 hdg (k H locs ls h1 h2 h3)
theorem pw_ishl (C : Cx p s m args c cc nL own X) {x y : Int32} (hdg : decode cc pc = .ok (.ishl, 1)) (k : MW p l e R s m args below meth c X nL cells slots Q w (pc + 1) lv (.int (x <<< (y &&& 31)) :: st)) : MW p l e R s m args below meth c X nL cells slots Q w pc lv (.int y :: .int x :: st) := fun H locs ls h1 h2 h3 => lv_ishl C.1.1 C.1.2.1 hdg (k H locs ls h1 h2 h3)
theorem pw_ishr (C : Cx p s m args c cc nL own X) {x y : Int32} (hdg : decode cc pc = .ok (.ishr, 1)) (k : MW p l e R s m args below meth c X nL cells slots Q w (pc + 1) lv (.int (x >>> (y &&& 31)) :: st)) : MW p l e R s m args below meth c X nL cells slots Q w pc lv (.int y :: .int x :: st) := fun H locs ls h1 h2 h3 => lv_ishr C.1.1 C.1.2.1 hdg (k H locs ls h1 h2 h3)
theorem pw_iushr (C : Cx p s m args c cc nL own X) {x y : Int32} (hdg : decode cc pc = .ok (.iushr, 1)) (k : MW p l e R s m args below meth c X nL cells slots Q w (pc + 1) lv (.int (x.toUInt32 >>> (y.toUInt32 &&& Int32.toUInt32 31)).toInt32 :: st)) : MW p l e R s m args below meth c X nL cells slots Q w pc lv (.int y :: .int x :: st) := fun H locs ls h1 h2 h3 => lv_iushr C.1.1 C.1.2.1 hdg rfl (k H locs ls h1 h2 h3)
theorem pw_ineg (C : Cx p s m args c cc nL own X) {x : Int32} (hdg : decode cc pc = .ok (.ineg, 1)) (k : MW p l e R s m args below meth c X nL cells slots Q w (pc + 1) lv (.int (-x) :: st)) : MW p l e R s m args below meth c X nL cells slots Q w pc lv (.int x :: st) := fun H locs ls h1 h2 h3 => lv_ineg C.1.1 C.1.2.1 hdg (k H locs ls h1 h2 h3)
theorem pw_idiv (C : Cx p s m args c cc nL own X) {x y : Int32} (hdg : decode cc pc = .ok (.idiv, 1)) (hne : ¬ y = 0) (k : MW p l e R s m args below meth c X nL cells slots Q w (pc + 1) lv (.int (x / y) :: st)) : MW p l e R s m args below meth c X nL cells slots Q w pc lv (.int y :: .int x :: st) := fun H locs ls h1 h2 h3 => lv_idiv C.1.1 C.1.2.1 hdg hne (k H locs ls h1 h2 h3)
theorem pw_irem (C : Cx p s m args c cc nL own X) {x y : Int32} (hdg : decode cc pc = .ok (.irem, 1)) (hne : ¬ y = 0) (k : MW p l e R s m args below meth c X nL cells slots Q w (pc + 1) lv (.int (x - x / y * y) :: st)) : MW p l e R s m args below meth c X nL cells slots Q w pc lv (.int y :: .int x :: st) := fun H locs ls h1 h2 h3 => lv_irem C.1.1 C.1.2.1 hdg hne (k H locs ls h1 h2 h3)
theorem pw_ladd (C : Cx p s m args c cc nL own X) {x y : Int64} (hdg : decode cc pc = .ok (.ladd, 1)) (k : MW p l e R s m args below meth c X nL cells slots Q w (pc + 1) lv (.long (x + y) :: st)) : MW p l e R s m args below meth c X nL cells slots Q w pc lv (.long y :: .long x :: st) := fun H locs ls h1 h2 h3 => lv_ladd C.1.1 C.1.2.1 hdg (k H locs ls h1 h2 h3)
theorem pw_lsub (C : Cx p s m args c cc nL own X) {x y : Int64} (hdg : decode cc pc = .ok (.lsub, 1)) (k : MW p l e R s m args below meth c X nL cells slots Q w (pc + 1) lv (.long (x - y) :: st)) : MW p l e R s m args below meth c X nL cells slots Q w pc lv (.long y :: .long x :: st) := fun H locs ls h1 h2 h3 => lv_lsub C.1.1 C.1.2.1 hdg (k H locs ls h1 h2 h3)
theorem pw_lmul (C : Cx p s m args c cc nL own X) {x y : Int64} (hdg : decode cc pc = .ok (.lmul, 1)) (k : MW p l e R s m args below meth c X nL cells slots Q w (pc + 1) lv (.long (x * y) :: st)) : MW p l e R s m args below meth c X nL cells slots Q w pc lv (.long y :: .long x :: st) := fun H locs ls h1 h2 h3 => lv_lmul C.1.1 C.1.2.1 hdg (k H locs ls h1 h2 h3)
theorem pw_land (C : Cx p s m args c cc nL own X) {x y : Int64} (hdg : decode cc pc = .ok (.land, 1)) (k : MW p l e R s m args below meth c X nL cells slots Q w (pc + 1) lv (.long (x &&& y) :: st)) : MW p l e R s m args below meth c X nL cells slots Q w pc lv (.long y :: .long x :: st) := fun H locs ls h1 h2 h3 => lv_land C.1.1 C.1.2.1 hdg (k H locs ls h1 h2 h3)
theorem pw_lor (C : Cx p s m args c cc nL own X) {x y : Int64} (hdg : decode cc pc = .ok (.lor, 1)) (k : MW p l e R s m args below meth c X nL cells slots Q w (pc + 1) lv (.long (x ||| y) :: st)) : MW p l e R s m args below meth c X nL cells slots Q w pc lv (.long y :: .long x :: st) := fun H locs ls h1 h2 h3 => lv_lor C.1.1 C.1.2.1 hdg (k H locs ls h1 h2 h3)
theorem pw_lxor (C : Cx p s m args c cc nL own X) {x y : Int64} (hdg : decode cc pc = .ok (.lxor, 1)) (k : MW p l e R s m args below meth c X nL cells slots Q w (pc + 1) lv (.long (x ^^^ y) :: st)) : MW p l e R s m args below meth c X nL cells slots Q w pc lv (.long y :: .long x :: st) := fun H locs ls h1 h2 h3 => lv_lxor C.1.1 C.1.2.1 hdg (k H locs ls h1 h2 h3)
theorem pw_ldiv (C : Cx p s m args c cc nL own X) {x y : Int64} (hdg : decode cc pc = .ok (.ldiv, 1)) (hne : ¬ y = 0) (k : MW p l e R s m args below meth c X nL cells slots Q w (pc + 1) lv (.long (x / y) :: st)) : MW p l e R s m args below meth c X nL cells slots Q w pc lv (.long y :: .long x :: st) := fun H locs ls h1 h2 h3 => lv_ldiv C.1.1 C.1.2.1 hdg hne (k H locs ls h1 h2 h3)
theorem pw_lrem (C : Cx p s m args c cc nL own X) {x y : Int64} (hdg : decode cc pc = .ok (.lrem, 1)) (hne : ¬ y = 0) (k : MW p l e R s m args below meth c X nL cells slots Q w (pc + 1) lv (.long (x - x / y * y) :: st)) : MW p l e R s m args below meth c X nL cells slots Q w pc lv (.long y :: .long x :: st) := fun H locs ls h1 h2 h3 => lv_lrem C.1.1 C.1.2.1 hdg hne (k H locs ls h1 h2 h3)
theorem pw_lneg (C : Cx p s m args c cc nL own X) {x : Int64} (hdg : decode cc pc = .ok (.lneg, 1)) (k : MW p l e R s m args below meth c X nL cells slots Q w (pc + 1) lv (.long (-x) :: st)) : MW p l e R s m args below meth c X nL cells slots Q w pc lv (.long x :: st) := fun H locs ls h1 h2 h3 => lv_lneg C.1.1 C.1.2.1 hdg (k H locs ls h1 h2 h3)
theorem pw_lshl (C : Cx p s m args c cc nL own X) {x : Int64} {y : Int32} (hdg : decode cc pc = .ok (.lshl, 1)) (k : MW p l e R s m args below meth c X nL cells slots Q w (pc + 1) lv (.long (x <<< (y.toInt64 &&& 63)) :: st)) : MW p l e R s m args below meth c X nL cells slots Q w pc lv (.int y :: .long x :: st) := fun H locs ls h1 h2 h3 => lv_lshl C.1.1 C.1.2.1 hdg rfl (k H locs ls h1 h2 h3)
theorem pw_lshr (C : Cx p s m args c cc nL own X) {x : Int64} {y : Int32} (hdg : decode cc pc = .ok (.lshr, 1)) (k : MW p l e R s m args below meth c X nL cells slots Q w (pc + 1) lv (.long (x >>> (y.toInt64 &&& 63)) :: st)) : MW p l e R s m args below meth c X nL cells slots Q w pc lv (.int y :: .long x :: st) := fun H locs ls h1 h2 h3 => lv_lshr C.1.1 C.1.2.1 hdg rfl (k H locs ls h1 h2 h3)
theorem pw_lushr (C : Cx p s m args c cc nL own X) {x : Int64} {y : Int32} (hdg : decode cc pc = .ok (.lushr, 1)) (k : MW p l e R s m args below meth c X nL cells slots Q w (pc + 1) lv (.long (x.toUInt64 >>> (y.toInt64.toUInt64 &&& Int64.toUInt64 63)).toInt64 :: st)) : MW p l e R s m args below meth c X nL cells slots Q w pc lv (.int y :: .long x :: st) := fun H locs ls h1 h2 h3 => lv_lushr C.1.1 C.1.2.1 hdg rfl (k H locs ls h1 h2 h3)
theorem pw_i2l (C : Cx p s m args c cc nL own X) {x : Int32} (hdg : decode cc pc = .ok (.i2l, 1)) (k : MW p l e R s m args below meth c X nL cells slots Q w (pc + 1) lv (.long x.toInt64 :: st)) : MW p l e R s m args below meth c X nL cells slots Q w pc lv (.int x :: st) := fun H locs ls h1 h2 h3 => lv_i2l C.1.1 C.1.2.1 hdg rfl (k H locs ls h1 h2 h3)
theorem pw_l2i (C : Cx p s m args c cc nL own X) {x : Int64} (hdg : decode cc pc = .ok (.l2i, 1)) (k : MW p l e R s m args below meth c X nL cells slots Q w (pc + 1) lv (.int x.toInt32 :: st)) : MW p l e R s m args below meth c X nL cells slots Q w pc lv (.long x :: st) := fun H locs ls h1 h2 h3 => lv_l2i C.1.1 C.1.2.1 hdg rfl (k H locs ls h1 h2 h3)
theorem pw_lcmp (C : Cx p s m args c cc nL own X) {x y : Int64} (hdg : decode cc pc = .ok (.lcmp, 1)) (k : MW p l e R s m args below meth c X nL cells slots Q w (pc + 1) lv (.int (lg_cmp x y) :: st)) : MW p l e R s m args below meth c X nL cells slots Q w pc lv (.long y :: .long x :: st) := fun H locs ls h1 h2 h3 => W.lcmp C.1.1 C.1.2.1 hdg (k H locs ls h1 h2 h3)
theorem pw_dup (C : Cx p s m args c cc nL own X) {va : Value} (hdg : decode cc pc = .ok (.dup, 1)) (hva : va.category = 1) (k : MW p l e R s m args below meth c X nL cells slots Q w (pc + 1) lv (va :: va :: st)) : MW p l e R s m args below meth c X nL cells slots Q w pc lv (va :: st) := fun H locs ls h1 h2 h3 => lv_dup C.1.1 C.1.2.1 hdg hva (k H locs ls h1 h2 h3)
theorem pw_pop (C : Cx p s m args c cc nL own X) {va : Value} (hdg : decode cc pc = .ok (.pop, 1)) (hva : va.category = 1) (k : MW p l e R s m args below meth c X nL cells slots Q w (pc + 1) lv st) : MW p l e R s m args below meth c X nL cells slots Q w pc lv (va :: st) := fun H locs ls h1 h2 h3 => lv_pop C.1.1 C.1.2.1 hdg hva (k H locs ls h1 h2 h3)
theorem pw_pop2 (C : Cx p s m args c cc nL own X) {va : Value} (hdg : decode cc pc = .ok (.pop2, 1)) (hva : va.category = 2) (k : MW p l e R s m args below meth c X nL cells slots Q w (pc + 1) lv st) : MW p l e R s m args below meth c X nL cells slots Q w pc lv (va :: st) := fun H locs ls h1 h2 h3 => lv_pop2_2 C.1.1 C.1.2.1 hdg hva (k H locs ls h1 h2 h3)
theorem pw_dup_x1 (C : Cx p s m args c cc nL own X) {va vb : Value} (hdg : decode cc pc = .ok (.dup_x1, 1)) (hva : va.category = 1) (hvb : vb.category = 1) (k : MW p l e R s m args below meth c X nL cells slots Q w (pc + 1) lv (va :: vb :: va :: st)) : MW p l e R s m args below meth c X nL cells slots Q w pc lv (va :: vb :: st) := fun H locs ls h1 h2 h3 => lv_dup_x1 C.1.1 C.1.2.1 hdg hva hvb (k H locs ls h1 h2 h3)
theorem pw_dup_x2 (C : Cx p s m args c cc nL own X) {va vb vd : Value} (hdg : decode cc pc = .ok (.dup_x2, 1)) (hva : va.category = 1) (hvb : vb.category = 1) (hvd : vd.category = 1) (k : MW p l e R s m args below meth c X nL cells slots Q w (pc + 1) lv (va :: vb :: vd :: va :: st)) : MW p l e R s m args below meth c X nL cells slots Q w pc lv (va :: vb :: vd :: st) := fun H locs ls h1 h2 h3 => lv_dup_x2 C.1.1 C.1.2.1 hdg hva hvb hvd (k H locs ls h1 h2 h3)
theorem pw_dup2 (C : Cx p s m args c cc nL own X) {va vb : Value} (hdg : decode cc pc = .ok (.dup2, 1)) (hva : va.category = 1) (hvb : vb.category = 1) (k : MW p l e R s m args below meth c X nL cells slots Q w (pc + 1) lv (va :: vb :: va :: vb :: st)) : MW p l e R s m args below meth c X nL cells slots Q w pc lv (va :: vb :: st) := fun H locs ls h1 h2 h3 => lv_dup2_11 C.1.1 C.1.2.1 hdg hva hvb (k H locs ls h1 h2 h3)
theorem pw_dup2_2 (C : Cx p s m args c cc nL own X) {va : Value} (hdg : decode cc pc = .ok (.dup2, 1)) (hva : va.category = 2) (k : MW p l e R s m args below meth c X nL cells slots Q w (pc + 1) lv (va :: va :: st)) : MW p l e R s m args below meth c X nL cells slots Q w pc lv (va :: st) := fun H locs ls h1 h2 h3 => lv_dup2_2 C.1.1 C.1.2.1 hdg hva (k H locs ls h1 h2 h3)
theorem pw_dup2_x1 (C : Cx p s m args c cc nL own X) {va vb : Value} (hdg : decode cc pc = .ok (.dup2_x1, 1)) (hva : va.category = 2) (hvb : vb.category = 1) (k : MW p l e R s m args below meth c X nL cells slots Q w (pc + 1) lv (va :: vb :: va :: st)) : MW p l e R s m args below meth c X nL cells slots Q w pc lv (va :: vb :: st) := fun H locs ls h1 h2 h3 => lv_dup2_x1_2 C.1.1 C.1.2.1 hdg hva hvb (k H locs ls h1 h2 h3)
theorem pw_dup2_x2 (C : Cx p s m args c cc nL own X) {va vb vd : Value} (hdg : decode cc pc = .ok (.dup2_x2, 1)) (hva : va.category = 2) (hvb : vb.category = 1) (hvd : vd.category = 1) (k : MW p l e R s m args below meth c X nL cells slots Q w (pc + 1) lv (va :: vb :: vd :: va :: st)) : MW p l e R s m args below meth c X nL cells slots Q w pc lv (va :: vb :: vd :: st) := fun H locs ls h1 h2 h3 => lv_dup2_x2_2 C.1.1 C.1.2.1 hdg hva hvb hvd (k H locs ls h1 h2 h3)
theorem pw_goto (C : Cx p s m args c cc nL own X) {off : Int} (tgt : Nat) (hdg : decode cc pc = .ok (.goto off, 3)) (ht : (pc : Int) + off = (tgt : Int)) (k : MW p l e R s m args below meth c X nL cells slots Q w tgt lv st) : MW p l e R s m args below meth c X nL cells slots Q w pc lv st := fun H locs ls h1 h2 h3 => lv_goto C.1.1 C.1.2.1 hdg ht (k H locs ls h1 h2 h3)
theorem pw_if_eq (C : Cx p s m args c cc nL own X) {x : Int32} {off : Int} (tgt : Nat) (hdg : decode cc pc = .ok (.ifCond .eq off, 3)) (ht : (pc : Int) + off = (tgt : Int)) (kt : x = 0 → MW p l e R s m args below meth c X nL cells slots Q w tgt lv st) (kf : ¬ x = 0 → MW p l e R s m args below meth c X nL cells slots Q w (pc + 3) lv st) : MW p l e R s m args below meth c X nL cells slots Q w pc lv (.int x :: st) := fun H locs ls h1 h2 h3 => lv_if_eq C.1.1 C.1.2.1 hdg ht (fun q => kt q H locs ls h1 h2 h3) (fun q => kf q H locs ls h1 h2 h3)
theorem pw_if_ne (C : Cx p s m args c cc nL own X) {x : Int32} {off : Int} (tgt : Nat) (hdg : decode cc pc = .ok (.ifCond .ne off, 3)) (ht : (pc : Int) + off = (tgt : Int)) (kt : ¬ x = 0 → MW p l e R s m args below meth c X nL cells slots Q w tgt lv st) (kf : x = 0 → MW p l e R s m args below meth c X nL cells slots Q w (pc + 3) lv st) : MW p l e R s m args below meth c X nL cells slots Q w pc lv (.int x :: st) := fun H locs ls h1 h2 h3 => lv_if_ne C.1.1 C.1.2.1 hdg ht (fun q => kt q H locs ls h1 h2 h3) (fun q => kf q H locs ls h1 h2 h3)
theorem pw_if_lt (C : Cx p s m args c cc nL own X) {x : Int32} {off : Int} (tgt : Nat) (hdg : decode cc pc = .ok (.ifCond .lt off, 3)) (ht : (pc : Int) + off = (tgt : Int)) (kt : x < 0 → MW p l e R s m args below meth c X nL cells slots Q w tgt lv st) (kf : ¬ x < 0 → MW p l e R s m args below meth c X nL cells slots Q w (pc + 3) lv st) : MW p l e R s m args below meth c X nL cells slots Q w pc lv (.int x :: st) := fun H locs ls h1 h2 h3 => lv_if_lt C.1.1 C.1.2.1 hdg ht (fun q => kt q H locs ls h1 h2 h3) (fun q => kf q H locs ls h1 h2 h3)
theorem pw_if_ge (C : Cx p s m args c cc nL own X) {x : Int32} {off : Int} (tgt : Nat) (hdg : decode cc pc = .ok (.ifCond .ge off, 3)) (ht : (pc : Int) + off = (tgt : Int)) (kt : 0 ≤ x → MW p l e R s m args below meth c X nL cells slots Q w tgt lv st) (kf : ¬ 0 ≤ x → MW p l e R s m args below meth c X nL cells slots Q w (pc + 3) lv st) : MW p l e R s m args below meth c X nL cells slots Q w pc lv (.int x :: st) := fun H locs ls h1 h2 h3 => lv_if_ge C.1.1 C.1.2.1 hdg ht (fun q => kt q H locs ls h1 h2 h3) (fun q => kf q H locs ls h1 h2 h3)
theorem pw_if_gt (C : Cx p s m args c cc nL own X) {x : Int32} {off : Int} (tgt : Nat) (hdg : decode cc pc = .ok (.ifCond .gt off, 3)) (ht : (pc : Int) + off = (tgt : Int)) (kt : 0 < x → MW p l e R s m args below meth c X nL cells slots Q w tgt lv st) (kf : ¬ 0 < x → MW p l e R s m args below meth c X nL cells slots Q w (pc + 3) lv st) : MW p l e R s m args below meth c X nL cells slots Q w pc lv (.int x :: st) := fun H locs ls h1 h2 h3 => lv_if_gt C.1.1 C.1.2.1 hdg ht (fun q => kt q H locs ls h1 h2 h3) (fun q => kf q H locs ls h1 h2 h3)
theorem pw_if_le (C : Cx p s m args c cc nL own X) {x : Int32} {off : Int} (tgt : Nat) (hdg : decode cc pc = .ok (.ifCond .le off, 3)) (ht : (pc : Int) + off = (tgt : Int)) (kt : x ≤ 0 → MW p l e R s m args below meth c X nL cells slots Q w tgt lv st) (kf : ¬ x ≤ 0 → MW p l e R s m args below meth c X nL cells slots Q w (pc + 3) lv st) : MW p l e R s m args below meth c X nL cells slots Q w pc lv (.int x :: st) := fun H locs ls h1 h2 h3 => lv_if_le C.1.1 C.1.2.1 hdg ht (fun q => kt q H locs ls h1 h2 h3) (fun q => kf q H locs ls h1 h2 h3)
theorem pw_icmp_eq (C : Cx p s m args c cc nL own X) {x y : Int32} {off : Int} (tgt : Nat) (hdg : decode cc pc = .ok (.if_icmp .eq off, 3)) (ht : (pc : Int) + off = (tgt : Int)) (kt : x = y → MW p l e R s m args below meth c X nL cells slots Q w tgt lv st) (kf : ¬ x = y → MW p l e R s m args below meth c X nL cells slots Q w (pc + 3) lv st) : MW p l e R s m args below meth c X nL cells slots Q w pc lv (.int y :: .int x :: st) := fun H locs ls h1 h2 h3 => lv_icmp_eq C.1.1 C.1.2.1 hdg ht (fun q => kt q H locs ls h1 h2 h3) (fun q => kf q H locs ls h1 h2 h3)
theorem pw_icmp_ne (C : Cx p s m args c cc nL own X) {x y : Int32} {off : Int} (tgt : Nat) (hdg : decode cc pc = .ok (.if_icmp .ne off, 3)) (ht : (pc : Int) + off = (tgt : Int)) (kt : ¬ x = y → MW p l e R s m args below meth c X nL cells slots Q w tgt lv st) (kf : x = y → MW p l e R s m args below meth c X nL cells slots Q w (pc + 3) lv st) : MW p l e R s m args below meth c X nL cells slots Q w pc lv (.int y :: .int x :: st) := fun H locs ls h1 h2 h3 => lv_icmp_ne C.1.1 C.1.2.1 hdg ht (fun q => kt q H locs ls h1 h2 h3) (fun q => kf q H locs ls h1 h2 h3)
theorem pw_icmp_lt (C : Cx p s m args c cc nL own X) {x y : Int32} {off : Int} (tgt : Nat) (hdg : decode cc pc = .ok (.if_icmp .lt off, 3)) (ht : (pc : Int) + off = (tgt : Int)) (kt : x < y → MW p l e R s m args below meth c X nL cells slots Q w tgt lv st) (kf : ¬ x < y → MW p l e R s m args below meth c X nL cells slots Q w (pc + 3) lv st) : MW p l e R s m args below meth c X nL cells slots Q w pc lv (.int y :: .int x :: st) := fun H locs ls h1 h2 h3 => lv_icmp_lt C.1.1 C.1.2.1 hdg ht (fun q => kt q H locs ls h1 h2 h3) (fun q => kf q H locs ls h1 h2 h3)
theorem pw_icmp_ge (C : Cx p s m args c cc nL own X) {x y : Int32} {off : Int} (tgt : Nat) (hdg : decode cc pc = .ok (.if_icmp .ge off, 3)) (ht : (pc : Int) + off = (tgt : Int)) (kt : y ≤ x → MW p l e R s m args below meth c X nL cells slots Q w tgt lv st) (kf : ¬ y ≤ x → MW p l e R s m args below meth c X nL cells slots Q w (pc + 3) lv st) : MW p l e R s m args below meth c X nL cells slots Q w pc lv (.int y :: .int x :: st) := fun H locs ls h1 h2 h3 => lv_icmp_ge C.1.1 C.1.2.1 hdg ht (fun q => kt q H locs ls h1 h2 h3) (fun q => kf q H locs ls h1 h2 h3)
theorem pw_icmp_gt (C : Cx p s m args c cc nL own X) {x y : Int32} {off : Int} (tgt : Nat) (hdg : decode cc pc = .ok (.if_icmp .gt off, 3)) (ht : (pc : Int) + off = (tgt : Int)) (kt : y < x → MW p l e R s m args below meth c X nL cells slots Q w tgt lv st) (kf : ¬ y < x → MW p l e R s m args below meth c X nL cells slots Q w (pc + 3) lv st) : MW p l e R s m args below meth c X nL cells slots Q w pc lv (.int y :: .int x :: st) := fun H locs ls h1 h2 h3 => lv_icmp_gt C.1.1 C.1.2.1 hdg ht (fun q => kt q H locs ls h1 h2 h3) (fun q => kf q H locs ls h1 h2 h3)
theorem pw_icmp_le (C : Cx p s m args c cc nL own X) {x y : Int32} {off : Int} (tgt : Nat) (hdg : decode cc pc = .ok (.if_icmp .le off, 3)) (ht : (pc : Int) + off = (tgt : Int)) (kt : x ≤ y → MW p l e R s m args below meth c X nL cells slots Q w tgt lv st) (kf : ¬ x ≤ y → MW p l e R s m args below meth c X nL cells slots Q w (pc + 3) lv st) : MW p l e R s m args below meth c X nL cells slots Q w pc lv (.int y :: .int x :: st) := fun H locs ls h1 h2 h3 => lv_icmp_le C.1.1 C.1.2.1 hdg ht (fun q => kt q H locs ls h1 h2 h3) (fun q => kf q H locs ls h1 h2 h3)
theorem pw_tableIn (C : Cx p s m args c cc nL own X) {dflt lo hi : Int} {offs : Array Int} {len : Nat} {x : Int32} {off : Int} (tgt : Nat) (hdg : decode cc pc = .ok (.tableswitch dflt lo hi offs, len)) (hl1 : ¬ x.toInt < lo) (hl2 : ¬ hi < x.toInt) (ho : offs[(x.toInt - lo).toNat]? = some off) (ht : (pc : Int) + off = (tgt : Int)) (k : MW p l e R s m args below meth c X nL cells slots Q w tgt lv st) : MW p l e R s m args below meth c X nL cells slots Q w pc lv (.int x :: st) := fun H locs ls h1 h2 h3 => lv_tableIn C.1.1 C.1.2.1 hdg hl1 hl2 ho ht (k H locs ls h1 h2 h3)
theorem pw_tableOut (C : Cx p s m args c cc nL own X) {dflt lo hi : Int} {offs : Array Int} {len : Nat} {x : Int32} (tgt : Nat) (hdg : decode cc pc = .ok (.tableswitch dflt lo hi offs, len)) (ho : x.toInt < lo ∨ hi < x.toInt) (ht : (pc : Int) + dflt = (tgt : Int)) (k : MW p l e R s m args below meth c X nL cells slots Q w tgt lv st) : MW p l e R s m args below meth c X nL cells slots Q w pc lv (.int x :: st) := fun H locs ls h1 h2 h3 => lv_tableOut C.1.1 C.1.2.1 hdg ho ht (k H locs ls h1 h2 h3)
theorem pw_lookup (C : Cx p s m args c cc nL own X) {dflt : Int} {ps : Array (Int × Int)} {len : Nat} {x : Int32} {off : Int} (tgt : Nat) (hdg : decode cc pc = .ok (.lookupswitch dflt ps, len)) (hp : (ps.toList.zip (ps.toList.drop 1)).all (fun (a, next) => a.1 < next.1) = true) (ho : Op.lookupswitch.offset ps.toList dflt x.toInt = off) (ht : (pc : Int) + off = (tgt : Int)) (k : MW p l e R s m args below meth c X nL cells slots Q w tgt lv st) : MW p l e R s m args below meth c X nL cells slots Q w pc lv (.int x :: st) := fun H locs ls h1 h2 h3 => lv_lookup C.1.1 C.1.2.1 hdg hp ho ht (k H locs ls h1 h2 h3)
theorem pw_one {H : Heap} {g i : Nat} {e : va_E} (h : pw_H X w H) (hd : pw_d X g i) (hw : w g i = e) : va_P (pw_D X) vwCl [(pw_a X g i, e)] H := by
  intro k q hk
  have hz : k < 1 := (List.getElem?_eq_some_iff.mp hk).1
  rw [show k = 0 by omega] at hk
  cases hk
  rw [← hw]
  exact h g i hd
theorem pw_iald (C : Cx p s m args c cc nL own X) {g i n : Nat} {f : Nat → Int32} {j : Int32} (hdg : decode cc pc = .ok (.iaload, 1)) (hd : pw_d X g i) (hw : w g i = aI X n f) (hin : vp_in j n) (k : MW p l e R s m args below meth c X nL cells slots Q w (pc + 1) lv (.int (f j.toNatClampNeg) :: st)) : MW p l e R s m args below meth c X nL cells slots Q w pc lv (.int j :: .ref (pw_a X g i) :: st) := fun H locs ls h1 h2 h3 => va_iald C.1.1 C.1.2.1 C.2.1.1 (pw_one h1 hd hw) 0 0 rfl rfl hin hdg (k H locs ls h1 h2 h3)
theorem pw_lald (C : Cx p s m args c cc nL own X) {g i n : Nat} {f : Nat → Int64} {j : Int32} (hdg : decode cc pc = .ok (.laload, 1)) (hd : pw_d X g i) (hw : w g i = aL X n f) (hin : vp_in j n) (k : MW p l e R s m args below meth c X nL cells slots Q w (pc + 1) lv (.long (f j.toNatClampNeg) :: st)) : MW p l e R s m args below meth c X nL cells slots Q w pc lv (.int j :: .ref (pw_a X g i) :: st) := fun H locs ls h1 h2 h3 => va_lald C.1.1 C.1.2.1 C.2.1.1 (pw_one h1 hd hw) 0 1 rfl rfl hin hdg (k H locs ls h1 h2 h3)
theorem pw_aald (C : Cx p s m args c cc nL own X) {g i n : Nat} {f : Nat → Option Nat} {j : Int32} {v : Nat} (hdg : decode cc pc = .ok (.aaload, 1)) (hd : pw_d X g i) (hw : w g i = aQ X n f) (hin : vp_in j n) (hv : f j.toNatClampNeg = some v) (k : MW p l e R s m args below meth c X nL cells slots Q w (pc + 1) lv (.ref v :: st)) : MW p l e R s m args below meth c X nL cells slots Q w pc lv (.int j :: .ref (pw_a X g i) :: st) := fun H locs ls h1 h2 h3 => by
  have hlt : j.toNatClampNeg < n := Nat.not_le.mp fun q => hin (Or.inr q)
  exact W.aald (v := .ref v) (ty := .array .long) C.1.1 C.1.2.1 (pw_one h1 hd hw 0 _ rfl) ((C.2.1.1.2 2 _ rfl).1 n (fun j => va_rf (f j))) rfl (fun q => by cases q) (by show ¬ (j < 0 ∨ (arrV _ _ _).slots.size ≤ _); rw [arrV_size]; exact hin) (by show (arrV _ _ _).slots[_]? = _; rw [arrV_read _ _ hlt, hv]; rfl) rfl rfl hdg (k H locs ls h1 h2 h3)
theorem pw_alenI (C : Cx p s m args c cc nL own X) {g i n : Nat} {f : Nat → Int32} (hdg : decode cc pc = .ok (.arraylength, 1)) (hd : pw_d X g i) (hw : w g i = aI X n f) (k : MW p l e R s m args below meth c X nL cells slots Q w (pc + 1) lv (.int (Int32.ofNat n) :: st)) : MW p l e R s m args below meth c X nL cells slots Q w pc lv (.ref (pw_a X g i) :: st) := fun H locs ls h1 h2 h3 => va_alen C.1.1 C.1.2.1 C.2.1.1 (pw_one h1 hd hw) 0 0 rfl rfl rfl hdg (k H locs ls h1 h2 h3)
theorem pw_alenL (C : Cx p s m args c cc nL own X) {g i n : Nat} {f : Nat → Int64} (hdg : decode cc pc = .ok (.arraylength, 1)) (hd : pw_d X g i) (hw : w g i = aL X n f) (k : MW p l e R s m args below meth c X nL cells slots Q w (pc + 1) lv (.int (Int32.ofNat n) :: st)) : MW p l e R s m args below meth c X nL cells slots Q w pc lv (.ref (pw_a X g i) :: st) := fun H locs ls h1 h2 h3 => va_alen C.1.1 C.1.2.1 C.2.1.1 (pw_one h1 hd hw) 0 1 rfl rfl rfl hdg (k H locs ls h1 h2 h3)
theorem pw_iast (C : Cx p s m args c cc nL own X) {g i n : Nat} {f : Nat → Int32} {j : Int32} {x : Int32} (hdg : decode cc pc = .ok (.iastore, 1)) (hd : pw_d X g i) (hw : w g i = aI X n f) (hin : vp_in j n) (k : MW p l e R s m args below meth c X nL cells slots Q (pw_up w g i (aI X n (upd f j.toNatClampNeg x))) (pc + 1) lv st) : MW p l e R s m args below meth c X nL cells slots Q w pc lv (.int x :: .int j :: .ref (pw_a X g i) :: st) := fun H locs ls h1 h2 h3 => by
  refine W.iast C.1.1 C.1.2.1 (pw_one h1 hd hw 0 _ rfl) ((C.2.1.1.2 0 _ rfl).1 n (fun j => .int (f j))) (fun q => by cases q) (by show ¬ (j < 0 ∨ (arrV _ _ _).slots.size ≤ _); rw [arrV_size]; exact hin) rfl rfl hdg fun H1 e1 z1 oq => ?_
  refine k H1 _ ls (h1.set C.2.2.1 hd ?_ oq) (h2.put z1 oq (C.2.2.1.2 g i hd)) h3
  show H1[pw_a X g i]? = some (vp_cell _ _)
  rw [e1]
  rw [vp_cell_i, vp_cell_i, arrV_store]
  congr 2
  funext q
  by_cases hq : q = j.toNatClampNeg
  · subst hq
    simp [updV, upd]
  · simp [updV, upd, hq]
theorem pw_last (C : Cx p s m args c cc nL own X) {g i n : Nat} {f : Nat → Int64} {j : Int32} {x : Int64} (hdg : decode cc pc = .ok (.lastore, 1)) (hd : pw_d X g i) (hw : w g i = aL X n f) (hin : vp_in j n) (k : MW p l e R s m args below meth c X nL cells slots Q (pw_up w g i (aL X n (vp_updL f j.toNatClampNeg x))) (pc + 1) lv st) : MW p l e R s m args below meth c X nL cells slots Q w pc lv (.long x :: .int j :: .ref (pw_a X g i) :: st) := fun H locs ls h1 h2 h3 => by
  refine W.last C.1.1 C.1.2.1 (pw_one h1 hd hw 0 _ rfl) ((C.2.1.1.2 1 _ rfl).1 n (fun j => .long (f j))) (fun q => by cases q) (by show ¬ (j < 0 ∨ (arrV _ _ _).slots.size ≤ _); rw [arrV_size]; exact hin) rfl rfl hdg fun H1 e1 z1 oq => ?_
  refine k H1 _ ls (h1.set C.2.2.1 hd ?_ oq) (h2.put z1 oq (C.2.2.1.2 g i hd)) h3
  show H1[pw_a X g i]? = some (vp_cell _ _)
  rw [e1]
  rw [vp_cell_l, vp_cell_l, arrV_store]
  congr 2
  funext q
  by_cases hq : q = j.toNatClampNeg
  · subst hq
    simp [updV, vp_updL]
  · simp [updV, vp_updL, hq]
theorem pw_zald (C : Cx p s m args c cc nL own X) {g i n : Nat} {f : Nat → Int32} {j : Int32} (hdg : decode cc pc = .ok (.baload, 1)) (hd : pw_d X g i) (hw : w g i = aZ X n f) (hin : vp_in j n) (k : MW p l e R s m args below meth c X nL cells slots Q w (pc + 1) lv (.int (f j.toNatClampNeg) :: st)) : MW p l e R s m args below meth c X nL cells slots Q w pc lv (.int j :: .ref (pw_a X g i) :: st) := fun H locs ls h1 h2 h3 => va_zald C.1.1 C.1.2.1 C.2.1.1 (pw_one h1 hd hw) 0 3 rfl rfl hin hdg (k H locs ls h1 h2 h3)
theorem pw_zast (C : Cx p s m args c cc nL own X) {g i n : Nat} {f : Nat → Int32} {j x : Int32} (hdg : decode cc pc = .ok (.bastore, 1)) (hd : pw_d X g i) (hw : w g i = aZ X n f) (hin : vp_in j n) (k : MW p l e R s m args below meth c X nL cells slots Q (pw_up w g i (aZ X n (upd f j.toNatClampNeg (vp_nar .boolean x)))) (pc + 1) lv st) : MW p l e R s m args below meth c X nL cells slots Q w pc lv (.int x :: .int j :: .ref (pw_a X g i) :: st) := fun H locs ls h1 h2 h3 => by
  refine W.zast C.1.1 C.1.2.1 (pw_one h1 hd hw 0 _ rfl) ((C.2.1.1.2 3 _ rfl).1 n (fun j => .int (f j))) (fun q => by cases q) (by show ¬ (j < 0 ∨ (arrV _ _ _).slots.size ≤ _); rw [arrV_size]; exact hin) rfl rfl hdg fun H1 e1 z1 oq => ?_
  refine k H1 _ ls (h1.set C.2.2.1 hd ?_ oq) (h2.put z1 oq (C.2.2.1.2 g i hd)) h3
  show H1[pw_a X g i]? = some (vp_cell _ _)
  rw [e1]
  rw [vp_cell_i, vp_cell_i, arrV_store]
  congr 2
  funext q
  by_cases hq : q = j.toNatClampNeg
  · subst hq
    simp [updV, upd]
    rfl
  · simp [updV, upd, hq]
theorem pw_ialdK (C : Cx p s m args c cc nL own X) {g i n k0 : Nat} {f : Nat → Int32} (hdg : decode cc pc = .ok (.iaload, 1)) (hd : pw_d X g i) (hw : w g i = aI X n f) (hk : k0 < n) (k : MW p l e R s m args below meth c X nL cells slots Q w (pc + 1) lv (.int (f k0) :: st)) (hn : n < 2 ^ 31 := by decide) : MW p l e R s m args below meth c X nL cells slots Q w pc lv (.int (nI k0) :: .ref (pw_a X g i) :: st) := pw_iald C hdg hd hw (vp_in_nI hk hn) (by rw [nI_clamp (Nat.lt_trans hk hn)]; exact k)
theorem pw_laldK (C : Cx p s m args c cc nL own X) {g i n k0 : Nat} {f : Nat → Int64} (hdg : decode cc pc = .ok (.laload, 1)) (hd : pw_d X g i) (hw : w g i = aL X n f) (hk : k0 < n) (k : MW p l e R s m args below meth c X nL cells slots Q w (pc + 1) lv (.long (f k0) :: st)) (hn : n < 2 ^ 31 := by decide) : MW p l e R s m args below meth c X nL cells slots Q w pc lv (.int (nI k0) :: .ref (pw_a X g i) :: st) := pw_lald C hdg hd hw (vp_in_nI hk hn) (by rw [nI_clamp (Nat.lt_trans hk hn)]; exact k)
theorem pw_aaldK (C : Cx p s m args c cc nL own X) {g i n k0 v : Nat} {f : Nat → Option Nat} (hdg : decode cc pc = .ok (.aaload, 1)) (hd : pw_d X g i) (hw : w g i = aQ X n f) (hk : k0 < n) (hv : f k0 = some v) (k : MW p l e R s m args below meth c X nL cells slots Q w (pc + 1) lv (.ref v :: st)) (hn : n < 2 ^ 31 := by decide) : MW p l e R s m args below meth c X nL cells slots Q w pc lv (.int (nI k0) :: .ref (pw_a X g i) :: st) := pw_aald C hdg hd hw (vp_in_nI hk hn) (by rw [nI_clamp (Nat.lt_trans hk hn)]; exact hv) k
theorem pw_iastK (C : Cx p s m args c cc nL own X) {g i n k0 : Nat} {f : Nat → Int32} {x : Int32} (hdg : decode cc pc = .ok (.iastore, 1)) (hd : pw_d X g i) (hw : w g i = aI X n f) (hk : k0 < n) (k : MW p l e R s m args below meth c X nL cells slots Q (pw_up w g i (aI X n (upd f k0 x))) (pc + 1) lv st) (hn : n < 2 ^ 31 := by decide) : MW p l e R s m args below meth c X nL cells slots Q w pc lv (.int x :: .int (nI k0) :: .ref (pw_a X g i) :: st) := pw_iast C hdg hd hw (vp_in_nI hk hn) (by rw [nI_clamp (Nat.lt_trans hk hn)]; exact k)
theorem pw_lastK (C : Cx p s m args c cc nL own X) {g i n k0 : Nat} {f : Nat → Int64} {x : Int64} (hdg : decode cc pc = .ok (.lastore, 1)) (hd : pw_d X g i) (hw : w g i = aL X n f) (hk : k0 < n) (k : MW p l e R s m args below meth c X nL cells slots Q (pw_up w g i (aL X n (vp_updL f k0 x))) (pc + 1) lv st) (hn : n < 2 ^ 31 := by decide) : MW p l e R s m args below meth c X nL cells slots Q w pc lv (.long x :: .int (nI k0) :: .ref (pw_a X g i) :: st) := pw_last C hdg hd hw (vp_in_nI hk hn) (by rw [nI_clamp (Nat.lt_trans hk hn)]; exact k)
theorem pw_iinc1 (C : Cx p s m args c cc nL own X) {i k0 : Nat} (hdg : decode cc pc = .ok (.iinc i 1, 3)) (hv : lv[i]? = some (some (.int (nI k0)))) (hn : i < nL) (k : MW p l e R s m args below meth c X nL cells slots Q w (pc + 3) (pw_p1 lv i (.int (nI (k0 + 1)))) st) : MW p l e R s m args below meth c X nL cells slots Q w pc lv st := pw_iinc C hdg hv hn (by rw [show nI k0 + Int32.ofInt 1 = nI (k0 + 1) from nI_1 k0]; exact k)
theorem pw_get (C : Cx p s m args c cc nL own X) {g i ci index N : Nat} {fs : List Value} {Cn ref : String} {T : u_T} {v : Value} (hdg : decode cc pc = .ok (.getfield index, 3)) (hd : pw_d X g i) (hw : w g i = oB ci fs) (k0 : Nat) (hv : fs[k0]? = some v) (hc : vwCl[ci]? = some (Cn, T, N)) (hk : k0 < N) (hin : ∀ q ∈ u_ws Cn T N, q ∈ pw_all) (hl : Cond.fieldLink own index ref (T k0).2.1 (T k0).2.2.1 ∈ pw_all) (hsame : (T k0).1 = ref) (k : MW p l e R s m args below meth c X nL cells slots Q w (pc + 3) lv (v :: st)) : MW p l e R s m args below meth c X nL cells slots Q w pc lv (.ref (pw_a X g i) :: st) := fun H locs ls h1 h2 h3 => va_get C.1.1 C.1.2.1 C.1.2.2.2.2 hin C.1.2.2.2.1 C.2.1.1 (pw_one h1 hd hw) 0 rfl hc k0 hk (C.1.2.2.2.2 _ hl) (fun x9 h9 => by rw [← hsame]; exact h9) hv hdg (k H locs ls h1 h2 h3)
theorem pw_getN (C : Cx p s m args c cc nL own X) {g i ci index N : Nat} {fs : List Value} {Cn ref : String} {T : u_T} {host : String} {v : Value} (hdg : decode cc pc = .ok (.getfield index, 3)) (hd : pw_d X g i) (hw : w g i = oB ci fs) (k0 : Nat) (hv : fs[k0]? = some v) (hc : vwCl[ci]? = some (Cn, T, N)) (hk : k0 < N) (hin : ∀ q ∈ u_ws Cn T N, q ∈ pw_all) (hl : Cond.fieldLinkNest own index ref (T k0).2.1 (T k0).2.2.1 host ∈ pw_nw) (hsame : (T k0).1 = ref) (k : MW p l e R s m args below meth c X nL cells slots Q w (pc + 3) lv (v :: st)) : MW p l e R s m args below meth c X nL cells slots Q w pc lv (.ref (pw_a X g i) :: st) := fun H locs ls h1 h2 h3 => va_getN C.1.1 C.1.2.1 C.1.2.2.2.2 hin C.1.2.2.2.1 C.2.1.1 (pw_one h1 hd hw) 0 rfl hc k0 hk (va_Nw.use (pw_isN_on (pw_nw_ok _ hl)) (C.2.1.2 _ hl)) (fun x9 h9 => by rw [← hsame]; exact h9) hv hdg (k H locs ls h1 h2 h3)
theorem pw_put (C : Cx p s m args c cc nL own X) {g i ci index N : Nat} {fs : List Value} {Cn ref : String} {T : u_T} {v : Value} {ty : FieldType} (hdg : decode cc pc = .ok (.putfield index, 3)) (hd : pw_d X g i) (hw : w g i = oB ci fs) (k0 : Nat) (hl9 : k0 < fs.length) (hc : vwCl[ci]? = some (Cn, T, N)) (hk : k0 < N) (hin : ∀ q ∈ u_ws Cn T N, q ∈ pw_all) (ty0 : Nat → FieldType) (hty : ∀ k, k < N → parseFieldDescriptor (T k).2.2.1 = some (ty0 k)) (hnm : ∀ a, a < N → ∀ b, b < N → a ≠ b → (T a).2.1 ≠ (T b).2.1) (hl : Cond.fieldLink own index ref (T k0).2.1 (T k0).2.2.1 ∈ pw_all) (hsame : (T k0).1 = ref) (hfin : (T k0).2.2.2 = false) (hdd : parseFieldDescriptor (T k0).2.2.1 = some ty) (hn : narrow ty v = v) (hfit : fits ty v = true) (k : MW p l e R s m args below meth c X nL cells slots Q (pw_up w g i (oB ci (fs.set k0 v))) (pc + 3) lv st) : MW p l e R s m args below meth c X nL cells slots Q w pc lv (v :: .ref (pw_a X g i) :: st) := fun H locs ls h1 h2 h3 => by
  subst hsame
  have hK := C.2.1.1
  have hts := C.1.2.2.2.2
  have hap := va_apart (own := own) hts hin ty0 hty hnm hK hc
  obtain ⟨r, g1, cell, q1, q2, q3, q4⟩ := pw_one h1 hd hw 0 _ rfl
  have hr : r = (Cn, T, N) := Option.some.inj (g1.symm.trans hc)
  subst hr
  obtain ⟨hS, hfc, kC, hkC, hkind⟩ := hK.1 ci _ hc
  obtain ⟨cf, kf, fi, f, hi, hsl⟩ := hS k0 hk
  have hlay := hts _ (hin _ (u_in_lay hk))
  unfold u_lay at hlay
  rw [if_neg (by rw [hfin]; decide)] at hlay
  have hst := (u_facts hfc hkC (u_lays hts hin hk) hi).1
  have h6 := u_store hfc hkC hkind hlay hi hdd hn hfit
  refine W.putK C.1.1 C.1.2.1 (f := f) ⟨C.1.2.2.2.1, (C.1.2.2.2.2 _ hl), ⟨_, _, _, hi⟩, hst⟩ (by rw [q2]; exact h6) q1 q3 (by rw [hsl]; exact k2_hasslot (q4 k0 hk)) rfl rfl hdg fun H1 e1 e2 e3 => ?_
  rw [hsl] at e1 ⊢
  exact k H1 _ ls (h1.set C.2.2.1 hd ⟨_, hc, t_OB.to (V := updV (vp_V fs) k0 v) ⟨_, e1, q2, q3, t_set q4 hap hk v⟩ (fun j _ => vp_updV_set hl9 v j)⟩ e3) (h2.put e2 e3 (C.2.2.1.2 g i hd)) h3
theorem pw_putN (C : Cx p s m args c cc nL own X) {g i ci index N : Nat} {fs : List Value} {Cn ref : String} {T : u_T} {host : String} {v : Value} {ty : FieldType} (hdg : decode cc pc = .ok (.putfield index, 3)) (hd : pw_d X g i) (hw : w g i = oB ci fs) (k0 : Nat) (hl9 : k0 < fs.length) (hc : vwCl[ci]? = some (Cn, T, N)) (hk : k0 < N) (hin : ∀ q ∈ u_ws Cn T N, q ∈ pw_all) (ty0 : Nat → FieldType) (hty : ∀ k, k < N → parseFieldDescriptor (T k).2.2.1 = some (ty0 k)) (hnm : ∀ a, a < N → ∀ b, b < N → a ≠ b → (T a).2.1 ≠ (T b).2.1) (hl : Cond.fieldLinkNest own index ref (T k0).2.1 (T k0).2.2.1 host ∈ pw_nw) (hsame : (T k0).1 = ref) (hfin : (T k0).2.2.2 = false) (hdd : parseFieldDescriptor (T k0).2.2.1 = some ty) (hn : narrow ty v = v) (hfit : fits ty v = true) (k : MW p l e R s m args below meth c X nL cells slots Q (pw_up w g i (oB ci (fs.set k0 v))) (pc + 3) lv st) : MW p l e R s m args below meth c X nL cells slots Q w pc lv (v :: .ref (pw_a X g i) :: st) := fun H locs ls h1 h2 h3 => by
  subst hsame
  have hK := C.2.1.1
  have hts := C.1.2.2.2.2
  have hap := va_apart (own := own) hts hin ty0 hty hnm hK hc
  obtain ⟨r, g1, cell, q1, q2, q3, q4⟩ := pw_one h1 hd hw 0 _ rfl
  have hr : r = (Cn, T, N) := Option.some.inj (g1.symm.trans hc)
  subst hr
  obtain ⟨hS, hfc, kC, hkC, hkind⟩ := hK.1 ci _ hc
  obtain ⟨cf, kf, fi, f, hi, hsl⟩ := hS k0 hk
  have hlay := hts _ (hin _ (u_in_lay hk))
  unfold u_lay at hlay
  rw [if_neg (by rw [hfin]; decide)] at hlay
  have hst := (u_facts hfc hkC (u_lays hts hin hk) hi).1
  have h6 := u_store hfc hkC hkind hlay hi hdd hn hfit
  refine va_WputK C.1.1 C.1.2.1 (f := f) C.1.2.2.2.1 (va_Nw.use (pw_isN_on (pw_nw_ok _ hl)) (C.2.1.2 _ hl)) hi hst (by rw [q2]; exact h6) q1 q3 (by rw [hsl]; exact k2_hasslot (q4 k0 hk)) rfl rfl hdg fun H1 e1 e2 e3 => ?_
  rw [hsl] at e1 ⊢
  exact k H1 _ ls (h1.set C.2.2.1 hd ⟨_, hc, t_OB.to (V := updV (vp_V fs) k0 v) ⟨_, e1, q2, q3, t_set q4 hap hk v⟩ (fun j _ => vp_updV_set hl9 v j)⟩ e3) (h2.put e2 e3 (C.2.2.1.2 g i hd)) h3
theorem pw_iret (C : Cx p s m args c cc nL own X) {post : Int32 → Wd → Prop} {v : Int32} (hr : meth.sig.returnType = some .int) (hlk : meth.locks = false) (hdg : decode cc pc = .ok (.ireturn, 1)) (hp : post v w) : MW p l e R s m args below meth c X nL cells slots (MQ below (va_Qi post (pw_B X) (pw_F X)) args s cells slots (pw_F X)) w pc lv [.int v] := fun H locs ls h1 h2 h3 => W.iret C.1.1 C.1.2.1 hr (fun t ht hW => ⟨⟨v, w, rfl, hp, by unfold pw_B; rw [ht]; exact h1⟩, h2.F ht⟩) h2.2.2 hdg hlk
theorem pw_zret (C : Cx p s m args c cc nL own X) {post : Int32 → Wd → Prop} {v : Int32} {ty : FieldType} (hr : meth.sig.returnType = some ty) (hn : narrow ty (.int v) = .int v) (hlk : meth.locks = false) (hdg : decode cc pc = .ok (.ireturn, 1)) (hp : post v w) : MW p l e R s m args below meth c X nL cells slots (MQ below (va_Qi post (pw_B X) (pw_F X)) args s cells slots (pw_F X)) w pc lv [.int v] := fun H locs ls h1 h2 h3 => W.zret C.1.1 C.1.2.1 hr hn (fun t ht hW => ⟨⟨v, w, rfl, hp, by unfold pw_B; rw [ht]; exact h1⟩, h2.F ht⟩) h2.2.2 hdg hlk
theorem pw_lret (C : Cx p s m args c cc nL own X) {post : Int64 → Wd → Prop} {v : Int64} (hr : meth.sig.returnType = some .long) (hlk : meth.locks = false) (hdg : decode cc pc = .ok (.lreturn, 1)) (hp : post v w) : MW p l e R s m args below meth c X nL cells slots (MQ below (va_Ql post (pw_B X) (pw_F X)) args s cells slots (pw_F X)) w pc lv [.long v] := fun H locs ls h1 h2 h3 => W.lret C.1.1 C.1.2.1 hr (fun t ht hW => ⟨⟨v, w, rfl, hp, by unfold pw_B; rw [ht]; exact h1⟩, h2.F ht⟩) h2.2.2 hdg hlk
theorem pw_vret (C : Cx p s m args c cc nL own X) {post : Wd → Prop} (hr : meth.sig.returnType = none) (hlk : meth.locks = false) (hdg : decode cc pc = .ok (.return_, 1)) (hp : post w) : MW p l e R s m args below meth c X nL cells slots (MQ below (va_Qv post (pw_B X) (pw_F X)) args s cells slots (pw_F X)) w pc lv [] := fun H locs ls h1 h2 h3 => W.vret C.1.1 C.1.2.1 hr (fun t ht hW => ⟨⟨w, rfl, hp, by unfold pw_B; rw [ht]; exact h1⟩, h2.F ht⟩) h2.2.2 hdg hlk
theorem pw_aret (C : Cx p s m args c cc nL own X) {post : Wd → Prop} {g i : Nat} {t0 : FieldType} (hr : meth.sig.returnType = some (.array t0)) (hlk : meth.locks = false) (hdg : decode cc pc = .ok (.areturn, 1)) (hp : post w) : MW p l e R s m args below meth c X nL cells slots (MQ below (va_Qr post (fun w a t => a = pw_a X g i ∧ pw_H X w t.heap) (pw_F X)) args s cells slots (pw_F X)) w pc lv [.ref (pw_a X g i)] := fun H locs ls h1 h2 h3 => W.aret C.1.1 C.1.2.1 hr (Or.inr ⟨_, rfl⟩) (Or.inr ⟨_, rfl⟩) (fun t ht hW => ⟨⟨w, _, rfl, hp, rfl, by rw [ht]; exact h1⟩, h2.F ht⟩) h2.2.2 hdg hlk
theorem pw_pre (C : Cx p s m args c cc nL own X) {H : Heap} {locs : List Loc} (h1 : pw_H X w H) (h2 : va_S (fun q => pw_z X ≤ q) s.heap H locs) (As : List Value) : PreS s H (pw_Pc X w As) As := ⟨pw_Pc.blind, fun U hU hW => ⟨rfl, by rw [hU]; exact Nat.le_trans C.2.2.2 h2.1, by rw [hU]; exact h1, C.2.1.warm hW⟩⟩
theorem pw_preV (C : Cx p s m args c cc nL own X) {H : Heap} {locs : List Loc} (h1 : pw_H X w H) (h2 : va_S (fun q => pw_z X ≤ q) s.heap H locs) {g i ci : Nat} {fs : List Value} {q : vw_C} (hd : pw_d X g i) (hw : w g i = oB ci fs) (hc : vwCl[ci]? = some q) (As : List Value) : PreV s H q.1 (pw_a X g i) (pw_Pc X w (.ref (pw_a X g i) :: As)) As := ⟨pw_Pc.blind, va_recv C.2.1.1 (pw_one h1 hd hw) hc (q0 := 0) rfl, fun U hU hW => ⟨rfl, by rw [hU]; exact Nat.le_trans C.2.2.2 h2.1, by rw [hU]; exact h1, C.2.1.warm hW⟩⟩
theorem pw_callSi (C : Cx p s m args c cc nL own X) {y : MethodName} {ws : List Cond} {rm : Room} {bytes : ByteArray} {maxL index n : Nat} {ret : Option FieldType} {As rest : List Value} {post : Int32 → Wd → Prop} (hM : CtI l y ws rm X w As post) (cw : CallB R s args own index y bytes maxL ret ws rm 0 0 n ∧ (Cond.static y).before args s = true) (hn : As.length = n) (hst : st = As.reverse ++ rest) (hcat : (rest.map fun v => v.category).sum ≤ 8) (hdg : decode cc pc = .ok (.invokestatic index, 3)) (hf : cells ≤ R.cells ∧ slots ≤ R.slots) (kk : ∀ (r : Int32) (w' : Wd), post r w' → MW p l e R s m args below meth c X nL cells slots Q w' (pc + 3) lv (.int r :: rest)) : MW p l e R s m args below meth c X nL cells slots Q w pc lv st := fun H locs ls h1 h2 h3 => by
  subst hst
  exact va_calli (va_runS (As := As) (rest := rest) C.1 hM cw (pw_pre C h1 h2 As) rfl hn h3.1 rfl (lv_room hcat) hdg hf) h2 (fun q _ h => h) (fun q h => h) (fun r u t H1 locs1 ht hvm hp hB hz hk hS => kk r u hp H1 locs1 ls (by rw [← ht]; exact hB) hS h3)
theorem pw_callSl (C : Cx p s m args c cc nL own X) {y : MethodName} {ws : List Cond} {rm : Room} {bytes : ByteArray} {maxL index n : Nat} {ret : Option FieldType} {As rest : List Value} {post : Int64 → Wd → Prop} (hM : CtL l y ws rm X w As post) (cw : CallB R s args own index y bytes maxL ret ws rm 0 0 n ∧ (Cond.static y).before args s = true) (hn : As.length = n) (hst : st = As.reverse ++ rest) (hcat : (rest.map fun v => v.category).sum ≤ 8) (hdg : decode cc pc = .ok (.invokestatic index, 3)) (hf : cells ≤ R.cells ∧ slots ≤ R.slots) (kk : ∀ (r : Int64) (w' : Wd), post r w' → MW p l e R s m args below meth c X nL cells slots Q w' (pc + 3) lv (.long r :: rest)) : MW p l e R s m args below meth c X nL cells slots Q w pc lv st := fun H locs ls h1 h2 h3 => by
  subst hst
  exact va_calll (va_runS (As := As) (rest := rest) C.1 hM cw (pw_pre C h1 h2 As) rfl hn h3.1 rfl (lv_room hcat) hdg hf) h2 (fun q _ h => h) (fun q h => h) (fun r u t H1 locs1 ht hvm hp hB hz hk hS => kk r u hp H1 locs1 ls (by rw [← ht]; exact hB) hS h3)
theorem pw_callSv (C : Cx p s m args c cc nL own X) {y : MethodName} {ws : List Cond} {rm : Room} {bytes : ByteArray} {maxL index n : Nat} {ret : Option FieldType} {As rest : List Value} {post : Wd → Prop} (hM : CtV l y ws rm X w As post) (cw : CallB R s args own index y bytes maxL ret ws rm 0 0 n ∧ (Cond.static y).before args s = true) (hn : As.length = n) (hst : st = As.reverse ++ rest) (hcat : (rest.map fun v => v.category).sum ≤ 8) (hdg : decode cc pc = .ok (.invokestatic index, 3)) (hf : cells ≤ R.cells ∧ slots ≤ R.slots) (kk : ∀ w' : Wd, post w' → MW p l e R s m args below meth c X nL cells slots Q w' (pc + 3) lv rest) : MW p l e R s m args below meth c X nL cells slots Q w pc lv st := fun H locs ls h1 h2 h3 => by
  subst hst
  exact va_callv (va_runS (As := As) (rest := rest) C.1 hM cw (pw_pre C h1 h2 As) rfl hn h3.1 rfl (lv_room hcat) hdg hf) h2 (fun q _ h => h) (fun q h => h) (fun u t H1 locs1 ht hvm hp hB hz hk hS => kk u hp H1 locs1 ls (by rw [← ht]; exact hB) hS h3)
theorem pw_callSr (C : Cx p s m args c cc nL own X) {y : MethodName} {ws : List Cond} {rm : Room} {bytes : ByteArray} {maxL index n : Nat} {ret : Option FieldType} {As rest : List Value} {g9 i9 : Nat} {post : Wd → Prop} (hM : CtR l y ws rm X w As g9 i9 post) (cw : CallB R s args own index y bytes maxL ret ws rm 0 0 n ∧ (Cond.static y).before args s = true) (hn : As.length = n) (hst : st = As.reverse ++ rest) (hcat : (rest.map fun v => v.category).sum ≤ 8) (hdg : decode cc pc = .ok (.invokestatic index, 3)) (hf : cells ≤ R.cells ∧ slots ≤ R.slots) (kk : ∀ w' : Wd, post w' → MW p l e R s m args below meth c X nL cells slots Q w' (pc + 3) lv (.ref (pw_a X g9 i9) :: rest)) : MW p l e R s m args below meth c X nL cells slots Q w pc lv st := fun H locs ls h1 h2 h3 => by
  subst hst
  exact va_callr (va_runS (As := As) (rest := rest) C.1 hM cw (pw_pre C h1 h2 As) rfl hn h3.1 rfl (lv_room hcat) hdg hf) h2 (fun q _ h => h) (fun q h => h) (fun u ra t H1 locs1 ht hvm hp hB hz hk hS => by
    obtain ⟨hB1, hB2⟩ := hB
    subst hB1
    exact kk u hp H1 locs1 ls (by rw [← ht]; exact hB2) hS h3)
theorem pw_callSNi (C : Cx p s m args c cc nL own X) {y : MethodName} {ws : List Cond} {rm : Room} {bytes : ByteArray} {maxL index n : Nat} {ret : Option FieldType} {As rest : List Value} {post : Int32 → Wd → Prop} (hM : CtI l y ws rm X w As post) {host : String} (cw : va_CN R s args own index y host bytes maxL ret ws rm 0 0 n ∧ (Cond.static y).before args s = true ∧ True) (hn : As.length = n) (hst : st = As.reverse ++ rest) (hcat : (rest.map fun v => v.category).sum ≤ 8) (hdg : decode cc pc = .ok (.invokestatic index, 3)) (hf : cells ≤ R.cells ∧ slots ≤ R.slots) (kk : ∀ (r : Int32) (w' : Wd), post r w' → MW p l e R s m args below meth c X nL cells slots Q w' (pc + 3) lv (.int r :: rest)) : MW p l e R s m args below meth c X nL cells slots Q w pc lv st := fun H locs ls h1 h2 h3 => by
  subst hst
  exact va_calli (va_runSN (As := As) (rest := rest) C.1 hM cw (pw_pre C h1 h2 As) rfl hn h3.1 rfl (lv_room hcat) hdg hf) h2 (fun q _ h => h) (fun q h => h) (fun r u t H1 locs1 ht hvm hp hB hz hk hS => kk r u hp H1 locs1 ls (by rw [← ht]; exact hB) hS h3)
theorem pw_callSNl (C : Cx p s m args c cc nL own X) {y : MethodName} {ws : List Cond} {rm : Room} {bytes : ByteArray} {maxL index n : Nat} {ret : Option FieldType} {As rest : List Value} {post : Int64 → Wd → Prop} (hM : CtL l y ws rm X w As post) {host : String} (cw : va_CN R s args own index y host bytes maxL ret ws rm 0 0 n ∧ (Cond.static y).before args s = true ∧ True) (hn : As.length = n) (hst : st = As.reverse ++ rest) (hcat : (rest.map fun v => v.category).sum ≤ 8) (hdg : decode cc pc = .ok (.invokestatic index, 3)) (hf : cells ≤ R.cells ∧ slots ≤ R.slots) (kk : ∀ (r : Int64) (w' : Wd), post r w' → MW p l e R s m args below meth c X nL cells slots Q w' (pc + 3) lv (.long r :: rest)) : MW p l e R s m args below meth c X nL cells slots Q w pc lv st := fun H locs ls h1 h2 h3 => by
  subst hst
  exact va_calll (va_runSN (As := As) (rest := rest) C.1 hM cw (pw_pre C h1 h2 As) rfl hn h3.1 rfl (lv_room hcat) hdg hf) h2 (fun q _ h => h) (fun q h => h) (fun r u t H1 locs1 ht hvm hp hB hz hk hS => kk r u hp H1 locs1 ls (by rw [← ht]; exact hB) hS h3)
theorem pw_callSNv (C : Cx p s m args c cc nL own X) {y : MethodName} {ws : List Cond} {rm : Room} {bytes : ByteArray} {maxL index n : Nat} {ret : Option FieldType} {As rest : List Value} {post : Wd → Prop} (hM : CtV l y ws rm X w As post) {host : String} (cw : va_CN R s args own index y host bytes maxL ret ws rm 0 0 n ∧ (Cond.static y).before args s = true ∧ True) (hn : As.length = n) (hst : st = As.reverse ++ rest) (hcat : (rest.map fun v => v.category).sum ≤ 8) (hdg : decode cc pc = .ok (.invokestatic index, 3)) (hf : cells ≤ R.cells ∧ slots ≤ R.slots) (kk : ∀ w' : Wd, post w' → MW p l e R s m args below meth c X nL cells slots Q w' (pc + 3) lv rest) : MW p l e R s m args below meth c X nL cells slots Q w pc lv st := fun H locs ls h1 h2 h3 => by
  subst hst
  exact va_callv (va_runSN (As := As) (rest := rest) C.1 hM cw (pw_pre C h1 h2 As) rfl hn h3.1 rfl (lv_room hcat) hdg hf) h2 (fun q _ h => h) (fun q h => h) (fun u t H1 locs1 ht hvm hp hB hz hk hS => kk u hp H1 locs1 ls (by rw [← ht]; exact hB) hS h3)
theorem pw_callSNr (C : Cx p s m args c cc nL own X) {y : MethodName} {ws : List Cond} {rm : Room} {bytes : ByteArray} {maxL index n : Nat} {ret : Option FieldType} {As rest : List Value} {g9 i9 : Nat} {post : Wd → Prop} (hM : CtR l y ws rm X w As g9 i9 post) {host : String} (cw : va_CN R s args own index y host bytes maxL ret ws rm 0 0 n ∧ (Cond.static y).before args s = true ∧ True) (hn : As.length = n) (hst : st = As.reverse ++ rest) (hcat : (rest.map fun v => v.category).sum ≤ 8) (hdg : decode cc pc = .ok (.invokestatic index, 3)) (hf : cells ≤ R.cells ∧ slots ≤ R.slots) (kk : ∀ w' : Wd, post w' → MW p l e R s m args below meth c X nL cells slots Q w' (pc + 3) lv (.ref (pw_a X g9 i9) :: rest)) : MW p l e R s m args below meth c X nL cells slots Q w pc lv st := fun H locs ls h1 h2 h3 => by
  subst hst
  exact va_callr (va_runSN (As := As) (rest := rest) C.1 hM cw (pw_pre C h1 h2 As) rfl hn h3.1 rfl (lv_room hcat) hdg hf) h2 (fun q _ h => h) (fun q h => h) (fun u ra t H1 locs1 ht hvm hp hB hz hk hS => by
    obtain ⟨hB1, hB2⟩ := hB
    subst hB1
    exact kk u hp H1 locs1 ls (by rw [← ht]; exact hB2) hS h3)
theorem pw_callVi (C : Cx p s m args c cc nL own X) {y : MethodName} {ws : List Cond} {rm : Room} {bytes : ByteArray} {maxL index n : Nat} {ret : Option FieldType} {As rest : List Value} {g i ci : Nat} {fs : List Value} {q9 : vw_C} {post : Int32 → Wd → Prop} (hM : CtI l y ws rm X w (.ref (pw_a X g i) :: As) post) (hd : pw_d X g i) (hw : w g i = oB ci fs) (hc : vwCl[ci]? = some q9) (cw : CallW R s args own q9.1 index y bytes maxL ret ws rm 0 0 n) (hn : As.length = n) (hst : st = As.reverse ++ .ref (pw_a X g i) :: rest) (hcat : (rest.map fun v => v.category).sum ≤ 8) (hdg : decode cc pc = .ok (.invokevirtual index, 3)) (hf : cells ≤ R.cells ∧ slots ≤ R.slots) (kk : ∀ (r : Int32) (w' : Wd), post r w' → MW p l e R s m args below meth c X nL cells slots Q w' (pc + 3) lv (.int r :: rest)) : MW p l e R s m args below meth c X nL cells slots Q w pc lv st := fun H locs ls h1 h2 h3 => by
  subst hst
  exact va_calli (va_runV (As := As) (rest := rest) C.1 hM cw (pw_preV C h1 h2 hd hw hc As) rfl hn h3.1 rfl (lv_room hcat) hdg hf) h2 (fun q _ h => h) (fun q h => h) (fun r u t H1 locs1 ht hvm hp hB hz hk hS => kk r u hp H1 locs1 ls (by rw [← ht]; exact hB) hS h3)
theorem pw_callVl (C : Cx p s m args c cc nL own X) {y : MethodName} {ws : List Cond} {rm : Room} {bytes : ByteArray} {maxL index n : Nat} {ret : Option FieldType} {As rest : List Value} {g i ci : Nat} {fs : List Value} {q9 : vw_C} {post : Int64 → Wd → Prop} (hM : CtL l y ws rm X w (.ref (pw_a X g i) :: As) post) (hd : pw_d X g i) (hw : w g i = oB ci fs) (hc : vwCl[ci]? = some q9) (cw : CallW R s args own q9.1 index y bytes maxL ret ws rm 0 0 n) (hn : As.length = n) (hst : st = As.reverse ++ .ref (pw_a X g i) :: rest) (hcat : (rest.map fun v => v.category).sum ≤ 8) (hdg : decode cc pc = .ok (.invokevirtual index, 3)) (hf : cells ≤ R.cells ∧ slots ≤ R.slots) (kk : ∀ (r : Int64) (w' : Wd), post r w' → MW p l e R s m args below meth c X nL cells slots Q w' (pc + 3) lv (.long r :: rest)) : MW p l e R s m args below meth c X nL cells slots Q w pc lv st := fun H locs ls h1 h2 h3 => by
  subst hst
  exact va_calll (va_runV (As := As) (rest := rest) C.1 hM cw (pw_preV C h1 h2 hd hw hc As) rfl hn h3.1 rfl (lv_room hcat) hdg hf) h2 (fun q _ h => h) (fun q h => h) (fun r u t H1 locs1 ht hvm hp hB hz hk hS => kk r u hp H1 locs1 ls (by rw [← ht]; exact hB) hS h3)
theorem pw_callVv (C : Cx p s m args c cc nL own X) {y : MethodName} {ws : List Cond} {rm : Room} {bytes : ByteArray} {maxL index n : Nat} {ret : Option FieldType} {As rest : List Value} {g i ci : Nat} {fs : List Value} {q9 : vw_C} {post : Wd → Prop} (hM : CtV l y ws rm X w (.ref (pw_a X g i) :: As) post) (hd : pw_d X g i) (hw : w g i = oB ci fs) (hc : vwCl[ci]? = some q9) (cw : CallW R s args own q9.1 index y bytes maxL ret ws rm 0 0 n) (hn : As.length = n) (hst : st = As.reverse ++ .ref (pw_a X g i) :: rest) (hcat : (rest.map fun v => v.category).sum ≤ 8) (hdg : decode cc pc = .ok (.invokevirtual index, 3)) (hf : cells ≤ R.cells ∧ slots ≤ R.slots) (kk : ∀ w' : Wd, post w' → MW p l e R s m args below meth c X nL cells slots Q w' (pc + 3) lv rest) : MW p l e R s m args below meth c X nL cells slots Q w pc lv st := fun H locs ls h1 h2 h3 => by
  subst hst
  exact va_callv (va_runV (As := As) (rest := rest) C.1 hM cw (pw_preV C h1 h2 hd hw hc As) rfl hn h3.1 rfl (lv_room hcat) hdg hf) h2 (fun q _ h => h) (fun q h => h) (fun u t H1 locs1 ht hvm hp hB hz hk hS => kk u hp H1 locs1 ls (by rw [← ht]; exact hB) hS h3)
theorem pw_callVr (C : Cx p s m args c cc nL own X) {y : MethodName} {ws : List Cond} {rm : Room} {bytes : ByteArray} {maxL index n : Nat} {ret : Option FieldType} {As rest : List Value} {g i ci : Nat} {fs : List Value} {q9 : vw_C} {g9 i9 : Nat} {post : Wd → Prop} (hM : CtR l y ws rm X w (.ref (pw_a X g i) :: As) g9 i9 post) (hd : pw_d X g i) (hw : w g i = oB ci fs) (hc : vwCl[ci]? = some q9) (cw : CallW R s args own q9.1 index y bytes maxL ret ws rm 0 0 n) (hn : As.length = n) (hst : st = As.reverse ++ .ref (pw_a X g i) :: rest) (hcat : (rest.map fun v => v.category).sum ≤ 8) (hdg : decode cc pc = .ok (.invokevirtual index, 3)) (hf : cells ≤ R.cells ∧ slots ≤ R.slots) (kk : ∀ w' : Wd, post w' → MW p l e R s m args below meth c X nL cells slots Q w' (pc + 3) lv (.ref (pw_a X g9 i9) :: rest)) : MW p l e R s m args below meth c X nL cells slots Q w pc lv st := fun H locs ls h1 h2 h3 => by
  subst hst
  exact va_callr (va_runV (As := As) (rest := rest) C.1 hM cw (pw_preV C h1 h2 hd hw hc As) rfl hn h3.1 rfl (lv_room hcat) hdg hf) h2 (fun q _ h => h) (fun q h => h) (fun u ra t H1 locs1 ht hvm hp hB hz hk hS => by
    obtain ⟨hB1, hB2⟩ := hB
    subst hB1
    exact kk u hp H1 locs1 ls (by rw [← ht]; exact hB2) hS h3)
theorem pw_callVNi (C : Cx p s m args c cc nL own X) {y : MethodName} {ws : List Cond} {rm : Room} {bytes : ByteArray} {maxL index n : Nat} {ret : Option FieldType} {As rest : List Value} {g i ci : Nat} {fs : List Value} {q9 : vw_C} {post : Int32 → Wd → Prop} (hM : CtI l y ws rm X w (.ref (pw_a X g i) :: As) post) (hd : pw_d X g i) (hw : w g i = oB ci fs) (hc : vwCl[ci]? = some q9) {host : String} (cw : va_CN R s args own index y host bytes maxL ret ws rm 0 0 n ∧ (Cond.instanceMethod y).before args s = true ∧ (Cond.selects q9.1 y y).before args s = true) (hn : As.length = n) (hst : st = As.reverse ++ .ref (pw_a X g i) :: rest) (hcat : (rest.map fun v => v.category).sum ≤ 8) (hdg : decode cc pc = .ok (.invokevirtual index, 3)) (hf : cells ≤ R.cells ∧ slots ≤ R.slots) (kk : ∀ (r : Int32) (w' : Wd), post r w' → MW p l e R s m args below meth c X nL cells slots Q w' (pc + 3) lv (.int r :: rest)) : MW p l e R s m args below meth c X nL cells slots Q w pc lv st := fun H locs ls h1 h2 h3 => by
  subst hst
  exact va_calli (va_runVN (As := As) (rest := rest) C.1 hM cw (pw_preV C h1 h2 hd hw hc As) rfl hn h3.1 rfl (lv_room hcat) hdg hf) h2 (fun q _ h => h) (fun q h => h) (fun r u t H1 locs1 ht hvm hp hB hz hk hS => kk r u hp H1 locs1 ls (by rw [← ht]; exact hB) hS h3)
theorem pw_callVNl (C : Cx p s m args c cc nL own X) {y : MethodName} {ws : List Cond} {rm : Room} {bytes : ByteArray} {maxL index n : Nat} {ret : Option FieldType} {As rest : List Value} {g i ci : Nat} {fs : List Value} {q9 : vw_C} {post : Int64 → Wd → Prop} (hM : CtL l y ws rm X w (.ref (pw_a X g i) :: As) post) (hd : pw_d X g i) (hw : w g i = oB ci fs) (hc : vwCl[ci]? = some q9) {host : String} (cw : va_CN R s args own index y host bytes maxL ret ws rm 0 0 n ∧ (Cond.instanceMethod y).before args s = true ∧ (Cond.selects q9.1 y y).before args s = true) (hn : As.length = n) (hst : st = As.reverse ++ .ref (pw_a X g i) :: rest) (hcat : (rest.map fun v => v.category).sum ≤ 8) (hdg : decode cc pc = .ok (.invokevirtual index, 3)) (hf : cells ≤ R.cells ∧ slots ≤ R.slots) (kk : ∀ (r : Int64) (w' : Wd), post r w' → MW p l e R s m args below meth c X nL cells slots Q w' (pc + 3) lv (.long r :: rest)) : MW p l e R s m args below meth c X nL cells slots Q w pc lv st := fun H locs ls h1 h2 h3 => by
  subst hst
  exact va_calll (va_runVN (As := As) (rest := rest) C.1 hM cw (pw_preV C h1 h2 hd hw hc As) rfl hn h3.1 rfl (lv_room hcat) hdg hf) h2 (fun q _ h => h) (fun q h => h) (fun r u t H1 locs1 ht hvm hp hB hz hk hS => kk r u hp H1 locs1 ls (by rw [← ht]; exact hB) hS h3)
theorem pw_callVNv (C : Cx p s m args c cc nL own X) {y : MethodName} {ws : List Cond} {rm : Room} {bytes : ByteArray} {maxL index n : Nat} {ret : Option FieldType} {As rest : List Value} {g i ci : Nat} {fs : List Value} {q9 : vw_C} {post : Wd → Prop} (hM : CtV l y ws rm X w (.ref (pw_a X g i) :: As) post) (hd : pw_d X g i) (hw : w g i = oB ci fs) (hc : vwCl[ci]? = some q9) {host : String} (cw : va_CN R s args own index y host bytes maxL ret ws rm 0 0 n ∧ (Cond.instanceMethod y).before args s = true ∧ (Cond.selects q9.1 y y).before args s = true) (hn : As.length = n) (hst : st = As.reverse ++ .ref (pw_a X g i) :: rest) (hcat : (rest.map fun v => v.category).sum ≤ 8) (hdg : decode cc pc = .ok (.invokevirtual index, 3)) (hf : cells ≤ R.cells ∧ slots ≤ R.slots) (kk : ∀ w' : Wd, post w' → MW p l e R s m args below meth c X nL cells slots Q w' (pc + 3) lv rest) : MW p l e R s m args below meth c X nL cells slots Q w pc lv st := fun H locs ls h1 h2 h3 => by
  subst hst
  exact va_callv (va_runVN (As := As) (rest := rest) C.1 hM cw (pw_preV C h1 h2 hd hw hc As) rfl hn h3.1 rfl (lv_room hcat) hdg hf) h2 (fun q _ h => h) (fun q h => h) (fun u t H1 locs1 ht hvm hp hB hz hk hS => kk u hp H1 locs1 ls (by rw [← ht]; exact hB) hS h3)
theorem pw_callVNr (C : Cx p s m args c cc nL own X) {y : MethodName} {ws : List Cond} {rm : Room} {bytes : ByteArray} {maxL index n : Nat} {ret : Option FieldType} {As rest : List Value} {g i ci : Nat} {fs : List Value} {q9 : vw_C} {g9 i9 : Nat} {post : Wd → Prop} (hM : CtR l y ws rm X w (.ref (pw_a X g i) :: As) g9 i9 post) (hd : pw_d X g i) (hw : w g i = oB ci fs) (hc : vwCl[ci]? = some q9) {host : String} (cw : va_CN R s args own index y host bytes maxL ret ws rm 0 0 n ∧ (Cond.instanceMethod y).before args s = true ∧ (Cond.selects q9.1 y y).before args s = true) (hn : As.length = n) (hst : st = As.reverse ++ .ref (pw_a X g i) :: rest) (hcat : (rest.map fun v => v.category).sum ≤ 8) (hdg : decode cc pc = .ok (.invokevirtual index, 3)) (hf : cells ≤ R.cells ∧ slots ≤ R.slots) (kk : ∀ w' : Wd, post w' → MW p l e R s m args below meth c X nL cells slots Q w' (pc + 3) lv (.ref (pw_a X g9 i9) :: rest)) : MW p l e R s m args below meth c X nL cells slots Q w pc lv st := fun H locs ls h1 h2 h3 => by
  subst hst
  exact va_callr (va_runVN (As := As) (rest := rest) C.1 hM cw (pw_preV C h1 h2 hd hw hc As) rfl hn h3.1 rfl (lv_room hcat) hdg hf) h2 (fun q _ h => h) (fun q h => h) (fun u ra t H1 locs1 ht hvm hp hB hz hk hS => by
    obtain ⟨hB1, hB2⟩ := hB
    subst hB1
    exact kk u hp H1 locs1 ls (by rw [← ht]; exact hB2) hS h3)
/-- the words of a call, out of the tables' -/
theorem pw_cb {y : MethodName} {bytes : ByteArray} {maxL index : Nat} {ret : Option FieldType} {rm : Room} (C : Cx p s m args c cc nL own X) (n : Nat) (hc : Cond.code y bytes maxL ret ∈ pw_all) (hini : Cond.initialized y.cls ∈ pw_all) (hl : Cond.methodLink own index y ∈ pw_all) (hrm : rm.cells = 0 ∧ rm.slots = 0) (hd : y.cls ≠ "java/lang/invoke/MethodHandle" ∧ y.cls ≠ "java/lang/invoke/VarHandle" ∧ (parseMethodDescriptor y.desc).map (fun d => d.parameters.length) = some n) (hR : rm.frames + 1 ≤ R.frames ∧ 8 + (maxL + 11) + rm.locals ≤ R.locals) : CallB R s args own index y bytes maxL ret (pw_ws y bytes maxL ret) rm 0 0 n := callB_of n C.1.2.2.2.2 (pw_gws hc) rfl hrm.1 hrm.2 (C.1.2.2.2.2 _ hini) (C.1.2.2.2.2 _ hl) hd hR
theorem pw_cn {y : MethodName} {bytes : ByteArray} {maxL index : Nat} {ret : Option FieldType} {rm : Room} {host : String} (C : Cx p s m args c cc nL own X) (n : Nat) (hc : Cond.code y bytes maxL ret ∈ pw_all) (hini : Cond.initialized y.cls ∈ pw_all) (hl : Cond.methodLinkNest own index y host ∈ pw_nw) (hrm : rm.cells = 0 ∧ rm.slots = 0) (hd : y.cls ≠ "java/lang/invoke/MethodHandle" ∧ y.cls ≠ "java/lang/invoke/VarHandle" ∧ (parseMethodDescriptor y.desc).map (fun d => d.parameters.length) = some n) (hR : rm.frames + 1 ≤ R.frames ∧ 8 + (maxL + 11) + rm.locals ≤ R.locals) : va_CN R s args own index y host bytes maxL ret (pw_ws y bytes maxL ret) rm 0 0 n := va_cnB n C.1.2.2.2.2 (pw_gws hc) rfl hrm.1 hrm.2 (C.2.1.2 _ hl) (C.1.2.2.2.2 _ hini) hd hR
theorem pw_w {w0 : Cond} (C : Cx p s m args c cc nL own X) (h : w0 ∈ pw_all) : w0.before args s = true := C.1.2.2.2.2 _ h
end PW
end
